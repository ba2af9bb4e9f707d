theorem dX0_init_0 : decode cX0_init 0 = .ok (.aload_n 0, 1) := by decide +kernel
theorem dX0_init_1 : decode cX0_init 1 = .ok (.invokespecial 5, 3) := by decide +kernel
theorem dX0_init_4 : decode cX0_init 4 = .ok (.aload_n 0, 1) := by decide +kernel
theorem dX0_init_5 : decode cX0_init 5 = .ok (.sipush 1575, 3) := by decide +kernel
theorem dX0_init_8 : decode cX0_init 8 = .ok (.newarray .int, 2) := by decide +kernel
theorem dX0_init_10 : decode cX0_init 10 = .ok (.putfield 13, 3) := by decide +kernel
theorem dX0_init_13 : decode cX0_init 13 = .ok (.return_, 1) := by decide +kernel
theorem dX0_length_0 : decode cX0_length 0 = .ok (.aload_n 0, 1) := by decide +kernel
theorem dX0_length_1 : decode cX0_length 1 = .ok (.getfield 17, 3) := by decide +kernel
theorem dX0_length_4 : decode cX0_length 4 = .ok (.ireturn, 1) := by decide +kernel
set_option maxRecDepth 20000 in
theorem ggX0_prepare_X3_copyTo : GoodIn wsX0_prepare wsX3_copyTo := goodIn_r _ [7, 8, 9, 10, 11, 12, 16] (by decide +kernel) (by decide +kernel)
set_option maxRecDepth 20000 in
theorem gX0_prepare_X3_copyTo : GoodIn wsX0_prepare (wsV RX0 24 RX3 yX3_copyTo wsX3_copyTo) := goodIn_app (goodIn_of _ (by decide +kernel)) ggX0_prepare_X3_copyTo
theorem dX0_prepare_0 : decode cX0_prepare 0 = .ok (.aload_n 1, 1) := by decide +kernel
theorem dX0_prepare_1 : decode cX0_prepare 1 = .ok (.aload_n 0, 1) := by decide +kernel
theorem dX0_prepare_2 : decode cX0_prepare 2 = .ok (.getfield 13, 3) := by decide +kernel
theorem dX0_prepare_5 : decode cX0_prepare 5 = .ok (.aload_n 0, 1) := by decide +kernel
theorem dX0_prepare_6 : decode cX0_prepare 6 = .ok (.getfield 21, 3) := by decide +kernel
theorem dX0_prepare_9 : decode cX0_prepare 9 = .ok (.invokevirtual 24, 3) := by decide +kernel
theorem dX0_prepare_12 : decode cX0_prepare 12 = .ok (.return_, 1) := by decide +kernel
theorem dX0_recorded_0 : decode cX0_recorded 0 = .ok (.iload_n 1, 1) := by decide +kernel
theorem dX0_recorded_1 : decode cX0_recorded 1 = .ok (.ifCond .lt 43, 3) := by decide +kernel
theorem dX0_recorded_4 : decode cX0_recorded 4 = .ok (.aload_n 0, 1) := by decide +kernel
theorem dX0_recorded_5 : decode cX0_recorded 5 = .ok (.aload_n 0, 1) := by decide +kernel
theorem dX0_recorded_6 : decode cX0_recorded 6 = .ok (.getfield 21, 3) := by decide +kernel
theorem dX0_recorded_9 : decode cX0_recorded 9 = .ok (.iconst 1, 1) := by decide +kernel
theorem dX0_recorded_10 : decode cX0_recorded 10 = .ok (.iadd, 1) := by decide +kernel
theorem dX0_recorded_11 : decode cX0_recorded 11 = .ok (.bipush 7, 2) := by decide +kernel
theorem dX0_recorded_13 : decode cX0_recorded 13 = .ok (.if_icmp .ge 12, 3) := by decide +kernel
theorem dX0_recorded_16 : decode cX0_recorded 16 = .ok (.aload_n 0, 1) := by decide +kernel
theorem dX0_recorded_17 : decode cX0_recorded 17 = .ok (.getfield 21, 3) := by decide +kernel
theorem dX0_recorded_20 : decode cX0_recorded 20 = .ok (.iconst 1, 1) := by decide +kernel
theorem dX0_recorded_21 : decode cX0_recorded 21 = .ok (.iadd, 1) := by decide +kernel
theorem dX0_recorded_22 : decode cX0_recorded 22 = .ok (.goto 4, 3) := by decide +kernel
theorem dX0_recorded_25 : decode cX0_recorded 25 = .ok (.iconst 0, 1) := by decide +kernel
theorem dX0_recorded_26 : decode cX0_recorded 26 = .ok (.putfield 21, 3) := by decide +kernel
theorem dX0_recorded_29 : decode cX0_recorded 29 = .ok (.aload_n 0, 1) := by decide +kernel
theorem dX0_recorded_30 : decode cX0_recorded 30 = .ok (.aload_n 0, 1) := by decide +kernel
theorem dX0_recorded_31 : decode cX0_recorded 31 = .ok (.getfield 17, 3) := by decide +kernel
theorem dX0_recorded_34 : decode cX0_recorded 34 = .ok (.iconst 1, 1) := by decide +kernel
theorem dX0_recorded_35 : decode cX0_recorded 35 = .ok (.iadd, 1) := by decide +kernel
theorem dX0_recorded_36 : decode cX0_recorded 36 = .ok (.bipush 6, 2) := by decide +kernel
theorem dX0_recorded_38 : decode cX0_recorded 38 = .ok (.invokestatic 28, 3) := by decide +kernel
theorem dX0_recorded_41 : decode cX0_recorded 41 = .ok (.putfield 17, 3) := by decide +kernel
theorem dX0_recorded_44 : decode cX0_recorded 44 = .ok (.iload_n 1, 1) := by decide +kernel
theorem dX0_recorded_45 : decode cX0_recorded 45 = .ok (.ireturn, 1) := by decide +kernel
set_option maxRecDepth 20000 in
theorem ggX0_stepBack_X3_copyFrom : GoodIn wsX0_stepBack wsX3_copyFrom := goodIn_r _ [8, 9, 10, 11, 12, 13, 17] (by decide +kernel) (by decide +kernel)
set_option maxRecDepth 20000 in
theorem gX0_stepBack_X3_copyFrom : GoodIn wsX0_stepBack (wsV RX0 34 RX3 yX3_copyFrom wsX3_copyFrom) := goodIn_app (goodIn_of _ (by decide +kernel)) ggX0_stepBack_X3_copyFrom
theorem dX0_stepBack_0 : decode cX0_stepBack 0 = .ok (.aload_n 0, 1) := by decide +kernel
theorem dX0_stepBack_1 : decode cX0_stepBack 1 = .ok (.getfield 17, 3) := by decide +kernel
theorem dX0_stepBack_4 : decode cX0_stepBack 4 = .ok (.ifCond .ne 6, 3) := by decide +kernel
theorem dX0_stepBack_7 : decode cX0_stepBack 7 = .ok (.bipush (-5), 2) := by decide +kernel
theorem dX0_stepBack_9 : decode cX0_stepBack 9 = .ok (.ireturn, 1) := by decide +kernel
theorem dX0_stepBack_10 : decode cX0_stepBack 10 = .ok (.aload_n 0, 1) := by decide +kernel
theorem dX0_stepBack_11 : decode cX0_stepBack 11 = .ok (.aload_n 0, 1) := by decide +kernel
theorem dX0_stepBack_12 : decode cX0_stepBack 12 = .ok (.getfield 21, 3) := by decide +kernel
theorem dX0_stepBack_15 : decode cX0_stepBack 15 = .ok (.ifCond .le 12, 3) := by decide +kernel
theorem dX0_stepBack_18 : decode cX0_stepBack 18 = .ok (.aload_n 0, 1) := by decide +kernel
theorem dX0_stepBack_19 : decode cX0_stepBack 19 = .ok (.getfield 21, 3) := by decide +kernel
theorem dX0_stepBack_22 : decode cX0_stepBack 22 = .ok (.iconst 1, 1) := by decide +kernel
theorem dX0_stepBack_23 : decode cX0_stepBack 23 = .ok (.isub, 1) := by decide +kernel
theorem dX0_stepBack_24 : decode cX0_stepBack 24 = .ok (.goto 5, 3) := by decide +kernel
theorem dX0_stepBack_27 : decode cX0_stepBack 27 = .ok (.bipush 6, 2) := by decide +kernel
theorem dX0_stepBack_29 : decode cX0_stepBack 29 = .ok (.putfield 21, 3) := by decide +kernel
theorem dX0_stepBack_32 : decode cX0_stepBack 32 = .ok (.aload_n 0, 1) := by decide +kernel
theorem dX0_stepBack_33 : decode cX0_stepBack 33 = .ok (.dup, 1) := by decide +kernel
theorem dX0_stepBack_34 : decode cX0_stepBack 34 = .ok (.getfield 17, 3) := by decide +kernel
theorem dX0_stepBack_37 : decode cX0_stepBack 37 = .ok (.iconst 1, 1) := by decide +kernel
theorem dX0_stepBack_38 : decode cX0_stepBack 38 = .ok (.isub, 1) := by decide +kernel
theorem dX0_stepBack_39 : decode cX0_stepBack 39 = .ok (.putfield 17, 3) := by decide +kernel
theorem dX0_stepBack_42 : decode cX0_stepBack 42 = .ok (.aload_n 1, 1) := by decide +kernel
theorem dX0_stepBack_43 : decode cX0_stepBack 43 = .ok (.aload_n 0, 1) := by decide +kernel
theorem dX0_stepBack_44 : decode cX0_stepBack 44 = .ok (.getfield 13, 3) := by decide +kernel
theorem dX0_stepBack_47 : decode cX0_stepBack 47 = .ok (.aload_n 0, 1) := by decide +kernel
theorem dX0_stepBack_48 : decode cX0_stepBack 48 = .ok (.getfield 21, 3) := by decide +kernel
theorem dX0_stepBack_51 : decode cX0_stepBack 51 = .ok (.invokevirtual 34, 3) := by decide +kernel
theorem dX0_stepBack_54 : decode cX0_stepBack 54 = .ok (.aload_n 0, 1) := by decide +kernel
theorem dX0_stepBack_55 : decode cX0_stepBack 55 = .ok (.getfield 17, 3) := by decide +kernel
theorem dX0_stepBack_58 : decode cX0_stepBack 58 = .ok (.ireturn, 1) := by decide +kernel
theorem dX1_init_0 : decode cX1_init 0 = .ok (.aload_n 0, 1) := by decide +kernel
theorem dX1_init_1 : decode cX1_init 1 = .ok (.invokespecial 3, 3) := by decide +kernel
theorem dX1_init_4 : decode cX1_init 4 = .ok (.aload_n 0, 1) := by decide +kernel
theorem dX1_init_5 : decode cX1_init 5 = .ok (.bipush 80, 2) := by decide +kernel
theorem dX1_init_7 : decode cX1_init 7 = .ok (.newarray .int, 2) := by decide +kernel
theorem dX1_init_9 : decode cX1_init 9 = .ok (.putfield 11, 3) := by decide +kernel
theorem dX1_init_12 : decode cX1_init 12 = .ok (.return_, 1) := by decide +kernel
theorem dX1_length_0 : decode cX1_length 0 = .ok (.aload_n 0, 1) := by decide +kernel
theorem dX1_length_1 : decode cX1_length 1 = .ok (.getfield 15, 3) := by decide +kernel
theorem dX1_length_4 : decode cX1_length 4 = .ok (.ireturn, 1) := by decide +kernel
theorem dX1_codeAt_0 : decode cX1_codeAt 0 = .ok (.iload_n 1, 1) := by decide +kernel
theorem dX1_codeAt_1 : decode cX1_codeAt 1 = .ok (.ifCond .lt 29, 3) := by decide +kernel
theorem dX1_codeAt_4 : decode cX1_codeAt 4 = .ok (.iload_n 1, 1) := by decide +kernel
theorem dX1_codeAt_5 : decode cX1_codeAt 5 = .ok (.aload_n 0, 1) := by decide +kernel
theorem dX1_codeAt_6 : decode cX1_codeAt 6 = .ok (.getfield 15, 3) := by decide +kernel
theorem dX1_codeAt_9 : decode cX1_codeAt 9 = .ok (.if_icmp .ge 21, 3) := by decide +kernel
theorem dX1_codeAt_12 : decode cX1_codeAt 12 = .ok (.iload_n 1, 1) := by decide +kernel
theorem dX1_codeAt_13 : decode cX1_codeAt 13 = .ok (.aload_n 0, 1) := by decide +kernel
theorem dX1_codeAt_14 : decode cX1_codeAt 14 = .ok (.getfield 11, 3) := by decide +kernel
theorem dX1_codeAt_17 : decode cX1_codeAt 17 = .ok (.arraylength, 1) := by decide +kernel
theorem dX1_codeAt_18 : decode cX1_codeAt 18 = .ok (.if_icmp .ge 12, 3) := by decide +kernel
theorem dX1_codeAt_21 : decode cX1_codeAt 21 = .ok (.aload_n 0, 1) := by decide +kernel
theorem dX1_codeAt_22 : decode cX1_codeAt 22 = .ok (.getfield 11, 3) := by decide +kernel
theorem dX1_codeAt_25 : decode cX1_codeAt 25 = .ok (.iload_n 1, 1) := by decide +kernel
theorem dX1_codeAt_26 : decode cX1_codeAt 26 = .ok (.iaload, 1) := by decide +kernel
theorem dX1_codeAt_27 : decode cX1_codeAt 27 = .ok (.goto 4, 3) := by decide +kernel
theorem dX1_codeAt_30 : decode cX1_codeAt 30 = .ok (.iconst 0, 1) := by decide +kernel
theorem dX1_codeAt_31 : decode cX1_codeAt 31 = .ok (.ireturn, 1) := by decide +kernel
theorem dX1_clear_0 : decode cX1_clear 0 = .ok (.aload_n 0, 1) := by decide +kernel
theorem dX1_clear_1 : decode cX1_clear 1 = .ok (.getfield 15, 3) := by decide +kernel
theorem dX1_clear_4 : decode cX1_clear 4 = .ok (.istore_n 1, 1) := by decide +kernel
theorem dX1_clear_5 : decode cX1_clear 5 = .ok (.aload_n 0, 1) := by decide +kernel
theorem dX1_clear_6 : decode cX1_clear 6 = .ok (.iconst 0, 1) := by decide +kernel
theorem dX1_clear_7 : decode cX1_clear 7 = .ok (.putfield 15, 3) := by decide +kernel
theorem dX1_clear_10 : decode cX1_clear 10 = .ok (.iload_n 1, 1) := by decide +kernel
theorem dX1_clear_11 : decode cX1_clear 11 = .ok (.ireturn, 1) := by decide +kernel
set_option maxRecDepth 20000 in
theorem ggX1_append_X1_amountOf : GoodIn wsX1_append wsX1_amountOf := goodIn_r _ [5, 6, 7, 4, 8, 9, 10, 11] (by decide +kernel) (by decide +kernel)
set_option maxRecDepth 20000 in
theorem gX1_append_X1_amountOf : GoodIn wsX1_append (va_wsS RX1 19 yX1_amountOf wsX1_amountOf) := goodIn_app (goodIn_of _ (by decide +kernel)) ggX1_append_X1_amountOf
set_option maxRecDepth 20000 in
theorem ggX1_append_X1_codeIn : GoodIn wsX1_append wsX1_codeIn := goodIn_r _ [8] (by decide +kernel) (by decide +kernel)
set_option maxRecDepth 20000 in
theorem gX1_append_X1_codeIn : GoodIn wsX1_append (va_wsS RX1 23 yX1_codeIn wsX1_codeIn) := goodIn_app (goodIn_of _ (by decide +kernel)) ggX1_append_X1_codeIn
set_option maxRecDepth 20000 in
theorem ggX1_append_X1_add : GoodIn wsX1_append wsX1_add := goodIn_r _ [15, 1, 16, 17, 18] (by decide +kernel) (by decide +kernel)
set_option maxRecDepth 20000 in
theorem gX1_append_X1_add : GoodIn wsX1_append (wsV RX1 27 RX1 yX1_add wsX1_add) := goodIn_app (goodIn_of _ (by decide +kernel)) ggX1_append_X1_add
theorem dX1_append_0 : decode cX1_append 0 = .ok (.lload_n 1, 1) := by decide +kernel
theorem dX1_append_1 : decode cX1_append 1 = .ok (.invokestatic 19, 3) := by decide +kernel
theorem dX1_append_4 : decode cX1_append 4 = .ok (.istore_n 3, 1) := by decide +kernel
theorem dX1_append_5 : decode cX1_append 5 = .ok (.iload_n 3, 1) := by decide +kernel
theorem dX1_append_6 : decode cX1_append 6 = .ok (.ifCond .ne 6, 3) := by decide +kernel
theorem dX1_append_9 : decode cX1_append 9 = .ok (.bipush (-2), 2) := by decide +kernel
theorem dX1_append_11 : decode cX1_append 11 = .ok (.ireturn, 1) := by decide +kernel
theorem dX1_append_12 : decode cX1_append 12 = .ok (.aload_n 0, 1) := by decide +kernel
theorem dX1_append_13 : decode cX1_append 13 = .ok (.getfield 15, 3) := by decide +kernel
theorem dX1_append_16 : decode cX1_append 16 = .ok (.iload_n 3, 1) := by decide +kernel
theorem dX1_append_17 : decode cX1_append 17 = .ok (.iadd, 1) := by decide +kernel
theorem dX1_append_18 : decode cX1_append 18 = .ok (.bipush 80, 2) := by decide +kernel
theorem dX1_append_20 : decode cX1_append 20 = .ok (.if_icmp .le 6, 3) := by decide +kernel
theorem dX1_append_23 : decode cX1_append 23 = .ok (.bipush (-4), 2) := by decide +kernel
theorem dX1_append_25 : decode cX1_append 25 = .ok (.ireturn, 1) := by decide +kernel
theorem dX1_append_26 : decode cX1_append 26 = .ok (.iload_n 3, 1) := by decide +kernel
theorem dX1_append_27 : decode cX1_append 27 = .ok (.iconst 1, 1) := by decide +kernel
theorem dX1_append_28 : decode cX1_append 28 = .ok (.isub, 1) := by decide +kernel
theorem dX1_append_29 : decode cX1_append 29 = .ok (.istore 4, 2) := by decide +kernel
theorem dX1_append_31 : decode cX1_append 31 = .ok (.iload 4, 2) := by decide +kernel
theorem dX1_append_33 : decode cX1_append 33 = .ok (.ifCond .lt 19, 3) := by decide +kernel
theorem dX1_append_36 : decode cX1_append 36 = .ok (.aload_n 0, 1) := by decide +kernel
theorem dX1_append_37 : decode cX1_append 37 = .ok (.lload_n 1, 1) := by decide +kernel
theorem dX1_append_38 : decode cX1_append 38 = .ok (.iload 4, 2) := by decide +kernel
theorem dX1_append_40 : decode cX1_append 40 = .ok (.invokestatic 23, 3) := by decide +kernel
theorem dX1_append_43 : decode cX1_append 43 = .ok (.invokevirtual 27, 3) := by decide +kernel
theorem dX1_append_46 : decode cX1_append 46 = .ok (.iinc 4 (-1), 3) := by decide +kernel
theorem dX1_append_49 : decode cX1_append 49 = .ok (.goto (-18), 3) := by decide +kernel
theorem dX1_append_52 : decode cX1_append 52 = .ok (.aload_n 0, 1) := by decide +kernel
theorem dX1_append_53 : decode cX1_append 53 = .ok (.getfield 15, 3) := by decide +kernel
theorem dX1_append_56 : decode cX1_append 56 = .ok (.ireturn, 1) := by decide +kernel
theorem dX1_add_0 : decode cX1_add 0 = .ok (.aload_n 0, 1) := by decide +kernel
theorem dX1_add_1 : decode cX1_add 1 = .ok (.getfield 15, 3) := by decide +kernel
theorem dX1_add_4 : decode cX1_add 4 = .ok (.ifCond .lt 35, 3) := by decide +kernel
theorem dX1_add_7 : decode cX1_add 7 = .ok (.aload_n 0, 1) := by decide +kernel
theorem dX1_add_8 : decode cX1_add 8 = .ok (.getfield 15, 3) := by decide +kernel
theorem dX1_add_11 : decode cX1_add 11 = .ok (.aload_n 0, 1) := by decide +kernel
theorem dX1_add_12 : decode cX1_add 12 = .ok (.getfield 11, 3) := by decide +kernel
theorem dX1_add_15 : decode cX1_add 15 = .ok (.arraylength, 1) := by decide +kernel
theorem dX1_add_16 : decode cX1_add 16 = .ok (.if_icmp .ge 23, 3) := by decide +kernel
theorem dX1_add_19 : decode cX1_add 19 = .ok (.aload_n 0, 1) := by decide +kernel
theorem dX1_add_20 : decode cX1_add 20 = .ok (.getfield 11, 3) := by decide +kernel
theorem dX1_add_23 : decode cX1_add 23 = .ok (.aload_n 0, 1) := by decide +kernel
theorem dX1_add_24 : decode cX1_add 24 = .ok (.getfield 15, 3) := by decide +kernel
theorem dX1_add_27 : decode cX1_add 27 = .ok (.iload_n 1, 1) := by decide +kernel
theorem dX1_add_28 : decode cX1_add 28 = .ok (.iastore, 1) := by decide +kernel
theorem dX1_add_29 : decode cX1_add 29 = .ok (.aload_n 0, 1) := by decide +kernel
theorem dX1_add_30 : decode cX1_add 30 = .ok (.dup, 1) := by decide +kernel
theorem dX1_add_31 : decode cX1_add 31 = .ok (.getfield 15, 3) := by decide +kernel
theorem dX1_add_34 : decode cX1_add 34 = .ok (.iconst 1, 1) := by decide +kernel
theorem dX1_add_35 : decode cX1_add 35 = .ok (.iadd, 1) := by decide +kernel
theorem dX1_add_36 : decode cX1_add 36 = .ok (.putfield 15, 3) := by decide +kernel
theorem dX1_add_39 : decode cX1_add 39 = .ok (.return_, 1) := by decide +kernel
set_option maxRecDepth 20000 in
theorem ggX1_amountOf_X1_codeIn : GoodIn wsX1_amountOf wsX1_codeIn := goodIn_r _ [4] (by decide +kernel) (by decide +kernel)
set_option maxRecDepth 20000 in
theorem gX1_amountOf_X1_codeIn : GoodIn wsX1_amountOf (va_wsS RX1 23 yX1_codeIn wsX1_codeIn) := goodIn_app (goodIn_of _ (by decide +kernel)) ggX1_amountOf_X1_codeIn
set_option maxRecDepth 20000 in
theorem ggX1_amountOf_X6_outside : GoodIn wsX1_amountOf wsX6_outside := goodIn_r _ [7] (by decide +kernel) (by decide +kernel)
set_option maxRecDepth 20000 in
theorem gX1_amountOf_X6_outside_n31 : GoodIn wsX1_amountOf (wsX6_outside) := ggX1_amountOf_X6_outside
theorem dX1_amountOf_0 : decode cX1_amountOf 0 = .ok (.iconst 0, 1) := by decide +kernel
theorem dX1_amountOf_1 : decode cX1_amountOf 1 = .ok (.istore_n 2, 1) := by decide +kernel
theorem dX1_amountOf_2 : decode cX1_amountOf 2 = .ok (.iload_n 2, 1) := by decide +kernel
theorem dX1_amountOf_3 : decode cX1_amountOf 3 = .ok (.bipush 8, 2) := by decide +kernel
theorem dX1_amountOf_5 : decode cX1_amountOf 5 = .ok (.if_icmp .ge 34, 3) := by decide +kernel
theorem dX1_amountOf_8 : decode cX1_amountOf 8 = .ok (.lload_n 0, 1) := by decide +kernel
theorem dX1_amountOf_9 : decode cX1_amountOf 9 = .ok (.iload_n 2, 1) := by decide +kernel
theorem dX1_amountOf_10 : decode cX1_amountOf 10 = .ok (.invokestatic 23, 3) := by decide +kernel
theorem dX1_amountOf_13 : decode cX1_amountOf 13 = .ok (.ifCond .eq 26, 3) := by decide +kernel
theorem dX1_amountOf_16 : decode cX1_amountOf 16 = .ok (.lload_n 0, 1) := by decide +kernel
theorem dX1_amountOf_17 : decode cX1_amountOf 17 = .ok (.iload_n 2, 1) := by decide +kernel
theorem dX1_amountOf_18 : decode cX1_amountOf 18 = .ok (.invokestatic 23, 3) := by decide +kernel
theorem dX1_amountOf_21 : decode cX1_amountOf 21 = .ok (.bipush 33, 2) := by decide +kernel
theorem dX1_amountOf_23 : decode cX1_amountOf 23 = .ok (.bipush 126, 2) := by decide +kernel
theorem dX1_amountOf_25 : decode cX1_amountOf 25 = .ok (.invokestatic 31, 3) := by decide +kernel
theorem dX1_amountOf_28 : decode cX1_amountOf 28 = .ok (.ifCond .eq 5, 3) := by decide +kernel
theorem dX1_amountOf_31 : decode cX1_amountOf 31 = .ok (.iconst 0, 1) := by decide +kernel
theorem dX1_amountOf_32 : decode cX1_amountOf 32 = .ok (.ireturn, 1) := by decide +kernel
theorem dX1_amountOf_33 : decode cX1_amountOf 33 = .ok (.iinc 2 1, 3) := by decide +kernel
theorem dX1_amountOf_36 : decode cX1_amountOf 36 = .ok (.goto (-34), 3) := by decide +kernel
theorem dX1_amountOf_39 : decode cX1_amountOf 39 = .ok (.iload_n 2, 1) := by decide +kernel
theorem dX1_amountOf_40 : decode cX1_amountOf 40 = .ok (.bipush 8, 2) := by decide +kernel
theorem dX1_amountOf_42 : decode cX1_amountOf 42 = .ok (.if_icmp .ne 7, 3) := by decide +kernel
theorem dX1_amountOf_45 : decode cX1_amountOf 45 = .ok (.iconst 1, 1) := by decide +kernel
theorem dX1_amountOf_46 : decode cX1_amountOf 46 = .ok (.goto 4, 3) := by decide +kernel
theorem dX1_amountOf_49 : decode cX1_amountOf 49 = .ok (.iconst 0, 1) := by decide +kernel
theorem dX1_amountOf_50 : decode cX1_amountOf 50 = .ok (.istore_n 3, 1) := by decide +kernel
theorem dX1_amountOf_51 : decode cX1_amountOf 51 = .ok (.iload_n 3, 1) := by decide +kernel
theorem dX1_amountOf_52 : decode cX1_amountOf 52 = .ok (.ifCond .ne 14, 3) := by decide +kernel
theorem dX1_amountOf_55 : decode cX1_amountOf 55 = .ok (.lload_n 0, 1) := by decide +kernel
theorem dX1_amountOf_56 : decode cX1_amountOf 56 = .ok (.bipush 8, 2) := by decide +kernel
theorem dX1_amountOf_58 : decode cX1_amountOf 58 = .ok (.iload_n 2, 1) := by decide +kernel
theorem dX1_amountOf_59 : decode cX1_amountOf 59 = .ok (.imul, 1) := by decide +kernel
theorem dX1_amountOf_60 : decode cX1_amountOf 60 = .ok (.lushr, 1) := by decide +kernel
theorem dX1_amountOf_61 : decode cX1_amountOf 61 = .ok (.lconst 0, 1) := by decide +kernel
theorem dX1_amountOf_62 : decode cX1_amountOf 62 = .ok (.lcmp, 1) := by decide +kernel
theorem dX1_amountOf_63 : decode cX1_amountOf 63 = .ok (.ifCond .ne 7, 3) := by decide +kernel
theorem dX1_amountOf_66 : decode cX1_amountOf 66 = .ok (.iload_n 2, 1) := by decide +kernel
theorem dX1_amountOf_67 : decode cX1_amountOf 67 = .ok (.goto 4, 3) := by decide +kernel
theorem dX1_amountOf_70 : decode cX1_amountOf 70 = .ok (.iconst 0, 1) := by decide +kernel
theorem dX1_amountOf_71 : decode cX1_amountOf 71 = .ok (.ireturn, 1) := by decide +kernel
theorem dX1_codeIn_0 : decode cX1_codeIn 0 = .ok (.lload_n 0, 1) := by decide +kernel
theorem dX1_codeIn_1 : decode cX1_codeIn 1 = .ok (.bipush 8, 2) := by decide +kernel
theorem dX1_codeIn_3 : decode cX1_codeIn 3 = .ok (.iload_n 2, 1) := by decide +kernel
theorem dX1_codeIn_4 : decode cX1_codeIn 4 = .ok (.imul, 1) := by decide +kernel
theorem dX1_codeIn_5 : decode cX1_codeIn 5 = .ok (.lushr, 1) := by decide +kernel
theorem dX1_codeIn_6 : decode cX1_codeIn 6 = .ok (.l2i, 1) := by decide +kernel
theorem dX1_codeIn_7 : decode cX1_codeIn 7 = .ok (.sipush 255, 3) := by decide +kernel
theorem dX1_codeIn_10 : decode cX1_codeIn 10 = .ok (.iand, 1) := by decide +kernel
theorem dX1_codeIn_11 : decode cX1_codeIn 11 = .ok (.ireturn, 1) := by decide +kernel
theorem dX2_init_0 : decode cX2_init 0 = .ok (.aload_n 0, 1) := by decide +kernel
theorem dX2_init_1 : decode cX2_init 1 = .ok (.invokespecial 5, 3) := by decide +kernel
theorem dX2_init_4 : decode cX2_init 4 = .ok (.aload_n 0, 1) := by decide +kernel
theorem dX2_init_5 : decode cX2_init 5 = .ok (.bipush 40, 2) := by decide +kernel
theorem dX2_init_7 : decode cX2_init 7 = .ok (.newarray .int, 2) := by decide +kernel
theorem dX2_init_9 : decode cX2_init 9 = .ok (.putfield 13, 3) := by decide +kernel
theorem dX2_init_12 : decode cX2_init 12 = .ok (.aload_n 0, 1) := by decide +kernel
theorem dX2_init_13 : decode cX2_init 13 = .ok (.aload_n 1, 1) := by decide +kernel
theorem dX2_init_14 : decode cX2_init 14 = .ok (.putfield 17, 3) := by decide +kernel
theorem dX2_init_17 : decode cX2_init 17 = .ok (.return_, 1) := by decide +kernel
theorem dX2_kind_0 : decode cX2_kind 0 = .ok (.aload_n 0, 1) := by decide +kernel
theorem dX2_kind_1 : decode cX2_kind 1 = .ok (.getfield 21, 3) := by decide +kernel
theorem dX2_kind_4 : decode cX2_kind 4 = .ok (.ireturn, 1) := by decide +kernel
theorem dX2_numbers_0 : decode cX2_numbers 0 = .ok (.aload_n 0, 1) := by decide +kernel
theorem dX2_numbers_1 : decode cX2_numbers 1 = .ok (.getfield 25, 3) := by decide +kernel
theorem dX2_numbers_4 : decode cX2_numbers 4 = .ok (.ireturn, 1) := by decide +kernel
theorem dX2_number_0 : decode cX2_number 0 = .ok (.iload_n 1, 1) := by decide +kernel
theorem dX2_number_1 : decode cX2_number 1 = .ok (.ifCond .lt 21, 3) := by decide +kernel
theorem dX2_number_4 : decode cX2_number 4 = .ok (.iload_n 1, 1) := by decide +kernel
theorem dX2_number_5 : decode cX2_number 5 = .ok (.aload_n 0, 1) := by decide +kernel
theorem dX2_number_6 : decode cX2_number 6 = .ok (.getfield 13, 3) := by decide +kernel
theorem dX2_number_9 : decode cX2_number 9 = .ok (.arraylength, 1) := by decide +kernel
theorem dX2_number_10 : decode cX2_number 10 = .ok (.if_icmp .ge 12, 3) := by decide +kernel
theorem dX2_number_13 : decode cX2_number 13 = .ok (.aload_n 0, 1) := by decide +kernel
theorem dX2_number_14 : decode cX2_number 14 = .ok (.getfield 13, 3) := by decide +kernel
theorem dX2_number_17 : decode cX2_number 17 = .ok (.iload_n 1, 1) := by decide +kernel
theorem dX2_number_18 : decode cX2_number 18 = .ok (.iaload, 1) := by decide +kernel
theorem dX2_number_19 : decode cX2_number 19 = .ok (.goto 4, 3) := by decide +kernel
theorem dX2_number_22 : decode cX2_number 22 = .ok (.iconst 0, 1) := by decide +kernel
theorem dX2_number_23 : decode cX2_number 23 = .ok (.ireturn, 1) := by decide +kernel
theorem dX2_begin_0 : decode cX2_begin 0 = .ok (.aload_n 0, 1) := by decide +kernel
theorem dX2_begin_1 : decode cX2_begin 1 = .ok (.iconst 0, 1) := by decide +kernel
theorem dX2_begin_2 : decode cX2_begin 2 = .ok (.putfield 28, 3) := by decide +kernel
theorem dX2_begin_5 : decode cX2_begin 5 = .ok (.return_, 1) := by decide +kernel
set_option maxRecDepth 20000 in
theorem ggX2_firstFault_X2_begin : GoodIn wsX2_firstFault wsX2_begin := goodIn_r _ [7, 1, 57, 58, 59, 60, 61] (by decide +kernel) (by decide +kernel)
set_option maxRecDepth 20000 in
theorem gX2_firstFault_X2_begin : GoodIn wsX2_firstFault (wsV RX2 31 RX2 yX2_begin wsX2_begin) := goodIn_app (goodIn_of _ (by decide +kernel)) ggX2_firstFault_X2_begin
set_option maxRecDepth 20000 in
theorem ggX2_firstFault_X2_readOrder : GoodIn wsX2_firstFault wsX2_readOrder := goodIn_r _ [11, 12, 2, 1, 13, 14, 15, 16, 17, 18, 19, 20, 21, 22, 23, 6, 24, 25, 26, 27, 28, 29, 30, 31, 32, 33, 34, 35, 36, 37, 38, 39, 40, 41, 42, 43, 44, 45, 46, 47, 48, 49, 50, 51, 52, 57, 58, 59, 60, 61, 62, 63] (by decide +kernel) (by decide +kernel)
set_option maxRecDepth 20000 in
theorem gX2_firstFault_X2_readOrder : GoodIn wsX2_firstFault (wsV RX2 34 RX2 yX2_readOrder wsX2_readOrder) := goodIn_app (goodIn_of _ (by decide +kernel)) ggX2_firstFault_X2_readOrder
set_option maxRecDepth 20000 in
theorem ggX2_firstFault_X1_length : GoodIn wsX2_firstFault wsX1_length := goodIn_r _ [56, 19, 62, 63] (by decide +kernel) (by decide +kernel)
set_option maxRecDepth 20000 in
theorem gX2_firstFault_X1_length : GoodIn wsX2_firstFault (wsV RX2 38 RX1 yX1_length wsX1_length) := goodIn_app (goodIn_of _ (by decide +kernel)) ggX2_firstFault_X1_length
set_option maxRecDepth 20000 in
theorem ggX2_firstFault_X2_skip : GoodIn wsX2_firstFault wsX2_skip := goodIn_r _ [24, 2, 1, 14, 15, 16, 17, 18, 19, 20, 57, 58, 59, 60, 61, 62, 63] (by decide +kernel) (by decide +kernel)
set_option maxRecDepth 20000 in
theorem gX2_firstFault_X2_skip : GoodIn wsX2_firstFault (wsV RX2 42 RX2 yX2_skip wsX2_skip) := goodIn_app (goodIn_of _ (by decide +kernel)) ggX2_firstFault_X2_skip
theorem dX2_firstFault_0 : decode cX2_firstFault 0 = .ok (.aload_n 0, 1) := by decide +kernel
theorem dX2_firstFault_1 : decode cX2_firstFault 1 = .ok (.invokevirtual 31, 3) := by decide +kernel
theorem dX2_firstFault_4 : decode cX2_firstFault 4 = .ok (.iconst 0, 1) := by decide +kernel
theorem dX2_firstFault_5 : decode cX2_firstFault 5 = .ok (.istore_n 1, 1) := by decide +kernel
theorem dX2_firstFault_6 : decode cX2_firstFault 6 = .ok (.iload_n 1, 1) := by decide +kernel
theorem dX2_firstFault_7 : decode cX2_firstFault 7 = .ok (.bipush 80, 2) := by decide +kernel
theorem dX2_firstFault_9 : decode cX2_firstFault 9 = .ok (.if_icmp .ge 52, 3) := by decide +kernel
theorem dX2_firstFault_12 : decode cX2_firstFault 12 = .ok (.aload_n 0, 1) := by decide +kernel
theorem dX2_firstFault_13 : decode cX2_firstFault 13 = .ok (.invokevirtual 34, 3) := by decide +kernel
theorem dX2_firstFault_16 : decode cX2_firstFault 16 = .ok (.ifCond .ne 8, 3) := by decide +kernel
theorem dX2_firstFault_19 : decode cX2_firstFault 19 = .ok (.aload_n 0, 1) := by decide +kernel
theorem dX2_firstFault_20 : decode cX2_firstFault 20 = .ok (.getfield 28, 3) := by decide +kernel
theorem dX2_firstFault_23 : decode cX2_firstFault 23 = .ok (.ireturn, 1) := by decide +kernel
theorem dX2_firstFault_24 : decode cX2_firstFault 24 = .ok (.aload_n 0, 1) := by decide +kernel
theorem dX2_firstFault_25 : decode cX2_firstFault 25 = .ok (.getfield 28, 3) := by decide +kernel
theorem dX2_firstFault_28 : decode cX2_firstFault 28 = .ok (.aload_n 0, 1) := by decide +kernel
theorem dX2_firstFault_29 : decode cX2_firstFault 29 = .ok (.getfield 17, 3) := by decide +kernel
theorem dX2_firstFault_32 : decode cX2_firstFault 32 = .ok (.invokevirtual 38, 3) := by decide +kernel
theorem dX2_firstFault_35 : decode cX2_firstFault 35 = .ok (.if_icmp .ne 6, 3) := by decide +kernel
theorem dX2_firstFault_38 : decode cX2_firstFault 38 = .ok (.bipush (-6), 2) := by decide +kernel
theorem dX2_firstFault_40 : decode cX2_firstFault 40 = .ok (.ireturn, 1) := by decide +kernel
theorem dX2_firstFault_41 : decode cX2_firstFault 41 = .ok (.aload_n 0, 1) := by decide +kernel
theorem dX2_firstFault_42 : decode cX2_firstFault 42 = .ok (.bipush 59, 2) := by decide +kernel
theorem dX2_firstFault_44 : decode cX2_firstFault 44 = .ok (.invokevirtual 42, 3) := by decide +kernel
theorem dX2_firstFault_47 : decode cX2_firstFault 47 = .ok (.ifCond .ne 8, 3) := by decide +kernel
theorem dX2_firstFault_50 : decode cX2_firstFault 50 = .ok (.aload_n 0, 1) := by decide +kernel
theorem dX2_firstFault_51 : decode cX2_firstFault 51 = .ok (.getfield 28, 3) := by decide +kernel
theorem dX2_firstFault_54 : decode cX2_firstFault 54 = .ok (.ireturn, 1) := by decide +kernel
theorem dX2_firstFault_55 : decode cX2_firstFault 55 = .ok (.iinc 1 1, 3) := by decide +kernel
theorem dX2_firstFault_58 : decode cX2_firstFault 58 = .ok (.goto (-52), 3) := by decide +kernel
theorem dX2_firstFault_61 : decode cX2_firstFault 61 = .ok (.aload_n 0, 1) := by decide +kernel
theorem dX2_firstFault_62 : decode cX2_firstFault 62 = .ok (.getfield 28, 3) := by decide +kernel
theorem dX2_firstFault_65 : decode cX2_firstFault 65 = .ok (.ireturn, 1) := by decide +kernel
set_option maxRecDepth 20000 in
theorem ggX2_readOrder_X1_codeAt : GoodIn wsX2_readOrder wsX1_codeAt := goodIn_r _ [9, 10, 11, 50, 51] (by decide +kernel) (by decide +kernel)
set_option maxRecDepth 20000 in
theorem gX2_readOrder_X1_codeAt : GoodIn wsX2_readOrder (wsV RX2 46 RX1 yX1_codeAt wsX1_codeAt) := goodIn_app (goodIn_of _ (by decide +kernel)) ggX2_readOrder_X1_codeAt
set_option maxRecDepth 20000 in
theorem ggX2_readOrder_X2_skip : GoodIn wsX2_readOrder wsX2_skip := goodIn_r _ [16, 2, 3, 5, 6, 7, 8, 9, 10, 11, 45, 46, 47, 48, 49, 50, 51] (by decide +kernel) (by decide +kernel)
set_option maxRecDepth 20000 in
theorem gX2_readOrder_X2_skip : GoodIn wsX2_readOrder (wsV RX2 42 RX2 yX2_skip wsX2_skip) := goodIn_app (goodIn_of _ (by decide +kernel)) ggX2_readOrder_X2_skip
set_option maxRecDepth 20000 in
theorem ggX2_readOrder_X2_readValues : GoodIn wsX2_readOrder wsX2_readValues := goodIn_r _ [20, 21, 22, 23, 15, 24, 12, 13, 14, 16, 2, 3, 5, 6, 7, 8, 9, 10, 11, 25, 26, 27, 28, 29, 30, 31, 32, 33, 34, 35, 36, 37, 38, 39, 1, 40, 45, 46, 47, 48, 49, 50, 51] (by decide +kernel) (by decide +kernel)
set_option maxRecDepth 20000 in
theorem gX2_readOrder_X2_readValues : GoodIn wsX2_readOrder (wsV RX2 50 RX2 yX2_readValues wsX2_readValues) := goodIn_app (goodIn_of _ (by decide +kernel)) ggX2_readOrder_X2_readValues
set_option maxRecDepth 20000 in
theorem ggX2_readOrder_X2_readNumber : GoodIn wsX2_readOrder wsX2_readNumber := goodIn_r _ [44, 25, 26, 27, 15, 28, 2, 3, 5, 6, 7, 8, 9, 10, 11, 29, 30, 31, 32, 33, 34, 35, 36, 37, 38, 39, 1, 40, 45, 46, 47, 48, 49, 50, 51] (by decide +kernel) (by decide +kernel)
set_option maxRecDepth 20000 in
theorem gX2_readOrder_X2_readNumber : GoodIn wsX2_readOrder (wsV RX2 53 RX2 yX2_readNumber wsX2_readNumber) := goodIn_app (goodIn_of _ (by decide +kernel)) ggX2_readOrder_X2_readNumber
set_option maxRecDepth 20000 in
theorem ggX2_readOrder_X2_readValue : GoodIn wsX2_readOrder wsX2_readValue := goodIn_r _ [24, 12, 13, 14, 15, 16, 2, 3, 5, 6, 7, 8, 9, 10, 11, 25, 26, 27, 28, 29, 30, 31, 32, 33, 34, 35, 36, 37, 38, 39, 1, 40, 45, 46, 47, 48, 49, 50, 51] (by decide +kernel) (by decide +kernel)
set_option maxRecDepth 20000 in
theorem gX2_readOrder_X2_readValue : GoodIn wsX2_readOrder (wsV RX2 56 RX2 yX2_readValue wsX2_readValue) := goodIn_app (goodIn_of _ (by decide +kernel)) ggX2_readOrder_X2_readValue
theorem dX2_readOrder_0 : decode cX2_readOrder 0 = .ok (.aload_n 0, 1) := by decide +kernel
theorem dX2_readOrder_1 : decode cX2_readOrder 1 = .ok (.iconst 0, 1) := by decide +kernel
theorem dX2_readOrder_2 : decode cX2_readOrder 2 = .ok (.putfield 25, 3) := by decide +kernel
theorem dX2_readOrder_5 : decode cX2_readOrder 5 = .ok (.aload_n 0, 1) := by decide +kernel
theorem dX2_readOrder_6 : decode cX2_readOrder 6 = .ok (.aload_n 0, 1) := by decide +kernel
theorem dX2_readOrder_7 : decode cX2_readOrder 7 = .ok (.getfield 17, 3) := by decide +kernel
theorem dX2_readOrder_10 : decode cX2_readOrder 10 = .ok (.aload_n 0, 1) := by decide +kernel
theorem dX2_readOrder_11 : decode cX2_readOrder 11 = .ok (.getfield 28, 3) := by decide +kernel
theorem dX2_readOrder_14 : decode cX2_readOrder 14 = .ok (.invokevirtual 46, 3) := by decide +kernel
theorem dX2_readOrder_17 : decode cX2_readOrder 17 = .ok (.putfield 21, 3) := by decide +kernel
theorem dX2_readOrder_20 : decode cX2_readOrder 20 = .ok (.aload_n 0, 1) := by decide +kernel
theorem dX2_readOrder_21 : decode cX2_readOrder 21 = .ok (.getfield 21, 3) := by decide +kernel
theorem dX2_readOrder_24 : decode cX2_readOrder 24 = .ok (.lookupswitch 244 #[(43, 44), (102, 190), (109, 168), (114, 66)], 44) := by decide +kernel
theorem dX2_readOrder_68 : decode cX2_readOrder 68 = .ok (.aload_n 0, 1) := by decide +kernel
theorem dX2_readOrder_69 : decode cX2_readOrder 69 = .ok (.bipush 43, 2) := by decide +kernel
theorem dX2_readOrder_71 : decode cX2_readOrder 71 = .ok (.invokevirtual 42, 3) := by decide +kernel
theorem dX2_readOrder_74 : decode cX2_readOrder 74 = .ok (.ifCond .eq 14, 3) := by decide +kernel
theorem dX2_readOrder_77 : decode cX2_readOrder 77 = .ok (.aload_n 0, 1) := by decide +kernel
theorem dX2_readOrder_78 : decode cX2_readOrder 78 = .ok (.invokevirtual 50, 3) := by decide +kernel
theorem dX2_readOrder_81 : decode cX2_readOrder 81 = .ok (.ifCond .eq 7, 3) := by decide +kernel
theorem dX2_readOrder_84 : decode cX2_readOrder 84 = .ok (.iconst 1, 1) := by decide +kernel
theorem dX2_readOrder_85 : decode cX2_readOrder 85 = .ok (.goto 4, 3) := by decide +kernel
theorem dX2_readOrder_88 : decode cX2_readOrder 88 = .ok (.iconst 0, 1) := by decide +kernel
theorem dX2_readOrder_89 : decode cX2_readOrder 89 = .ok (.ireturn, 1) := by decide +kernel
theorem dX2_readOrder_90 : decode cX2_readOrder 90 = .ok (.aload_n 0, 1) := by decide +kernel
theorem dX2_readOrder_91 : decode cX2_readOrder 91 = .ok (.bipush 114, 2) := by decide +kernel
theorem dX2_readOrder_93 : decode cX2_readOrder 93 = .ok (.invokevirtual 42, 3) := by decide +kernel
theorem dX2_readOrder_96 : decode cX2_readOrder 96 = .ok (.ifCond .eq 94, 3) := by decide +kernel
theorem dX2_readOrder_99 : decode cX2_readOrder 99 = .ok (.aload_n 0, 1) := by decide +kernel
theorem dX2_readOrder_100 : decode cX2_readOrder 100 = .ok (.invokevirtual 53, 3) := by decide +kernel
theorem dX2_readOrder_103 : decode cX2_readOrder 103 = .ok (.ifCond .eq 87, 3) := by decide +kernel
theorem dX2_readOrder_106 : decode cX2_readOrder 106 = .ok (.aload_n 0, 1) := by decide +kernel
theorem dX2_readOrder_107 : decode cX2_readOrder 107 = .ok (.bipush 47, 2) := by decide +kernel
theorem dX2_readOrder_109 : decode cX2_readOrder 109 = .ok (.invokevirtual 42, 3) := by decide +kernel
theorem dX2_readOrder_112 : decode cX2_readOrder 112 = .ok (.ifCond .eq 78, 3) := by decide +kernel
theorem dX2_readOrder_115 : decode cX2_readOrder 115 = .ok (.aload_n 0, 1) := by decide +kernel
theorem dX2_readOrder_116 : decode cX2_readOrder 116 = .ok (.invokevirtual 53, 3) := by decide +kernel
theorem dX2_readOrder_119 : decode cX2_readOrder 119 = .ok (.ifCond .eq 71, 3) := by decide +kernel
theorem dX2_readOrder_122 : decode cX2_readOrder 122 = .ok (.aload_n 0, 1) := by decide +kernel
theorem dX2_readOrder_123 : decode cX2_readOrder 123 = .ok (.bipush 64, 2) := by decide +kernel
theorem dX2_readOrder_125 : decode cX2_readOrder 125 = .ok (.invokevirtual 42, 3) := by decide +kernel
theorem dX2_readOrder_128 : decode cX2_readOrder 128 = .ok (.ifCond .eq 62, 3) := by decide +kernel
theorem dX2_readOrder_131 : decode cX2_readOrder 131 = .ok (.aload_n 0, 1) := by decide +kernel
theorem dX2_readOrder_132 : decode cX2_readOrder 132 = .ok (.invokevirtual 53, 3) := by decide +kernel
theorem dX2_readOrder_135 : decode cX2_readOrder 135 = .ok (.ifCond .eq 55, 3) := by decide +kernel
theorem dX2_readOrder_138 : decode cX2_readOrder 138 = .ok (.aload_n 0, 1) := by decide +kernel
theorem dX2_readOrder_139 : decode cX2_readOrder 139 = .ok (.bipush 95, 2) := by decide +kernel
theorem dX2_readOrder_141 : decode cX2_readOrder 141 = .ok (.invokevirtual 42, 3) := by decide +kernel
theorem dX2_readOrder_144 : decode cX2_readOrder 144 = .ok (.ifCond .eq 46, 3) := by decide +kernel
theorem dX2_readOrder_147 : decode cX2_readOrder 147 = .ok (.aload_n 0, 1) := by decide +kernel
theorem dX2_readOrder_148 : decode cX2_readOrder 148 = .ok (.invokevirtual 53, 3) := by decide +kernel
theorem dX2_readOrder_151 : decode cX2_readOrder 151 = .ok (.ifCond .eq 39, 3) := by decide +kernel
theorem dX2_readOrder_154 : decode cX2_readOrder 154 = .ok (.aload_n 0, 1) := by decide +kernel
theorem dX2_readOrder_155 : decode cX2_readOrder 155 = .ok (.bipush 58, 2) := by decide +kernel
theorem dX2_readOrder_157 : decode cX2_readOrder 157 = .ok (.invokevirtual 42, 3) := by decide +kernel
theorem dX2_readOrder_160 : decode cX2_readOrder 160 = .ok (.ifCond .eq 30, 3) := by decide +kernel
theorem dX2_readOrder_163 : decode cX2_readOrder 163 = .ok (.aload_n 0, 1) := by decide +kernel
theorem dX2_readOrder_164 : decode cX2_readOrder 164 = .ok (.invokevirtual 53, 3) := by decide +kernel
theorem dX2_readOrder_167 : decode cX2_readOrder 167 = .ok (.ifCond .eq 23, 3) := by decide +kernel
theorem dX2_readOrder_170 : decode cX2_readOrder 170 = .ok (.aload_n 0, 1) := by decide +kernel
theorem dX2_readOrder_171 : decode cX2_readOrder 171 = .ok (.bipush 42, 2) := by decide +kernel
theorem dX2_readOrder_173 : decode cX2_readOrder 173 = .ok (.invokevirtual 42, 3) := by decide +kernel
theorem dX2_readOrder_176 : decode cX2_readOrder 176 = .ok (.ifCond .eq 14, 3) := by decide +kernel
theorem dX2_readOrder_179 : decode cX2_readOrder 179 = .ok (.aload_n 0, 1) := by decide +kernel
theorem dX2_readOrder_180 : decode cX2_readOrder 180 = .ok (.invokevirtual 53, 3) := by decide +kernel
theorem dX2_readOrder_183 : decode cX2_readOrder 183 = .ok (.ifCond .eq 7, 3) := by decide +kernel
theorem dX2_readOrder_186 : decode cX2_readOrder 186 = .ok (.iconst 1, 1) := by decide +kernel
theorem dX2_readOrder_187 : decode cX2_readOrder 187 = .ok (.goto 4, 3) := by decide +kernel
theorem dX2_readOrder_190 : decode cX2_readOrder 190 = .ok (.iconst 0, 1) := by decide +kernel
theorem dX2_readOrder_191 : decode cX2_readOrder 191 = .ok (.ireturn, 1) := by decide +kernel
theorem dX2_readOrder_192 : decode cX2_readOrder 192 = .ok (.aload_n 0, 1) := by decide +kernel
theorem dX2_readOrder_193 : decode cX2_readOrder 193 = .ok (.bipush 109, 2) := by decide +kernel
theorem dX2_readOrder_195 : decode cX2_readOrder 195 = .ok (.invokevirtual 42, 3) := by decide +kernel
theorem dX2_readOrder_198 : decode cX2_readOrder 198 = .ok (.ifCond .eq 14, 3) := by decide +kernel
theorem dX2_readOrder_201 : decode cX2_readOrder 201 = .ok (.aload_n 0, 1) := by decide +kernel
theorem dX2_readOrder_202 : decode cX2_readOrder 202 = .ok (.invokevirtual 53, 3) := by decide +kernel
theorem dX2_readOrder_205 : decode cX2_readOrder 205 = .ok (.ifCond .eq 7, 3) := by decide +kernel
theorem dX2_readOrder_208 : decode cX2_readOrder 208 = .ok (.iconst 1, 1) := by decide +kernel
theorem dX2_readOrder_209 : decode cX2_readOrder 209 = .ok (.goto 4, 3) := by decide +kernel
theorem dX2_readOrder_212 : decode cX2_readOrder 212 = .ok (.iconst 0, 1) := by decide +kernel
theorem dX2_readOrder_213 : decode cX2_readOrder 213 = .ok (.ireturn, 1) := by decide +kernel
theorem dX2_readOrder_214 : decode cX2_readOrder 214 = .ok (.aload_n 0, 1) := by decide +kernel
theorem dX2_readOrder_215 : decode cX2_readOrder 215 = .ok (.bipush 102, 2) := by decide +kernel
theorem dX2_readOrder_217 : decode cX2_readOrder 217 = .ok (.invokevirtual 42, 3) := by decide +kernel
theorem dX2_readOrder_220 : decode cX2_readOrder 220 = .ok (.ifCond .eq 46, 3) := by decide +kernel
theorem dX2_readOrder_223 : decode cX2_readOrder 223 = .ok (.aload_n 0, 1) := by decide +kernel
theorem dX2_readOrder_224 : decode cX2_readOrder 224 = .ok (.invokevirtual 53, 3) := by decide +kernel
theorem dX2_readOrder_227 : decode cX2_readOrder 227 = .ok (.ifCond .eq 39, 3) := by decide +kernel
theorem dX2_readOrder_230 : decode cX2_readOrder 230 = .ok (.aload_n 0, 1) := by decide +kernel
theorem dX2_readOrder_231 : decode cX2_readOrder 231 = .ok (.bipush 46, 2) := by decide +kernel
theorem dX2_readOrder_233 : decode cX2_readOrder 233 = .ok (.invokevirtual 42, 3) := by decide +kernel
theorem dX2_readOrder_236 : decode cX2_readOrder 236 = .ok (.ifCond .eq 30, 3) := by decide +kernel
theorem dX2_readOrder_239 : decode cX2_readOrder 239 = .ok (.aload_n 0, 1) := by decide +kernel
theorem dX2_readOrder_240 : decode cX2_readOrder 240 = .ok (.invokevirtual 53, 3) := by decide +kernel
theorem dX2_readOrder_243 : decode cX2_readOrder 243 = .ok (.ifCond .eq 23, 3) := by decide +kernel
theorem dX2_readOrder_246 : decode cX2_readOrder 246 = .ok (.aload_n 0, 1) := by decide +kernel
theorem dX2_readOrder_247 : decode cX2_readOrder 247 = .ok (.bipush 61, 2) := by decide +kernel
theorem dX2_readOrder_249 : decode cX2_readOrder 249 = .ok (.invokevirtual 42, 3) := by decide +kernel
theorem dX2_readOrder_252 : decode cX2_readOrder 252 = .ok (.ifCond .eq 14, 3) := by decide +kernel
theorem dX2_readOrder_255 : decode cX2_readOrder 255 = .ok (.aload_n 0, 1) := by decide +kernel
theorem dX2_readOrder_256 : decode cX2_readOrder 256 = .ok (.invokevirtual 56, 3) := by decide +kernel
theorem dX2_readOrder_259 : decode cX2_readOrder 259 = .ok (.ifCond .eq 7, 3) := by decide +kernel
theorem dX2_readOrder_262 : decode cX2_readOrder 262 = .ok (.iconst 1, 1) := by decide +kernel
theorem dX2_readOrder_263 : decode cX2_readOrder 263 = .ok (.goto 4, 3) := by decide +kernel
theorem dX2_readOrder_266 : decode cX2_readOrder 266 = .ok (.iconst 0, 1) := by decide +kernel
theorem dX2_readOrder_267 : decode cX2_readOrder 267 = .ok (.ireturn, 1) := by decide +kernel
theorem dX2_readOrder_268 : decode cX2_readOrder 268 = .ok (.iconst 0, 1) := by decide +kernel
theorem dX2_readOrder_269 : decode cX2_readOrder 269 = .ok (.ireturn, 1) := by decide +kernel
set_option maxRecDepth 20000 in
theorem ggX2_skip_X1_codeAt : GoodIn wsX2_skip wsX1_codeAt := goodIn_r _ [7, 8, 9, 15, 16] (by decide +kernel) (by decide +kernel)
set_option maxRecDepth 20000 in
theorem gX2_skip_X1_codeAt : GoodIn wsX2_skip (wsV RX2 46 RX1 yX1_codeAt wsX1_codeAt) := goodIn_app (goodIn_of _ (by decide +kernel)) ggX2_skip_X1_codeAt
theorem dX2_skip_0 : decode cX2_skip 0 = .ok (.aload_n 0, 1) := by decide +kernel
theorem dX2_skip_1 : decode cX2_skip 1 = .ok (.getfield 17, 3) := by decide +kernel
theorem dX2_skip_4 : decode cX2_skip 4 = .ok (.aload_n 0, 1) := by decide +kernel
theorem dX2_skip_5 : decode cX2_skip 5 = .ok (.getfield 28, 3) := by decide +kernel
theorem dX2_skip_8 : decode cX2_skip 8 = .ok (.invokevirtual 46, 3) := by decide +kernel
theorem dX2_skip_11 : decode cX2_skip 11 = .ok (.iload_n 1, 1) := by decide +kernel
theorem dX2_skip_12 : decode cX2_skip 12 = .ok (.if_icmp .eq 5, 3) := by decide +kernel
theorem dX2_skip_15 : decode cX2_skip 15 = .ok (.iconst 0, 1) := by decide +kernel
theorem dX2_skip_16 : decode cX2_skip 16 = .ok (.ireturn, 1) := by decide +kernel
theorem dX2_skip_17 : decode cX2_skip 17 = .ok (.aload_n 0, 1) := by decide +kernel
theorem dX2_skip_18 : decode cX2_skip 18 = .ok (.dup, 1) := by decide +kernel
theorem dX2_skip_19 : decode cX2_skip 19 = .ok (.getfield 28, 3) := by decide +kernel
theorem dX2_skip_22 : decode cX2_skip 22 = .ok (.iconst 1, 1) := by decide +kernel
theorem dX2_skip_23 : decode cX2_skip 23 = .ok (.iadd, 1) := by decide +kernel
theorem dX2_skip_24 : decode cX2_skip 24 = .ok (.putfield 28, 3) := by decide +kernel
theorem dX2_skip_27 : decode cX2_skip 27 = .ok (.iconst 1, 1) := by decide +kernel
theorem dX2_skip_28 : decode cX2_skip 28 = .ok (.ireturn, 1) := by decide +kernel
set_option maxRecDepth 20000 in
theorem ggX2_readValues_X2_readValue : GoodIn wsX2_readValues wsX2_readValue := goodIn_r _ [5, 6, 7, 8, 4, 9, 10, 11, 12, 13, 14, 15, 16, 17, 18, 19, 20, 21, 22, 23, 24, 25, 26, 27, 28, 29, 30, 31, 32, 33, 34, 35, 36, 37, 38, 39, 40, 41, 42] (by decide +kernel) (by decide +kernel)
set_option maxRecDepth 20000 in
theorem gX2_readValues_X2_readValue : GoodIn wsX2_readValues (wsV RX2 56 RX2 yX2_readValue wsX2_readValue) := goodIn_app (goodIn_of _ (by decide +kernel)) ggX2_readValues_X2_readValue
set_option maxRecDepth 20000 in
theorem ggX2_readValues_X2_skip : GoodIn wsX2_readValues wsX2_skip := goodIn_r _ [9, 10, 11, 12, 13, 14, 15, 16, 17, 18, 36, 37, 38, 39, 40, 41, 42] (by decide +kernel) (by decide +kernel)
set_option maxRecDepth 20000 in
theorem gX2_readValues_X2_skip : GoodIn wsX2_readValues (wsV RX2 42 RX2 yX2_skip wsX2_skip) := goodIn_app (goodIn_of _ (by decide +kernel)) ggX2_readValues_X2_skip
theorem dX2_readValues_0 : decode cX2_readValues 0 = .ok (.aload_n 0, 1) := by decide +kernel
theorem dX2_readValues_1 : decode cX2_readValues 1 = .ok (.invokevirtual 56, 3) := by decide +kernel
theorem dX2_readValues_4 : decode cX2_readValues 4 = .ok (.istore_n 1, 1) := by decide +kernel
theorem dX2_readValues_5 : decode cX2_readValues 5 = .ok (.iconst 1, 1) := by decide +kernel
theorem dX2_readValues_6 : decode cX2_readValues 6 = .ok (.istore_n 2, 1) := by decide +kernel
theorem dX2_readValues_7 : decode cX2_readValues 7 = .ok (.iload_n 2, 1) := by decide +kernel
theorem dX2_readValues_8 : decode cX2_readValues 8 = .ok (.bipush 40, 2) := by decide +kernel
theorem dX2_readValues_10 : decode cX2_readValues 10 = .ok (.if_icmp .ge 27, 3) := by decide +kernel
theorem dX2_readValues_13 : decode cX2_readValues 13 = .ok (.iload_n 1, 1) := by decide +kernel
theorem dX2_readValues_14 : decode cX2_readValues 14 = .ok (.ifCond .eq 23, 3) := by decide +kernel
theorem dX2_readValues_17 : decode cX2_readValues 17 = .ok (.aload_n 0, 1) := by decide +kernel
theorem dX2_readValues_18 : decode cX2_readValues 18 = .ok (.bipush 44, 2) := by decide +kernel
theorem dX2_readValues_20 : decode cX2_readValues 20 = .ok (.invokevirtual 42, 3) := by decide +kernel
theorem dX2_readValues_23 : decode cX2_readValues 23 = .ok (.ifCond .eq 14, 3) := by decide +kernel
theorem dX2_readValues_26 : decode cX2_readValues 26 = .ok (.aload_n 0, 1) := by decide +kernel
theorem dX2_readValues_27 : decode cX2_readValues 27 = .ok (.invokevirtual 56, 3) := by decide +kernel
theorem dX2_readValues_30 : decode cX2_readValues 30 = .ok (.istore_n 1, 1) := by decide +kernel
theorem dX2_readValues_31 : decode cX2_readValues 31 = .ok (.iinc 2 1, 3) := by decide +kernel
theorem dX2_readValues_34 : decode cX2_readValues 34 = .ok (.goto (-27), 3) := by decide +kernel
theorem dX2_readValues_37 : decode cX2_readValues 37 = .ok (.iload_n 1, 1) := by decide +kernel
theorem dX2_readValues_38 : decode cX2_readValues 38 = .ok (.ireturn, 1) := by decide +kernel
set_option maxRecDepth 20000 in
theorem ggX2_readValue_X2_skip : GoodIn wsX2_readValue wsX2_skip := goodIn_r _ [5, 6, 7, 8, 9, 10, 11, 12, 13, 14, 32, 33, 34, 35, 36, 37, 38] (by decide +kernel) (by decide +kernel)
set_option maxRecDepth 20000 in
theorem gX2_readValue_X2_skip : GoodIn wsX2_readValue (wsV RX2 42 RX2 yX2_skip wsX2_skip) := goodIn_app (goodIn_of _ (by decide +kernel)) ggX2_readValue_X2_skip
set_option maxRecDepth 20000 in
theorem ggX2_readValue_X2_isDigit : GoodIn wsX2_readValue wsX2_isDigit := goodIn_r _ [18, 6, 7, 8, 9, 10, 11, 12, 13, 14, 19, 20, 21, 32, 33, 34, 35, 36, 37, 38] (by decide +kernel) (by decide +kernel)
set_option maxRecDepth 20000 in
theorem gX2_readValue_X2_isDigit : GoodIn wsX2_readValue (wsV RX2 59 RX2 yX2_isDigit wsX2_isDigit) := goodIn_app (goodIn_of _ (by decide +kernel)) ggX2_readValue_X2_isDigit
set_option maxRecDepth 20000 in
theorem ggX2_readValue_X2_readDigit : GoodIn wsX2_readValue wsX2_readDigit := goodIn_r _ [25, 6, 7, 8, 9, 10, 11, 12, 13, 14, 32, 33, 34, 35, 36, 37, 38] (by decide +kernel) (by decide +kernel)
set_option maxRecDepth 20000 in
theorem gX2_readValue_X2_readDigit : GoodIn wsX2_readValue (wsV RX2 62 RX2 yX2_readDigit wsX2_readDigit) := goodIn_app (goodIn_of _ (by decide +kernel)) ggX2_readValue_X2_readDigit
set_option maxRecDepth 20000 in
theorem ggX2_readValue_X2_note : GoodIn wsX2_readValue wsX2_note := goodIn_r _ [29, 30, 31, 32, 33, 34, 35, 36] (by decide +kernel) (by decide +kernel)
set_option maxRecDepth 20000 in
theorem gX2_readValue_X2_note : GoodIn wsX2_readValue (wsV RX2 65 RX2 yX2_note wsX2_note) := goodIn_app (goodIn_of _ (by decide +kernel)) ggX2_readValue_X2_note
theorem dX2_readValue_0 : decode cX2_readValue 0 = .ok (.aload_n 0, 1) := by decide +kernel
theorem dX2_readValue_1 : decode cX2_readValue 1 = .ok (.bipush 45, 2) := by decide +kernel
theorem dX2_readValue_3 : decode cX2_readValue 3 = .ok (.invokevirtual 42, 3) := by decide +kernel
theorem dX2_readValue_6 : decode cX2_readValue 6 = .ok (.ifCond .eq 7, 3) := by decide +kernel
theorem dX2_readValue_9 : decode cX2_readValue 9 = .ok (.iconst (-1), 1) := by decide +kernel
theorem dX2_readValue_10 : decode cX2_readValue 10 = .ok (.goto 4, 3) := by decide +kernel
theorem dX2_readValue_13 : decode cX2_readValue 13 = .ok (.iconst 1, 1) := by decide +kernel
theorem dX2_readValue_14 : decode cX2_readValue 14 = .ok (.istore_n 1, 1) := by decide +kernel
theorem dX2_readValue_15 : decode cX2_readValue 15 = .ok (.aload_n 0, 1) := by decide +kernel
theorem dX2_readValue_16 : decode cX2_readValue 16 = .ok (.invokevirtual 59, 3) := by decide +kernel
theorem dX2_readValue_19 : decode cX2_readValue 19 = .ok (.ifCond .ne 5, 3) := by decide +kernel
theorem dX2_readValue_22 : decode cX2_readValue 22 = .ok (.iconst 0, 1) := by decide +kernel
theorem dX2_readValue_23 : decode cX2_readValue 23 = .ok (.ireturn, 1) := by decide +kernel
theorem dX2_readValue_24 : decode cX2_readValue 24 = .ok (.aload_n 0, 1) := by decide +kernel
theorem dX2_readValue_25 : decode cX2_readValue 25 = .ok (.iload_n 1, 1) := by decide +kernel
theorem dX2_readValue_26 : decode cX2_readValue 26 = .ok (.aload_n 0, 1) := by decide +kernel
theorem dX2_readValue_27 : decode cX2_readValue 27 = .ok (.invokevirtual 62, 3) := by decide +kernel
theorem dX2_readValue_30 : decode cX2_readValue 30 = .ok (.imul, 1) := by decide +kernel
theorem dX2_readValue_31 : decode cX2_readValue 31 = .ok (.invokevirtual 65, 3) := by decide +kernel
theorem dX2_readValue_34 : decode cX2_readValue 34 = .ok (.iconst 1, 1) := by decide +kernel
theorem dX2_readValue_35 : decode cX2_readValue 35 = .ok (.ireturn, 1) := by decide +kernel
set_option maxRecDepth 20000 in
theorem ggX2_readNumber_X2_isDigit : GoodIn wsX2_readNumber wsX2_isDigit := goodIn_r _ [5, 6, 7, 8, 9, 10, 11, 12, 13, 14, 15, 16, 17, 28, 29, 30, 31, 32, 33, 34] (by decide +kernel) (by decide +kernel)
set_option maxRecDepth 20000 in
theorem gX2_readNumber_X2_isDigit : GoodIn wsX2_readNumber (wsV RX2 59 RX2 yX2_isDigit wsX2_isDigit) := goodIn_app (goodIn_of _ (by decide +kernel)) ggX2_readNumber_X2_isDigit
set_option maxRecDepth 20000 in
theorem ggX2_readNumber_X2_readDigit : GoodIn wsX2_readNumber wsX2_readDigit := goodIn_r _ [21, 6, 7, 8, 9, 10, 11, 12, 13, 14, 28, 29, 30, 31, 32, 33, 34] (by decide +kernel) (by decide +kernel)
set_option maxRecDepth 20000 in
theorem gX2_readNumber_X2_readDigit : GoodIn wsX2_readNumber (wsV RX2 62 RX2 yX2_readDigit wsX2_readDigit) := goodIn_app (goodIn_of _ (by decide +kernel)) ggX2_readNumber_X2_readDigit
set_option maxRecDepth 20000 in
theorem ggX2_readNumber_X2_note : GoodIn wsX2_readNumber wsX2_note := goodIn_r _ [25, 26, 27, 28, 29, 30, 31, 32] (by decide +kernel) (by decide +kernel)
set_option maxRecDepth 20000 in
theorem gX2_readNumber_X2_note : GoodIn wsX2_readNumber (wsV RX2 65 RX2 yX2_note wsX2_note) := goodIn_app (goodIn_of _ (by decide +kernel)) ggX2_readNumber_X2_note
theorem dX2_readNumber_0 : decode cX2_readNumber 0 = .ok (.aload_n 0, 1) := by decide +kernel
theorem dX2_readNumber_1 : decode cX2_readNumber 1 = .ok (.invokevirtual 59, 3) := by decide +kernel
theorem dX2_readNumber_4 : decode cX2_readNumber 4 = .ok (.ifCond .ne 5, 3) := by decide +kernel
theorem dX2_readNumber_7 : decode cX2_readNumber 7 = .ok (.iconst 0, 1) := by decide +kernel
theorem dX2_readNumber_8 : decode cX2_readNumber 8 = .ok (.ireturn, 1) := by decide +kernel
theorem dX2_readNumber_9 : decode cX2_readNumber 9 = .ok (.aload_n 0, 1) := by decide +kernel
theorem dX2_readNumber_10 : decode cX2_readNumber 10 = .ok (.invokevirtual 62, 3) := by decide +kernel
theorem dX2_readNumber_13 : decode cX2_readNumber 13 = .ok (.istore_n 1, 1) := by decide +kernel
theorem dX2_readNumber_14 : decode cX2_readNumber 14 = .ok (.iload_n 1, 1) := by decide +kernel
theorem dX2_readNumber_15 : decode cX2_readNumber 15 = .ok (.ifCond .le 20, 3) := by decide +kernel
theorem dX2_readNumber_18 : decode cX2_readNumber 18 = .ok (.aload_n 0, 1) := by decide +kernel
theorem dX2_readNumber_19 : decode cX2_readNumber 19 = .ok (.invokevirtual 59, 3) := by decide +kernel
theorem dX2_readNumber_22 : decode cX2_readNumber 22 = .ok (.ifCond .eq 13, 3) := by decide +kernel
theorem dX2_readNumber_25 : decode cX2_readNumber 25 = .ok (.bipush 10, 2) := by decide +kernel
theorem dX2_readNumber_27 : decode cX2_readNumber 27 = .ok (.iload_n 1, 1) := by decide +kernel
theorem dX2_readNumber_28 : decode cX2_readNumber 28 = .ok (.imul, 1) := by decide +kernel
theorem dX2_readNumber_29 : decode cX2_readNumber 29 = .ok (.aload_n 0, 1) := by decide +kernel
theorem dX2_readNumber_30 : decode cX2_readNumber 30 = .ok (.invokevirtual 62, 3) := by decide +kernel
theorem dX2_readNumber_33 : decode cX2_readNumber 33 = .ok (.iadd, 1) := by decide +kernel
theorem dX2_readNumber_34 : decode cX2_readNumber 34 = .ok (.istore_n 1, 1) := by decide +kernel
theorem dX2_readNumber_35 : decode cX2_readNumber 35 = .ok (.aload_n 0, 1) := by decide +kernel
theorem dX2_readNumber_36 : decode cX2_readNumber 36 = .ok (.iload_n 1, 1) := by decide +kernel
theorem dX2_readNumber_37 : decode cX2_readNumber 37 = .ok (.invokevirtual 65, 3) := by decide +kernel
theorem dX2_readNumber_40 : decode cX2_readNumber 40 = .ok (.iconst 1, 1) := by decide +kernel
theorem dX2_readNumber_41 : decode cX2_readNumber 41 = .ok (.ireturn, 1) := by decide +kernel
set_option maxRecDepth 20000 in
theorem ggX2_isDigit_X1_codeAt : GoodIn wsX2_isDigit wsX1_codeAt := goodIn_r _ [7, 8, 9, 18, 19] (by decide +kernel) (by decide +kernel)
set_option maxRecDepth 20000 in
theorem gX2_isDigit_X1_codeAt : GoodIn wsX2_isDigit (wsV RX2 46 RX1 yX1_codeAt wsX1_codeAt) := goodIn_app (goodIn_of _ (by decide +kernel)) ggX2_isDigit_X1_codeAt
set_option maxRecDepth 20000 in
theorem ggX2_isDigit_X6_outside : GoodIn wsX2_isDigit wsX6_outside := goodIn_r _ [12] (by decide +kernel) (by decide +kernel)
set_option maxRecDepth 20000 in
theorem gX2_isDigit_X6_outside_n69 : GoodIn wsX2_isDigit (wsX6_outside) := ggX2_isDigit_X6_outside
theorem dX2_isDigit_0 : decode cX2_isDigit 0 = .ok (.aload_n 0, 1) := by decide +kernel
theorem dX2_isDigit_1 : decode cX2_isDigit 1 = .ok (.getfield 17, 3) := by decide +kernel
theorem dX2_isDigit_4 : decode cX2_isDigit 4 = .ok (.aload_n 0, 1) := by decide +kernel
theorem dX2_isDigit_5 : decode cX2_isDigit 5 = .ok (.getfield 28, 3) := by decide +kernel
theorem dX2_isDigit_8 : decode cX2_isDigit 8 = .ok (.invokevirtual 46, 3) := by decide +kernel
theorem dX2_isDigit_11 : decode cX2_isDigit 11 = .ok (.bipush 48, 2) := by decide +kernel
theorem dX2_isDigit_13 : decode cX2_isDigit 13 = .ok (.bipush 57, 2) := by decide +kernel
theorem dX2_isDigit_15 : decode cX2_isDigit 15 = .ok (.invokestatic 69, 3) := by decide +kernel
theorem dX2_isDigit_18 : decode cX2_isDigit 18 = .ok (.ifCond .ne 7, 3) := by decide +kernel
theorem dX2_isDigit_21 : decode cX2_isDigit 21 = .ok (.iconst 1, 1) := by decide +kernel
theorem dX2_isDigit_22 : decode cX2_isDigit 22 = .ok (.goto 4, 3) := by decide +kernel
theorem dX2_isDigit_25 : decode cX2_isDigit 25 = .ok (.iconst 0, 1) := by decide +kernel
theorem dX2_isDigit_26 : decode cX2_isDigit 26 = .ok (.ireturn, 1) := by decide +kernel
set_option maxRecDepth 20000 in
theorem ggX2_readDigit_X1_codeAt : GoodIn wsX2_readDigit wsX1_codeAt := goodIn_r _ [7, 8, 9, 15, 16] (by decide +kernel) (by decide +kernel)
set_option maxRecDepth 20000 in
theorem gX2_readDigit_X1_codeAt : GoodIn wsX2_readDigit (wsV RX2 46 RX1 yX1_codeAt wsX1_codeAt) := goodIn_app (goodIn_of _ (by decide +kernel)) ggX2_readDigit_X1_codeAt
theorem dX2_readDigit_0 : decode cX2_readDigit 0 = .ok (.aload_n 0, 1) := by decide +kernel
theorem dX2_readDigit_1 : decode cX2_readDigit 1 = .ok (.getfield 17, 3) := by decide +kernel
theorem dX2_readDigit_4 : decode cX2_readDigit 4 = .ok (.aload_n 0, 1) := by decide +kernel
theorem dX2_readDigit_5 : decode cX2_readDigit 5 = .ok (.getfield 28, 3) := by decide +kernel
theorem dX2_readDigit_8 : decode cX2_readDigit 8 = .ok (.invokevirtual 46, 3) := by decide +kernel
theorem dX2_readDigit_11 : decode cX2_readDigit 11 = .ok (.bipush 48, 2) := by decide +kernel
theorem dX2_readDigit_13 : decode cX2_readDigit 13 = .ok (.isub, 1) := by decide +kernel
theorem dX2_readDigit_14 : decode cX2_readDigit 14 = .ok (.istore_n 1, 1) := by decide +kernel
theorem dX2_readDigit_15 : decode cX2_readDigit 15 = .ok (.aload_n 0, 1) := by decide +kernel
theorem dX2_readDigit_16 : decode cX2_readDigit 16 = .ok (.dup, 1) := by decide +kernel
theorem dX2_readDigit_17 : decode cX2_readDigit 17 = .ok (.getfield 28, 3) := by decide +kernel
theorem dX2_readDigit_20 : decode cX2_readDigit 20 = .ok (.iconst 1, 1) := by decide +kernel
theorem dX2_readDigit_21 : decode cX2_readDigit 21 = .ok (.iadd, 1) := by decide +kernel
theorem dX2_readDigit_22 : decode cX2_readDigit 22 = .ok (.putfield 28, 3) := by decide +kernel
theorem dX2_readDigit_25 : decode cX2_readDigit 25 = .ok (.iload_n 1, 1) := by decide +kernel
theorem dX2_readDigit_26 : decode cX2_readDigit 26 = .ok (.ireturn, 1) := by decide +kernel
theorem dX2_note_0 : decode cX2_note 0 = .ok (.aload_n 0, 1) := by decide +kernel
theorem dX2_note_1 : decode cX2_note 1 = .ok (.getfield 25, 3) := by decide +kernel
theorem dX2_note_4 : decode cX2_note 4 = .ok (.ifCond .lt 35, 3) := by decide +kernel
theorem dX2_note_7 : decode cX2_note 7 = .ok (.aload_n 0, 1) := by decide +kernel
theorem dX2_note_8 : decode cX2_note 8 = .ok (.getfield 25, 3) := by decide +kernel
theorem dX2_note_11 : decode cX2_note 11 = .ok (.aload_n 0, 1) := by decide +kernel
theorem dX2_note_12 : decode cX2_note 12 = .ok (.getfield 13, 3) := by decide +kernel
theorem dX2_note_15 : decode cX2_note 15 = .ok (.arraylength, 1) := by decide +kernel
theorem dX2_note_16 : decode cX2_note 16 = .ok (.if_icmp .ge 23, 3) := by decide +kernel
theorem dX2_note_19 : decode cX2_note 19 = .ok (.aload_n 0, 1) := by decide +kernel
theorem dX2_note_20 : decode cX2_note 20 = .ok (.getfield 13, 3) := by decide +kernel
theorem dX2_note_23 : decode cX2_note 23 = .ok (.aload_n 0, 1) := by decide +kernel
theorem dX2_note_24 : decode cX2_note 24 = .ok (.getfield 25, 3) := by decide +kernel
theorem dX2_note_27 : decode cX2_note 27 = .ok (.iload_n 1, 1) := by decide +kernel
theorem dX2_note_28 : decode cX2_note 28 = .ok (.iastore, 1) := by decide +kernel
theorem dX2_note_29 : decode cX2_note 29 = .ok (.aload_n 0, 1) := by decide +kernel
theorem dX2_note_30 : decode cX2_note 30 = .ok (.dup, 1) := by decide +kernel
theorem dX2_note_31 : decode cX2_note 31 = .ok (.getfield 25, 3) := by decide +kernel
theorem dX2_note_34 : decode cX2_note 34 = .ok (.iconst 1, 1) := by decide +kernel
theorem dX2_note_35 : decode cX2_note 35 = .ok (.iadd, 1) := by decide +kernel
theorem dX2_note_36 : decode cX2_note 36 = .ok (.putfield 25, 3) := by decide +kernel
theorem dX2_note_39 : decode cX2_note 39 = .ok (.return_, 1) := by decide +kernel
theorem dX3_init_0 : decode cX3_init 0 = .ok (.aload_n 0, 1) := by decide +kernel
theorem dX3_init_1 : decode cX3_init 1 = .ok (.invokespecial 5, 3) := by decide +kernel
theorem dX3_init_4 : decode cX3_init 4 = .ok (.aload_n 0, 1) := by decide +kernel
theorem dX3_init_5 : decode cX3_init 5 = .ok (.sipush 225, 3) := by decide +kernel
theorem dX3_init_8 : decode cX3_init 8 = .ok (.newarray .int, 2) := by decide +kernel
theorem dX3_init_10 : decode cX3_init 10 = .ok (.putfield 11, 3) := by decide +kernel
theorem dX3_init_13 : decode cX3_init 13 = .ok (.aload_n 0, 1) := by decide +kernel
theorem dX3_init_14 : decode cX3_init 14 = .ok (.getfield 11, 3) := by decide +kernel
theorem dX3_init_17 : decode cX3_init 17 = .ok (.iconst 1, 1) := by decide +kernel
theorem dX3_init_18 : decode cX3_init 18 = .ok (.iconst 5, 1) := by decide +kernel
theorem dX3_init_19 : decode cX3_init 19 = .ok (.iastore, 1) := by decide +kernel
theorem dX3_init_20 : decode cX3_init 20 = .ok (.aload_n 0, 1) := by decide +kernel
theorem dX3_init_21 : decode cX3_init 21 = .ok (.getfield 11, 3) := by decide +kernel
theorem dX3_init_24 : decode cX3_init 24 = .ok (.iconst 2, 1) := by decide +kernel
theorem dX3_init_25 : decode cX3_init 25 = .ok (.iconst 5, 1) := by decide +kernel
theorem dX3_init_26 : decode cX3_init 26 = .ok (.iastore, 1) := by decide +kernel
theorem dX3_init_27 : decode cX3_init 27 = .ok (.aload_n 0, 1) := by decide +kernel
theorem dX3_init_28 : decode cX3_init 28 = .ok (.getfield 11, 3) := by decide +kernel
theorem dX3_init_31 : decode cX3_init 31 = .ok (.bipush 6, 2) := by decide +kernel
theorem dX3_init_33 : decode cX3_init 33 = .ok (.bipush 6, 2) := by decide +kernel
theorem dX3_init_35 : decode cX3_init 35 = .ok (.iastore, 1) := by decide +kernel
theorem dX3_init_36 : decode cX3_init 36 = .ok (.aload_n 0, 1) := by decide +kernel
theorem dX3_init_37 : decode cX3_init 37 = .ok (.getfield 11, 3) := by decide +kernel
theorem dX3_init_40 : decode cX3_init 40 = .ok (.bipush 7, 2) := by decide +kernel
theorem dX3_init_42 : decode cX3_init 42 = .ok (.iconst 4, 1) := by decide +kernel
theorem dX3_init_43 : decode cX3_init 43 = .ok (.iastore, 1) := by decide +kernel
theorem dX3_init_44 : decode cX3_init 44 = .ok (.aload_n 0, 1) := by decide +kernel
theorem dX3_init_45 : decode cX3_init 45 = .ok (.getfield 11, 3) := by decide +kernel
theorem dX3_init_48 : decode cX3_init 48 = .ok (.bipush 8, 2) := by decide +kernel
theorem dX3_init_50 : decode cX3_init 50 = .ok (.bipush 20, 2) := by decide +kernel
theorem dX3_init_52 : decode cX3_init 52 = .ok (.iastore, 1) := by decide +kernel
theorem dX3_init_53 : decode cX3_init 53 = .ok (.return_, 1) := by decide +kernel
theorem dX3_cell_0 : decode cX3_cell 0 = .ok (.iload_n 1, 1) := by decide +kernel
theorem dX3_cell_1 : decode cX3_cell 1 = .ok (.ifCond .lt 21, 3) := by decide +kernel
theorem dX3_cell_4 : decode cX3_cell 4 = .ok (.iload_n 1, 1) := by decide +kernel
theorem dX3_cell_5 : decode cX3_cell 5 = .ok (.aload_n 0, 1) := by decide +kernel
theorem dX3_cell_6 : decode cX3_cell 6 = .ok (.getfield 11, 3) := by decide +kernel
theorem dX3_cell_9 : decode cX3_cell 9 = .ok (.arraylength, 1) := by decide +kernel
theorem dX3_cell_10 : decode cX3_cell 10 = .ok (.if_icmp .ge 12, 3) := by decide +kernel
theorem dX3_cell_13 : decode cX3_cell 13 = .ok (.aload_n 0, 1) := by decide +kernel
theorem dX3_cell_14 : decode cX3_cell 14 = .ok (.getfield 11, 3) := by decide +kernel
theorem dX3_cell_17 : decode cX3_cell 17 = .ok (.iload_n 1, 1) := by decide +kernel
theorem dX3_cell_18 : decode cX3_cell 18 = .ok (.iaload, 1) := by decide +kernel
theorem dX3_cell_19 : decode cX3_cell 19 = .ok (.goto 4, 3) := by decide +kernel
theorem dX3_cell_22 : decode cX3_cell 22 = .ok (.iconst 0, 1) := by decide +kernel
theorem dX3_cell_23 : decode cX3_cell 23 = .ok (.ireturn, 1) := by decide +kernel
theorem dX3_change_0 : decode cX3_change 0 = .ok (.iload_n 1, 1) := by decide +kernel
theorem dX3_change_1 : decode cX3_change 1 = .ok (.ifCond .lt 19, 3) := by decide +kernel
theorem dX3_change_4 : decode cX3_change 4 = .ok (.iload_n 1, 1) := by decide +kernel
theorem dX3_change_5 : decode cX3_change 5 = .ok (.aload_n 0, 1) := by decide +kernel
theorem dX3_change_6 : decode cX3_change 6 = .ok (.getfield 11, 3) := by decide +kernel
theorem dX3_change_9 : decode cX3_change 9 = .ok (.arraylength, 1) := by decide +kernel
theorem dX3_change_10 : decode cX3_change 10 = .ok (.if_icmp .ge 10, 3) := by decide +kernel
theorem dX3_change_13 : decode cX3_change 13 = .ok (.aload_n 0, 1) := by decide +kernel
theorem dX3_change_14 : decode cX3_change 14 = .ok (.getfield 11, 3) := by decide +kernel
theorem dX3_change_17 : decode cX3_change 17 = .ok (.iload_n 1, 1) := by decide +kernel
theorem dX3_change_18 : decode cX3_change 18 = .ok (.iload_n 2, 1) := by decide +kernel
theorem dX3_change_19 : decode cX3_change 19 = .ok (.iastore, 1) := by decide +kernel
theorem dX3_change_20 : decode cX3_change 20 = .ok (.return_, 1) := by decide +kernel
set_option maxRecDepth 20000 in
theorem ggX3_raise_X3_cell : GoodIn wsX3_raise wsX3_cell := goodIn_r _ [5, 6, 11] (by decide +kernel) (by decide +kernel)
set_option maxRecDepth 20000 in
theorem gX3_raise_X3_cell : GoodIn wsX3_raise (wsV RX3 15 RX3 yX3_cell wsX3_cell) := goodIn_app (goodIn_of _ (by decide +kernel)) ggX3_raise_X3_cell
set_option maxRecDepth 20000 in
theorem ggX3_raise_X3_change : GoodIn wsX3_raise wsX3_change := goodIn_r _ [10, 6, 11] (by decide +kernel) (by decide +kernel)
set_option maxRecDepth 20000 in
theorem gX3_raise_X3_change : GoodIn wsX3_raise (wsV RX3 19 RX3 yX3_change wsX3_change) := goodIn_app (goodIn_of _ (by decide +kernel)) ggX3_raise_X3_change
theorem dX3_raise_0 : decode cX3_raise 0 = .ok (.aload_n 0, 1) := by decide +kernel
theorem dX3_raise_1 : decode cX3_raise 1 = .ok (.iload_n 1, 1) := by decide +kernel
theorem dX3_raise_2 : decode cX3_raise 2 = .ok (.aload_n 0, 1) := by decide +kernel
theorem dX3_raise_3 : decode cX3_raise 3 = .ok (.iload_n 1, 1) := by decide +kernel
theorem dX3_raise_4 : decode cX3_raise 4 = .ok (.invokevirtual 15, 3) := by decide +kernel
theorem dX3_raise_7 : decode cX3_raise 7 = .ok (.iload_n 2, 1) := by decide +kernel
theorem dX3_raise_8 : decode cX3_raise 8 = .ok (.iadd, 1) := by decide +kernel
theorem dX3_raise_9 : decode cX3_raise 9 = .ok (.invokevirtual 19, 3) := by decide +kernel
theorem dX3_raise_12 : decode cX3_raise 12 = .ok (.return_, 1) := by decide +kernel
set_option maxRecDepth 20000 in
theorem ggX3_setting_X3_cell : GoodIn wsX3_setting wsX3_cell := goodIn_r _ [5, 6, 7] (by decide +kernel) (by decide +kernel)
set_option maxRecDepth 20000 in
theorem gX3_setting_X3_cell : GoodIn wsX3_setting (wsV RX3 15 RX3 yX3_cell wsX3_cell) := goodIn_app (goodIn_of _ (by decide +kernel)) ggX3_setting_X3_cell
theorem dX3_setting_0 : decode cX3_setting 0 = .ok (.aload_n 0, 1) := by decide +kernel
theorem dX3_setting_1 : decode cX3_setting 1 = .ok (.bipush 6, 2) := by decide +kernel
theorem dX3_setting_3 : decode cX3_setting 3 = .ok (.iload_n 1, 1) := by decide +kernel
theorem dX3_setting_4 : decode cX3_setting 4 = .ok (.iadd, 1) := by decide +kernel
theorem dX3_setting_5 : decode cX3_setting 5 = .ok (.invokevirtual 15, 3) := by decide +kernel
theorem dX3_setting_8 : decode cX3_setting 8 = .ok (.ireturn, 1) := by decide +kernel
set_option maxRecDepth 20000 in
theorem ggX3_changeSetting_X6_outside : GoodIn wsX3_changeSetting wsX6_outside := goodIn_r _ [3] (by decide +kernel) (by decide +kernel)
set_option maxRecDepth 20000 in
theorem gX3_changeSetting_X6_outside_n23 : GoodIn wsX3_changeSetting (wsX6_outside) := ggX3_changeSetting_X6_outside
set_option maxRecDepth 20000 in
theorem ggX3_changeSetting_X3_setting : GoodIn wsX3_changeSetting wsX3_setting := goodIn_r _ [8, 9, 10, 11, 7, 12, 13, 18] (by decide +kernel) (by decide +kernel)
set_option maxRecDepth 20000 in
theorem gX3_changeSetting_X3_setting : GoodIn wsX3_changeSetting (wsV RX3 27 RX3 yX3_setting wsX3_setting) := goodIn_app (goodIn_of _ (by decide +kernel)) ggX3_changeSetting_X3_setting
set_option maxRecDepth 20000 in
theorem ggX3_changeSetting_X3_change : GoodIn wsX3_changeSetting wsX3_change := goodIn_r _ [17, 13, 18] (by decide +kernel) (by decide +kernel)
set_option maxRecDepth 20000 in
theorem gX3_changeSetting_X3_change : GoodIn wsX3_changeSetting (wsV RX3 19 RX3 yX3_change wsX3_change) := goodIn_app (goodIn_of _ (by decide +kernel)) ggX3_changeSetting_X3_change
theorem dX3_changeSetting_0 : decode cX3_changeSetting 0 = .ok (.iload_n 1, 1) := by decide +kernel
theorem dX3_changeSetting_1 : decode cX3_changeSetting 1 = .ok (.iconst 0, 1) := by decide +kernel
theorem dX3_changeSetting_2 : decode cX3_changeSetting 2 = .ok (.iconst 2, 1) := by decide +kernel
theorem dX3_changeSetting_3 : decode cX3_changeSetting 3 = .ok (.invokestatic 23, 3) := by decide +kernel
theorem dX3_changeSetting_6 : decode cX3_changeSetting 6 = .ok (.ifCond .eq 6, 3) := by decide +kernel
theorem dX3_changeSetting_9 : decode cX3_changeSetting 9 = .ok (.bipush (-2), 2) := by decide +kernel
theorem dX3_changeSetting_11 : decode cX3_changeSetting 11 = .ok (.ireturn, 1) := by decide +kernel
theorem dX3_changeSetting_12 : decode cX3_changeSetting 12 = .ok (.iload_n 1, 1) := by decide +kernel
theorem dX3_changeSetting_13 : decode cX3_changeSetting 13 = .ok (.iconst 2, 1) := by decide +kernel
theorem dX3_changeSetting_14 : decode cX3_changeSetting 14 = .ok (.if_icmp .ne 13, 3) := by decide +kernel
theorem dX3_changeSetting_17 : decode cX3_changeSetting 17 = .ok (.iload_n 2, 1) := by decide +kernel
theorem dX3_changeSetting_18 : decode cX3_changeSetting 18 = .ok (.iconst 1, 1) := by decide +kernel
theorem dX3_changeSetting_19 : decode cX3_changeSetting 19 = .ok (.bipush 99, 2) := by decide +kernel
theorem dX3_changeSetting_21 : decode cX3_changeSetting 21 = .ok (.invokestatic 23, 3) := by decide +kernel
theorem dX3_changeSetting_24 : decode cX3_changeSetting 24 = .ok (.goto 10, 3) := by decide +kernel
theorem dX3_changeSetting_27 : decode cX3_changeSetting 27 = .ok (.iload_n 2, 1) := by decide +kernel
theorem dX3_changeSetting_28 : decode cX3_changeSetting 28 = .ok (.iconst 0, 1) := by decide +kernel
theorem dX3_changeSetting_29 : decode cX3_changeSetting 29 = .ok (.bipush 30, 2) := by decide +kernel
theorem dX3_changeSetting_31 : decode cX3_changeSetting 31 = .ok (.invokestatic 23, 3) := by decide +kernel
theorem dX3_changeSetting_34 : decode cX3_changeSetting 34 = .ok (.istore_n 3, 1) := by decide +kernel
theorem dX3_changeSetting_35 : decode cX3_changeSetting 35 = .ok (.iload_n 3, 1) := by decide +kernel
theorem dX3_changeSetting_36 : decode cX3_changeSetting 36 = .ok (.ifCond .eq 6, 3) := by decide +kernel
theorem dX3_changeSetting_39 : decode cX3_changeSetting 39 = .ok (.bipush (-2), 2) := by decide +kernel
theorem dX3_changeSetting_41 : decode cX3_changeSetting 41 = .ok (.ireturn, 1) := by decide +kernel
theorem dX3_changeSetting_42 : decode cX3_changeSetting 42 = .ok (.aload_n 0, 1) := by decide +kernel
theorem dX3_changeSetting_43 : decode cX3_changeSetting 43 = .ok (.iload_n 1, 1) := by decide +kernel
theorem dX3_changeSetting_44 : decode cX3_changeSetting 44 = .ok (.invokevirtual 27, 3) := by decide +kernel
theorem dX3_changeSetting_47 : decode cX3_changeSetting 47 = .ok (.istore 4, 2) := by decide +kernel
theorem dX3_changeSetting_49 : decode cX3_changeSetting 49 = .ok (.aload_n 0, 1) := by decide +kernel
theorem dX3_changeSetting_50 : decode cX3_changeSetting 50 = .ok (.bipush 6, 2) := by decide +kernel
theorem dX3_changeSetting_52 : decode cX3_changeSetting 52 = .ok (.iload_n 1, 1) := by decide +kernel
theorem dX3_changeSetting_53 : decode cX3_changeSetting 53 = .ok (.iadd, 1) := by decide +kernel
theorem dX3_changeSetting_54 : decode cX3_changeSetting 54 = .ok (.iload_n 2, 1) := by decide +kernel
theorem dX3_changeSetting_55 : decode cX3_changeSetting 55 = .ok (.invokevirtual 19, 3) := by decide +kernel
theorem dX3_changeSetting_58 : decode cX3_changeSetting 58 = .ok (.iload 4, 2) := by decide +kernel
theorem dX3_changeSetting_60 : decode cX3_changeSetting 60 = .ok (.ireturn, 1) := by decide +kernel
set_option maxRecDepth 20000 in
theorem ggX3_changeCard_X6_outside : GoodIn wsX3_changeCard wsX6_outside := goodIn_r _ [3] (by decide +kernel) (by decide +kernel)
set_option maxRecDepth 20000 in
theorem gX3_changeCard_X6_outside_n23 : GoodIn wsX3_changeCard (wsX6_outside) := ggX3_changeCard_X6_outside
set_option maxRecDepth 20000 in
theorem ggX3_changeCard_X3_cell : GoodIn wsX3_changeCard wsX3_cell := goodIn_r _ [8, 9, 14] (by decide +kernel) (by decide +kernel)
set_option maxRecDepth 20000 in
theorem gX3_changeCard_X3_cell : GoodIn wsX3_changeCard (wsV RX3 15 RX3 yX3_cell wsX3_cell) := goodIn_app (goodIn_of _ (by decide +kernel)) ggX3_changeCard_X3_cell
set_option maxRecDepth 20000 in
theorem ggX3_changeCard_X3_change : GoodIn wsX3_changeCard wsX3_change := goodIn_r _ [13, 9, 14] (by decide +kernel) (by decide +kernel)
set_option maxRecDepth 20000 in
theorem gX3_changeCard_X3_change : GoodIn wsX3_changeCard (wsV RX3 19 RX3 yX3_change wsX3_change) := goodIn_app (goodIn_of _ (by decide +kernel)) ggX3_changeCard_X3_change
theorem dX3_changeCard_0 : decode cX3_changeCard 0 = .ok (.iload_n 1, 1) := by decide +kernel
theorem dX3_changeCard_1 : decode cX3_changeCard 1 = .ok (.iconst 1, 1) := by decide +kernel
theorem dX3_changeCard_2 : decode cX3_changeCard 2 = .ok (.bipush 30, 2) := by decide +kernel
theorem dX3_changeCard_4 : decode cX3_changeCard 4 = .ok (.invokestatic 23, 3) := by decide +kernel
theorem dX3_changeCard_7 : decode cX3_changeCard 7 = .ok (.ifCond .ne 13, 3) := by decide +kernel
theorem dX3_changeCard_10 : decode cX3_changeCard 10 = .ok (.iload_n 2, 1) := by decide +kernel
theorem dX3_changeCard_11 : decode cX3_changeCard 11 = .ok (.iconst 0, 1) := by decide +kernel
theorem dX3_changeCard_12 : decode cX3_changeCard 12 = .ok (.bipush 30, 2) := by decide +kernel
theorem dX3_changeCard_14 : decode cX3_changeCard 14 = .ok (.invokestatic 23, 3) := by decide +kernel
theorem dX3_changeCard_17 : decode cX3_changeCard 17 = .ok (.ifCond .eq 6, 3) := by decide +kernel
theorem dX3_changeCard_20 : decode cX3_changeCard 20 = .ok (.bipush (-2), 2) := by decide +kernel
theorem dX3_changeCard_22 : decode cX3_changeCard 22 = .ok (.ireturn, 1) := by decide +kernel
theorem dX3_changeCard_23 : decode cX3_changeCard 23 = .ok (.aload_n 0, 1) := by decide +kernel
theorem dX3_changeCard_24 : decode cX3_changeCard 24 = .ok (.iconst 1, 1) := by decide +kernel
theorem dX3_changeCard_25 : decode cX3_changeCard 25 = .ok (.invokevirtual 15, 3) := by decide +kernel
theorem dX3_changeCard_28 : decode cX3_changeCard 28 = .ok (.istore_n 3, 1) := by decide +kernel
theorem dX3_changeCard_29 : decode cX3_changeCard 29 = .ok (.aload_n 0, 1) := by decide +kernel
theorem dX3_changeCard_30 : decode cX3_changeCard 30 = .ok (.iconst 1, 1) := by decide +kernel
theorem dX3_changeCard_31 : decode cX3_changeCard 31 = .ok (.iload_n 1, 1) := by decide +kernel
theorem dX3_changeCard_32 : decode cX3_changeCard 32 = .ok (.invokevirtual 19, 3) := by decide +kernel
theorem dX3_changeCard_35 : decode cX3_changeCard 35 = .ok (.aload_n 0, 1) := by decide +kernel
theorem dX3_changeCard_36 : decode cX3_changeCard 36 = .ok (.iconst 2, 1) := by decide +kernel
theorem dX3_changeCard_37 : decode cX3_changeCard 37 = .ok (.iload_n 2, 1) := by decide +kernel
theorem dX3_changeCard_38 : decode cX3_changeCard 38 = .ok (.invokevirtual 19, 3) := by decide +kernel
theorem dX3_changeCard_41 : decode cX3_changeCard 41 = .ok (.iload_n 3, 1) := by decide +kernel
theorem dX3_changeCard_42 : decode cX3_changeCard 42 = .ok (.ireturn, 1) := by decide +kernel
set_option maxRecDepth 20000 in
theorem ggX3_has_X3_cell : GoodIn wsX3_has wsX3_cell := goodIn_r _ [5, 6, 7] (by decide +kernel) (by decide +kernel)
set_option maxRecDepth 20000 in
theorem gX3_has_X3_cell : GoodIn wsX3_has (wsV RX3 15 RX3 yX3_cell wsX3_cell) := goodIn_app (goodIn_of _ (by decide +kernel)) ggX3_has_X3_cell
theorem dX3_has_0 : decode cX3_has 0 = .ok (.iload_n 1, 1) := by decide +kernel
theorem dX3_has_1 : decode cX3_has 1 = .ok (.ifCond .lt 16, 3) := by decide +kernel
theorem dX3_has_4 : decode cX3_has 4 = .ok (.iload_n 1, 1) := by decide +kernel
theorem dX3_has_5 : decode cX3_has 5 = .ok (.aload_n 0, 1) := by decide +kernel
theorem dX3_has_6 : decode cX3_has 6 = .ok (.iconst 0, 1) := by decide +kernel
theorem dX3_has_7 : decode cX3_has 7 = .ok (.invokevirtual 15, 3) := by decide +kernel
theorem dX3_has_10 : decode cX3_has 10 = .ok (.if_icmp .ge 7, 3) := by decide +kernel
theorem dX3_has_13 : decode cX3_has 13 = .ok (.iconst 1, 1) := by decide +kernel
theorem dX3_has_14 : decode cX3_has 14 = .ok (.goto 4, 3) := by decide +kernel
theorem dX3_has_17 : decode cX3_has 17 = .ok (.iconst 0, 1) := by decide +kernel
theorem dX3_has_18 : decode cX3_has 18 = .ok (.ireturn, 1) := by decide +kernel
set_option maxRecDepth 20000 in
theorem ggX3_hasTooth_X3_has : GoodIn wsX3_hasTooth wsX3_has := goodIn_r _ [5, 6, 7, 8, 4, 9, 10, 18] (by decide +kernel) (by decide +kernel)
set_option maxRecDepth 20000 in
theorem gX3_hasTooth_X3_has : GoodIn wsX3_hasTooth (wsV RX3 30 RX3 yX3_has wsX3_has) := goodIn_app (goodIn_of _ (by decide +kernel)) ggX3_hasTooth_X3_has
set_option maxRecDepth 20000 in
theorem ggX3_hasTooth_X3_teeth : GoodIn wsX3_hasTooth wsX3_teeth := goodIn_r _ [14, 15, 16, 4, 17, 6, 7, 8, 9, 10, 18] (by decide +kernel) (by decide +kernel)
set_option maxRecDepth 20000 in
theorem gX3_hasTooth_X3_teeth : GoodIn wsX3_hasTooth (wsV RX3 34 RX3 yX3_teeth wsX3_teeth) := goodIn_app (goodIn_of _ (by decide +kernel)) ggX3_hasTooth_X3_teeth
theorem dX3_hasTooth_0 : decode cX3_hasTooth 0 = .ok (.aload_n 0, 1) := by decide +kernel
theorem dX3_hasTooth_1 : decode cX3_hasTooth 1 = .ok (.iload_n 1, 1) := by decide +kernel
theorem dX3_hasTooth_2 : decode cX3_hasTooth 2 = .ok (.invokevirtual 30, 3) := by decide +kernel
theorem dX3_hasTooth_5 : decode cX3_hasTooth 5 = .ok (.ifCond .eq 20, 3) := by decide +kernel
theorem dX3_hasTooth_8 : decode cX3_hasTooth 8 = .ok (.iload_n 2, 1) := by decide +kernel
theorem dX3_hasTooth_9 : decode cX3_hasTooth 9 = .ok (.ifCond .lt 16, 3) := by decide +kernel
theorem dX3_hasTooth_12 : decode cX3_hasTooth 12 = .ok (.iload_n 2, 1) := by decide +kernel
theorem dX3_hasTooth_13 : decode cX3_hasTooth 13 = .ok (.aload_n 0, 1) := by decide +kernel
theorem dX3_hasTooth_14 : decode cX3_hasTooth 14 = .ok (.iload_n 1, 1) := by decide +kernel
theorem dX3_hasTooth_15 : decode cX3_hasTooth 15 = .ok (.invokevirtual 34, 3) := by decide +kernel
theorem dX3_hasTooth_18 : decode cX3_hasTooth 18 = .ok (.if_icmp .ge 7, 3) := by decide +kernel
theorem dX3_hasTooth_21 : decode cX3_hasTooth 21 = .ok (.iconst 1, 1) := by decide +kernel
theorem dX3_hasTooth_22 : decode cX3_hasTooth 22 = .ok (.goto 4, 3) := by decide +kernel
theorem dX3_hasTooth_25 : decode cX3_hasTooth 25 = .ok (.iconst 0, 1) := by decide +kernel
theorem dX3_hasTooth_26 : decode cX3_hasTooth 26 = .ok (.ireturn, 1) := by decide +kernel
theorem dX3_placeOf_0 : decode cX3_placeOf 0 = .ok (.bipush 9, 2) := by decide +kernel
theorem dX3_placeOf_2 : decode cX3_placeOf 2 = .ok (.iload_n 0, 1) := by decide +kernel
theorem dX3_placeOf_3 : decode cX3_placeOf 3 = .ok (.bipush 27, 2) := by decide +kernel
theorem dX3_placeOf_5 : decode cX3_placeOf 5 = .ok (.imul, 1) := by decide +kernel
theorem dX3_placeOf_6 : decode cX3_placeOf 6 = .ok (.iadd, 1) := by decide +kernel
theorem dX3_placeOf_7 : decode cX3_placeOf 7 = .ok (.ireturn, 1) := by decide +kernel
set_option maxRecDepth 20000 in
theorem ggX3_teeth_X3_placeOf : GoodIn wsX3_teeth wsX3_placeOf := goodIn_r _ [4] (by decide +kernel) (by decide +kernel)
set_option maxRecDepth 20000 in
theorem gX3_teeth_X3_placeOf : GoodIn wsX3_teeth (va_wsS RX3 37 yX3_placeOf wsX3_placeOf) := goodIn_app (goodIn_of _ (by decide +kernel)) ggX3_teeth_X3_placeOf
set_option maxRecDepth 20000 in
theorem ggX3_teeth_X3_cell : GoodIn wsX3_teeth wsX3_cell := goodIn_r _ [8, 9, 10] (by decide +kernel) (by decide +kernel)
set_option maxRecDepth 20000 in
theorem gX3_teeth_X3_cell : GoodIn wsX3_teeth (wsV RX3 15 RX3 yX3_cell wsX3_cell) := goodIn_app (goodIn_of _ (by decide +kernel)) ggX3_teeth_X3_cell
theorem dX3_teeth_0 : decode cX3_teeth 0 = .ok (.aload_n 0, 1) := by decide +kernel
theorem dX3_teeth_1 : decode cX3_teeth 1 = .ok (.iload_n 1, 1) := by decide +kernel
theorem dX3_teeth_2 : decode cX3_teeth 2 = .ok (.invokestatic 37, 3) := by decide +kernel
theorem dX3_teeth_5 : decode cX3_teeth 5 = .ok (.iconst 0, 1) := by decide +kernel
theorem dX3_teeth_6 : decode cX3_teeth 6 = .ok (.iadd, 1) := by decide +kernel
theorem dX3_teeth_7 : decode cX3_teeth 7 = .ok (.invokevirtual 15, 3) := by decide +kernel
theorem dX3_teeth_10 : decode cX3_teeth 10 = .ok (.ireturn, 1) := by decide +kernel
set_option maxRecDepth 20000 in
theorem ggX3_stepsSinceWorn_X3_placeOf : GoodIn wsX3_stepsSinceWorn wsX3_placeOf := goodIn_r _ [4] (by decide +kernel) (by decide +kernel)
set_option maxRecDepth 20000 in
theorem gX3_stepsSinceWorn_X3_placeOf : GoodIn wsX3_stepsSinceWorn (va_wsS RX3 37 yX3_placeOf wsX3_placeOf) := goodIn_app (goodIn_of _ (by decide +kernel)) ggX3_stepsSinceWorn_X3_placeOf
set_option maxRecDepth 20000 in
theorem ggX3_stepsSinceWorn_X3_cell : GoodIn wsX3_stepsSinceWorn wsX3_cell := goodIn_r _ [8, 9, 10] (by decide +kernel) (by decide +kernel)
set_option maxRecDepth 20000 in
theorem gX3_stepsSinceWorn_X3_cell : GoodIn wsX3_stepsSinceWorn (wsV RX3 15 RX3 yX3_cell wsX3_cell) := goodIn_app (goodIn_of _ (by decide +kernel)) ggX3_stepsSinceWorn_X3_cell
theorem dX3_stepsSinceWorn_0 : decode cX3_stepsSinceWorn 0 = .ok (.aload_n 0, 1) := by decide +kernel
theorem dX3_stepsSinceWorn_1 : decode cX3_stepsSinceWorn 1 = .ok (.iload_n 1, 1) := by decide +kernel
theorem dX3_stepsSinceWorn_2 : decode cX3_stepsSinceWorn 2 = .ok (.invokestatic 37, 3) := by decide +kernel
theorem dX3_stepsSinceWorn_5 : decode cX3_stepsSinceWorn 5 = .ok (.iconst 1, 1) := by decide +kernel
theorem dX3_stepsSinceWorn_6 : decode cX3_stepsSinceWorn 6 = .ok (.iadd, 1) := by decide +kernel
theorem dX3_stepsSinceWorn_7 : decode cX3_stepsSinceWorn 7 = .ok (.invokevirtual 15, 3) := by decide +kernel
theorem dX3_stepsSinceWorn_10 : decode cX3_stepsSinceWorn 10 = .ok (.ireturn, 1) := by decide +kernel
set_option maxRecDepth 20000 in
theorem ggX3_timesWorn_X3_placeOf : GoodIn wsX3_timesWorn wsX3_placeOf := goodIn_r _ [4] (by decide +kernel) (by decide +kernel)
set_option maxRecDepth 20000 in
theorem gX3_timesWorn_X3_placeOf : GoodIn wsX3_timesWorn (va_wsS RX3 37 yX3_placeOf wsX3_placeOf) := goodIn_app (goodIn_of _ (by decide +kernel)) ggX3_timesWorn_X3_placeOf
set_option maxRecDepth 20000 in
theorem ggX3_timesWorn_X3_cell : GoodIn wsX3_timesWorn wsX3_cell := goodIn_r _ [8, 9, 10] (by decide +kernel) (by decide +kernel)
set_option maxRecDepth 20000 in
theorem gX3_timesWorn_X3_cell : GoodIn wsX3_timesWorn (wsV RX3 15 RX3 yX3_cell wsX3_cell) := goodIn_app (goodIn_of _ (by decide +kernel)) ggX3_timesWorn_X3_cell
theorem dX3_timesWorn_0 : decode cX3_timesWorn 0 = .ok (.aload_n 0, 1) := by decide +kernel
theorem dX3_timesWorn_1 : decode cX3_timesWorn 1 = .ok (.iload_n 1, 1) := by decide +kernel
theorem dX3_timesWorn_2 : decode cX3_timesWorn 2 = .ok (.invokestatic 37, 3) := by decide +kernel
theorem dX3_timesWorn_5 : decode cX3_timesWorn 5 = .ok (.iconst 2, 1) := by decide +kernel
theorem dX3_timesWorn_6 : decode cX3_timesWorn 6 = .ok (.iadd, 1) := by decide +kernel
theorem dX3_timesWorn_7 : decode cX3_timesWorn 7 = .ok (.invokevirtual 15, 3) := by decide +kernel
theorem dX3_timesWorn_10 : decode cX3_timesWorn 10 = .ok (.ireturn, 1) := by decide +kernel
