theorem dX3_turnRoller_0 : decode cX3_turnRoller 0 = .ok (.aload_n 0, 1) := by decide +kernel
theorem dX3_turnRoller_1 : decode cX3_turnRoller 1 = .ok (.iload_n 1, 1) := by decide +kernel
theorem dX3_turnRoller_2 : decode cX3_turnRoller 2 = .ok (.invokestatic 37, 3) := by decide +kernel
theorem dX3_turnRoller_5 : decode cX3_turnRoller 5 = .ok (.iconst 1, 1) := by decide +kernel
theorem dX3_turnRoller_6 : decode cX3_turnRoller 6 = .ok (.iadd, 1) := by decide +kernel
theorem dX3_turnRoller_7 : decode cX3_turnRoller 7 = .ok (.iload_n 2, 1) := by decide +kernel
theorem dX3_turnRoller_8 : decode cX3_turnRoller 8 = .ok (.invokevirtual 44, 3) := by decide +kernel
theorem dX3_turnRoller_11 : decode cX3_turnRoller 11 = .ok (.aload_n 0, 1) := by decide +kernel
theorem dX3_turnRoller_12 : decode cX3_turnRoller 12 = .ok (.iload_n 1, 1) := by decide +kernel
theorem dX3_turnRoller_13 : decode cX3_turnRoller 13 = .ok (.invokevirtual 63, 3) := by decide +kernel
theorem dX3_turnRoller_16 : decode cX3_turnRoller 16 = .ok (.aload_n 0, 1) := by decide +kernel
theorem dX3_turnRoller_17 : decode cX3_turnRoller 17 = .ok (.iconst 2, 1) := by decide +kernel
theorem dX3_turnRoller_18 : decode cX3_turnRoller 18 = .ok (.invokevirtual 27, 3) := by decide +kernel
theorem dX3_turnRoller_21 : decode cX3_turnRoller 21 = .ok (.aload_n 0, 1) := by decide +kernel
theorem dX3_turnRoller_22 : decode cX3_turnRoller 22 = .ok (.iload_n 1, 1) := by decide +kernel
theorem dX3_turnRoller_23 : decode cX3_turnRoller 23 = .ok (.invokevirtual 34, 3) := by decide +kernel
theorem dX3_turnRoller_26 : decode cX3_turnRoller 26 = .ok (.imul, 1) := by decide +kernel
theorem dX3_turnRoller_27 : decode cX3_turnRoller 27 = .ok (.if_icmp .lt 8, 3) := by decide +kernel
theorem dX3_turnRoller_30 : decode cX3_turnRoller 30 = .ok (.aload_n 0, 1) := by decide +kernel
theorem dX3_turnRoller_31 : decode cX3_turnRoller 31 = .ok (.iload_n 1, 1) := by decide +kernel
theorem dX3_turnRoller_32 : decode cX3_turnRoller 32 = .ok (.invokevirtual 66, 3) := by decide +kernel
theorem dX3_turnRoller_35 : decode cX3_turnRoller 35 = .ok (.return_, 1) := by decide +kernel
set_option maxRecDepth 20000 in
theorem ggX3_wearDown_X3_teeth : GoodIn wsX3_wearDown wsX3_teeth := goodIn_r _ [5, 6, 7, 4, 8, 9, 10, 11, 12, 13, 30] (by decide +kernel) (by decide +kernel)
set_option maxRecDepth 20000 in
theorem gX3_wearDown_X3_teeth : GoodIn wsX3_wearDown (wsV RX3 34 RX3 yX3_teeth wsX3_teeth) := goodIn_app (goodIn_of _ (by decide +kernel)) ggX3_wearDown_X3_teeth
set_option maxRecDepth 20000 in
theorem ggX3_wearDown_X3_height : GoodIn wsX3_wearDown wsX3_height := goodIn_r _ [17, 6, 7, 4, 8, 9, 10, 11, 12, 13, 30] (by decide +kernel) (by decide +kernel)
set_option maxRecDepth 20000 in
theorem gX3_wearDown_X3_height : GoodIn wsX3_wearDown (wsV RX3 51 RX3 yX3_height wsX3_height) := goodIn_app (goodIn_of _ (by decide +kernel)) ggX3_wearDown_X3_height
set_option maxRecDepth 20000 in
theorem ggX3_wearDown_X3_shape : GoodIn wsX3_wearDown wsX3_shape := goodIn_r _ [21, 6, 7, 4, 8, 22, 23, 24, 25, 13, 30] (by decide +kernel) (by decide +kernel)
set_option maxRecDepth 20000 in
theorem gX3_wearDown_X3_shape : GoodIn wsX3_wearDown (wsV RX3 40 RX3 yX3_shape wsX3_shape) := goodIn_app (goodIn_of _ (by decide +kernel)) ggX3_wearDown_X3_shape
set_option maxRecDepth 20000 in
theorem ggX3_wearDown_X3_placeOf : GoodIn wsX3_wearDown wsX3_placeOf := goodIn_r _ [8] (by decide +kernel) (by decide +kernel)
set_option maxRecDepth 20000 in
theorem gX3_wearDown_X3_placeOf : GoodIn wsX3_wearDown (va_wsS RX3 37 yX3_placeOf wsX3_placeOf) := goodIn_app (goodIn_of _ (by decide +kernel)) ggX3_wearDown_X3_placeOf
set_option maxRecDepth 20000 in
theorem ggX3_wearDown_X3_change : GoodIn wsX3_wearDown wsX3_change := goodIn_r _ [25, 13, 30] (by decide +kernel) (by decide +kernel)
set_option maxRecDepth 20000 in
theorem gX3_wearDown_X3_change : GoodIn wsX3_wearDown (wsV RX3 19 RX3 yX3_change wsX3_change) := goodIn_app (goodIn_of _ (by decide +kernel)) ggX3_wearDown_X3_change
set_option maxRecDepth 20000 in
theorem ggX3_wearDown_X3_raise : GoodIn wsX3_wearDown wsX3_raise := goodIn_r _ [29, 9, 10, 11, 4, 12, 13, 22, 23, 24, 25, 30] (by decide +kernel) (by decide +kernel)
set_option maxRecDepth 20000 in
theorem gX3_wearDown_X3_raise : GoodIn wsX3_wearDown (wsV RX3 44 RX3 yX3_raise wsX3_raise) := goodIn_app (goodIn_of _ (by decide +kernel)) ggX3_wearDown_X3_raise
theorem dX3_wearDown_0 : decode cX3_wearDown 0 = .ok (.aload_n 0, 1) := by decide +kernel
theorem dX3_wearDown_1 : decode cX3_wearDown 1 = .ok (.iload_n 1, 1) := by decide +kernel
theorem dX3_wearDown_2 : decode cX3_wearDown 2 = .ok (.invokevirtual 34, 3) := by decide +kernel
theorem dX3_wearDown_5 : decode cX3_wearDown 5 = .ok (.istore_n 2, 1) := by decide +kernel
theorem dX3_wearDown_6 : decode cX3_wearDown 6 = .ok (.iconst 0, 1) := by decide +kernel
theorem dX3_wearDown_7 : decode cX3_wearDown 7 = .ok (.istore_n 3, 1) := by decide +kernel
theorem dX3_wearDown_8 : decode cX3_wearDown 8 = .ok (.iload_n 3, 1) := by decide +kernel
theorem dX3_wearDown_9 : decode cX3_wearDown 9 = .ok (.iload_n 2, 1) := by decide +kernel
theorem dX3_wearDown_10 : decode cX3_wearDown 10 = .ok (.if_icmp .ge 32, 3) := by decide +kernel
theorem dX3_wearDown_13 : decode cX3_wearDown 13 = .ok (.aload_n 0, 1) := by decide +kernel
theorem dX3_wearDown_14 : decode cX3_wearDown 14 = .ok (.iload_n 1, 1) := by decide +kernel
theorem dX3_wearDown_15 : decode cX3_wearDown 15 = .ok (.iload_n 3, 1) := by decide +kernel
theorem dX3_wearDown_16 : decode cX3_wearDown 16 = .ok (.invokevirtual 51, 3) := by decide +kernel
theorem dX3_wearDown_19 : decode cX3_wearDown 19 = .ok (.istore 4, 2) := by decide +kernel
theorem dX3_wearDown_21 : decode cX3_wearDown 21 = .ok (.iload 4, 2) := by decide +kernel
theorem dX3_wearDown_23 : decode cX3_wearDown 23 = .ok (.ifCond .le 13, 3) := by decide +kernel
theorem dX3_wearDown_26 : decode cX3_wearDown 26 = .ok (.aload_n 0, 1) := by decide +kernel
theorem dX3_wearDown_27 : decode cX3_wearDown 27 = .ok (.iload_n 1, 1) := by decide +kernel
theorem dX3_wearDown_28 : decode cX3_wearDown 28 = .ok (.iload_n 3, 1) := by decide +kernel
theorem dX3_wearDown_29 : decode cX3_wearDown 29 = .ok (.iload 4, 2) := by decide +kernel
theorem dX3_wearDown_31 : decode cX3_wearDown 31 = .ok (.iconst 1, 1) := by decide +kernel
theorem dX3_wearDown_32 : decode cX3_wearDown 32 = .ok (.isub, 1) := by decide +kernel
theorem dX3_wearDown_33 : decode cX3_wearDown 33 = .ok (.invokevirtual 40, 3) := by decide +kernel
theorem dX3_wearDown_36 : decode cX3_wearDown 36 = .ok (.iinc 3 1, 3) := by decide +kernel
theorem dX3_wearDown_39 : decode cX3_wearDown 39 = .ok (.goto (-31), 3) := by decide +kernel
theorem dX3_wearDown_42 : decode cX3_wearDown 42 = .ok (.aload_n 0, 1) := by decide +kernel
theorem dX3_wearDown_43 : decode cX3_wearDown 43 = .ok (.iload_n 1, 1) := by decide +kernel
theorem dX3_wearDown_44 : decode cX3_wearDown 44 = .ok (.invokestatic 37, 3) := by decide +kernel
theorem dX3_wearDown_47 : decode cX3_wearDown 47 = .ok (.iconst 1, 1) := by decide +kernel
theorem dX3_wearDown_48 : decode cX3_wearDown 48 = .ok (.iadd, 1) := by decide +kernel
theorem dX3_wearDown_49 : decode cX3_wearDown 49 = .ok (.iconst 0, 1) := by decide +kernel
theorem dX3_wearDown_50 : decode cX3_wearDown 50 = .ok (.invokevirtual 19, 3) := by decide +kernel
theorem dX3_wearDown_53 : decode cX3_wearDown 53 = .ok (.aload_n 0, 1) := by decide +kernel
theorem dX3_wearDown_54 : decode cX3_wearDown 54 = .ok (.iload_n 1, 1) := by decide +kernel
theorem dX3_wearDown_55 : decode cX3_wearDown 55 = .ok (.invokestatic 37, 3) := by decide +kernel
theorem dX3_wearDown_58 : decode cX3_wearDown 58 = .ok (.iconst 2, 1) := by decide +kernel
theorem dX3_wearDown_59 : decode cX3_wearDown 59 = .ok (.iadd, 1) := by decide +kernel
theorem dX3_wearDown_60 : decode cX3_wearDown 60 = .ok (.iconst 1, 1) := by decide +kernel
theorem dX3_wearDown_61 : decode cX3_wearDown 61 = .ok (.invokevirtual 44, 3) := by decide +kernel
theorem dX3_wearDown_64 : decode cX3_wearDown 64 = .ok (.return_, 1) := by decide +kernel
theorem dX3_copyTo_0 : decode cX3_copyTo 0 = .ok (.iload_n 2, 1) := by decide +kernel
theorem dX3_copyTo_1 : decode cX3_copyTo 1 = .ok (.ifCond .lt 30, 3) := by decide +kernel
theorem dX3_copyTo_4 : decode cX3_copyTo 4 = .ok (.iload_n 2, 1) := by decide +kernel
theorem dX3_copyTo_5 : decode cX3_copyTo 5 = .ok (.aload_n 1, 1) := by decide +kernel
theorem dX3_copyTo_6 : decode cX3_copyTo 6 = .ok (.arraylength, 1) := by decide +kernel
theorem dX3_copyTo_7 : decode cX3_copyTo 7 = .ok (.sipush 225, 3) := by decide +kernel
theorem dX3_copyTo_10 : decode cX3_copyTo 10 = .ok (.idiv, 1) := by decide +kernel
theorem dX3_copyTo_11 : decode cX3_copyTo 11 = .ok (.if_icmp .ge 20, 3) := by decide +kernel
theorem dX3_copyTo_14 : decode cX3_copyTo 14 = .ok (.aload_n 0, 1) := by decide +kernel
theorem dX3_copyTo_15 : decode cX3_copyTo 15 = .ok (.getfield 11, 3) := by decide +kernel
theorem dX3_copyTo_18 : decode cX3_copyTo 18 = .ok (.iconst 0, 1) := by decide +kernel
theorem dX3_copyTo_19 : decode cX3_copyTo 19 = .ok (.aload_n 1, 1) := by decide +kernel
theorem dX3_copyTo_20 : decode cX3_copyTo 20 = .ok (.iload_n 2, 1) := by decide +kernel
theorem dX3_copyTo_21 : decode cX3_copyTo 21 = .ok (.sipush 225, 3) := by decide +kernel
theorem dX3_copyTo_24 : decode cX3_copyTo 24 = .ok (.imul, 1) := by decide +kernel
theorem dX3_copyTo_25 : decode cX3_copyTo 25 = .ok (.sipush 225, 3) := by decide +kernel
theorem dX3_copyTo_28 : decode cX3_copyTo 28 = .ok (.invokestatic 70, 3) := by decide +kernel
theorem dX3_copyTo_31 : decode cX3_copyTo 31 = .ok (.return_, 1) := by decide +kernel
theorem dX3_copyFrom_0 : decode cX3_copyFrom 0 = .ok (.iload_n 2, 1) := by decide +kernel
theorem dX3_copyFrom_1 : decode cX3_copyFrom 1 = .ok (.ifCond .lt 30, 3) := by decide +kernel
theorem dX3_copyFrom_4 : decode cX3_copyFrom 4 = .ok (.iload_n 2, 1) := by decide +kernel
theorem dX3_copyFrom_5 : decode cX3_copyFrom 5 = .ok (.aload_n 1, 1) := by decide +kernel
theorem dX3_copyFrom_6 : decode cX3_copyFrom 6 = .ok (.arraylength, 1) := by decide +kernel
theorem dX3_copyFrom_7 : decode cX3_copyFrom 7 = .ok (.sipush 225, 3) := by decide +kernel
theorem dX3_copyFrom_10 : decode cX3_copyFrom 10 = .ok (.idiv, 1) := by decide +kernel
theorem dX3_copyFrom_11 : decode cX3_copyFrom 11 = .ok (.if_icmp .ge 20, 3) := by decide +kernel
theorem dX3_copyFrom_14 : decode cX3_copyFrom 14 = .ok (.aload_n 1, 1) := by decide +kernel
theorem dX3_copyFrom_15 : decode cX3_copyFrom 15 = .ok (.iload_n 2, 1) := by decide +kernel
theorem dX3_copyFrom_16 : decode cX3_copyFrom 16 = .ok (.sipush 225, 3) := by decide +kernel
theorem dX3_copyFrom_19 : decode cX3_copyFrom 19 = .ok (.imul, 1) := by decide +kernel
theorem dX3_copyFrom_20 : decode cX3_copyFrom 20 = .ok (.aload_n 0, 1) := by decide +kernel
theorem dX3_copyFrom_21 : decode cX3_copyFrom 21 = .ok (.getfield 11, 3) := by decide +kernel
theorem dX3_copyFrom_24 : decode cX3_copyFrom 24 = .ok (.iconst 0, 1) := by decide +kernel
theorem dX3_copyFrom_25 : decode cX3_copyFrom 25 = .ok (.sipush 225, 3) := by decide +kernel
theorem dX3_copyFrom_28 : decode cX3_copyFrom 28 = .ok (.invokestatic 70, 3) := by decide +kernel
theorem dX3_copyFrom_31 : decode cX3_copyFrom 31 = .ok (.return_, 1) := by decide +kernel
theorem dX4_init_0 : decode cX4_init 0 = .ok (.aload_n 0, 1) := by decide +kernel
theorem dX4_init_1 : decode cX4_init 1 = .ok (.invokespecial 3, 3) := by decide +kernel
theorem dX4_init_4 : decode cX4_init 4 = .ok (.aload_n 0, 1) := by decide +kernel
theorem dX4_init_5 : decode cX4_init 5 = .ok (.sipush 450, 3) := by decide +kernel
theorem dX4_init_8 : decode cX4_init 8 = .ok (.newarray .int, 2) := by decide +kernel
theorem dX4_init_10 : decode cX4_init 10 = .ok (.putfield 13, 3) := by decide +kernel
theorem dX4_init_13 : decode cX4_init 13 = .ok (.return_, 1) := by decide +kernel
set_option maxRecDepth 20000 in
theorem ggX4_keep_X6_outside : GoodIn wsX4_keep wsX6_outside := goodIn_r _ [5] (by decide +kernel) (by decide +kernel)
set_option maxRecDepth 20000 in
theorem gX4_keep_X6_outside_n17 : GoodIn wsX4_keep (wsX6_outside) := ggX4_keep_X6_outside
set_option maxRecDepth 20000 in
theorem ggX4_keep_X3_copyTo : GoodIn wsX4_keep wsX3_copyTo := goodIn_r _ [10, 11, 12, 13, 14, 15, 22] (by decide +kernel) (by decide +kernel)
set_option maxRecDepth 20000 in
theorem gX4_keep_X3_copyTo : GoodIn wsX4_keep (wsV RX4 21 RX3 yX3_copyTo wsX3_copyTo) := goodIn_app (goodIn_of _ (by decide +kernel)) ggX4_keep_X3_copyTo
set_option maxRecDepth 20000 in
theorem ggX4_keep_X3_cell : GoodIn wsX4_keep wsX3_cell := goodIn_r _ [19, 11, 22] (by decide +kernel) (by decide +kernel)
set_option maxRecDepth 20000 in
theorem gX4_keep_X3_cell : GoodIn wsX4_keep (wsV RX4 29 RX3 yX3_cell wsX3_cell) := goodIn_app (goodIn_of _ (by decide +kernel)) ggX4_keep_X3_cell
theorem dX4_keep_0 : decode cX4_keep 0 = .ok (.iload_n 1, 1) := by decide +kernel
theorem dX4_keep_1 : decode cX4_keep 1 = .ok (.iconst 0, 1) := by decide +kernel
theorem dX4_keep_2 : decode cX4_keep 2 = .ok (.iconst 1, 1) := by decide +kernel
theorem dX4_keep_3 : decode cX4_keep 3 = .ok (.invokestatic 17, 3) := by decide +kernel
theorem dX4_keep_6 : decode cX4_keep 6 = .ok (.ifCond .eq 6, 3) := by decide +kernel
theorem dX4_keep_9 : decode cX4_keep 9 = .ok (.bipush (-2), 2) := by decide +kernel
theorem dX4_keep_11 : decode cX4_keep 11 = .ok (.ireturn, 1) := by decide +kernel
theorem dX4_keep_12 : decode cX4_keep 12 = .ok (.aload_n 2, 1) := by decide +kernel
theorem dX4_keep_13 : decode cX4_keep 13 = .ok (.aload_n 0, 1) := by decide +kernel
theorem dX4_keep_14 : decode cX4_keep 14 = .ok (.getfield 13, 3) := by decide +kernel
theorem dX4_keep_17 : decode cX4_keep 17 = .ok (.iload_n 1, 1) := by decide +kernel
theorem dX4_keep_18 : decode cX4_keep 18 = .ok (.invokevirtual 21, 3) := by decide +kernel
theorem dX4_keep_21 : decode cX4_keep 21 = .ok (.aload_n 0, 1) := by decide +kernel
theorem dX4_keep_22 : decode cX4_keep 22 = .ok (.dup, 1) := by decide +kernel
theorem dX4_keep_23 : decode cX4_keep 23 = .ok (.getfield 25, 3) := by decide +kernel
theorem dX4_keep_26 : decode cX4_keep 26 = .ok (.iconst 1, 1) := by decide +kernel
theorem dX4_keep_27 : decode cX4_keep 27 = .ok (.iload_n 1, 1) := by decide +kernel
theorem dX4_keep_28 : decode cX4_keep 28 = .ok (.ishl, 1) := by decide +kernel
theorem dX4_keep_29 : decode cX4_keep 29 = .ok (.ior, 1) := by decide +kernel
theorem dX4_keep_30 : decode cX4_keep 30 = .ok (.putfield 25, 3) := by decide +kernel
theorem dX4_keep_33 : decode cX4_keep 33 = .ok (.aload_n 2, 1) := by decide +kernel
theorem dX4_keep_34 : decode cX4_keep 34 = .ok (.iconst 0, 1) := by decide +kernel
theorem dX4_keep_35 : decode cX4_keep 35 = .ok (.invokevirtual 29, 3) := by decide +kernel
theorem dX4_keep_38 : decode cX4_keep 38 = .ok (.ireturn, 1) := by decide +kernel
set_option maxRecDepth 20000 in
theorem ggX4_fetch_X6_outside : GoodIn wsX4_fetch wsX6_outside := goodIn_r _ [5] (by decide +kernel) (by decide +kernel)
set_option maxRecDepth 20000 in
theorem gX4_fetch_X6_outside_n17 : GoodIn wsX4_fetch (wsX6_outside) := ggX4_fetch_X6_outside
set_option maxRecDepth 20000 in
theorem ggX4_fetch_X3_copyFrom : GoodIn wsX4_fetch wsX3_copyFrom := goodIn_r _ [10, 11, 12, 13, 14, 15, 22] (by decide +kernel) (by decide +kernel)
set_option maxRecDepth 20000 in
theorem gX4_fetch_X3_copyFrom : GoodIn wsX4_fetch (wsV RX4 33 RX3 yX3_copyFrom wsX3_copyFrom) := goodIn_app (goodIn_of _ (by decide +kernel)) ggX4_fetch_X3_copyFrom
set_option maxRecDepth 20000 in
theorem ggX4_fetch_X3_cell : GoodIn wsX4_fetch wsX3_cell := goodIn_r _ [19, 11, 22] (by decide +kernel) (by decide +kernel)
set_option maxRecDepth 20000 in
theorem gX4_fetch_X3_cell : GoodIn wsX4_fetch (wsV RX4 29 RX3 yX3_cell wsX3_cell) := goodIn_app (goodIn_of _ (by decide +kernel)) ggX4_fetch_X3_cell
theorem dX4_fetch_0 : decode cX4_fetch 0 = .ok (.iload_n 1, 1) := by decide +kernel
theorem dX4_fetch_1 : decode cX4_fetch 1 = .ok (.iconst 0, 1) := by decide +kernel
theorem dX4_fetch_2 : decode cX4_fetch 2 = .ok (.iconst 1, 1) := by decide +kernel
theorem dX4_fetch_3 : decode cX4_fetch 3 = .ok (.invokestatic 17, 3) := by decide +kernel
theorem dX4_fetch_6 : decode cX4_fetch 6 = .ok (.ifCond .eq 6, 3) := by decide +kernel
theorem dX4_fetch_9 : decode cX4_fetch 9 = .ok (.bipush (-2), 2) := by decide +kernel
theorem dX4_fetch_11 : decode cX4_fetch 11 = .ok (.ireturn, 1) := by decide +kernel
theorem dX4_fetch_12 : decode cX4_fetch 12 = .ok (.aload_n 0, 1) := by decide +kernel
theorem dX4_fetch_13 : decode cX4_fetch 13 = .ok (.getfield 25, 3) := by decide +kernel
theorem dX4_fetch_16 : decode cX4_fetch 16 = .ok (.iconst 1, 1) := by decide +kernel
theorem dX4_fetch_17 : decode cX4_fetch 17 = .ok (.iload_n 1, 1) := by decide +kernel
theorem dX4_fetch_18 : decode cX4_fetch 18 = .ok (.ishl, 1) := by decide +kernel
theorem dX4_fetch_19 : decode cX4_fetch 19 = .ok (.iand, 1) := by decide +kernel
theorem dX4_fetch_20 : decode cX4_fetch 20 = .ok (.ifCond .ne 6, 3) := by decide +kernel
theorem dX4_fetch_23 : decode cX4_fetch 23 = .ok (.bipush (-5), 2) := by decide +kernel
theorem dX4_fetch_25 : decode cX4_fetch 25 = .ok (.ireturn, 1) := by decide +kernel
theorem dX4_fetch_26 : decode cX4_fetch 26 = .ok (.aload_n 2, 1) := by decide +kernel
theorem dX4_fetch_27 : decode cX4_fetch 27 = .ok (.aload_n 0, 1) := by decide +kernel
theorem dX4_fetch_28 : decode cX4_fetch 28 = .ok (.getfield 13, 3) := by decide +kernel
theorem dX4_fetch_31 : decode cX4_fetch 31 = .ok (.iload_n 1, 1) := by decide +kernel
theorem dX4_fetch_32 : decode cX4_fetch 32 = .ok (.invokevirtual 33, 3) := by decide +kernel
theorem dX4_fetch_35 : decode cX4_fetch 35 = .ok (.aload_n 2, 1) := by decide +kernel
theorem dX4_fetch_36 : decode cX4_fetch 36 = .ok (.iconst 0, 1) := by decide +kernel
theorem dX4_fetch_37 : decode cX4_fetch 37 = .ok (.invokevirtual 29, 3) := by decide +kernel
theorem dX4_fetch_40 : decode cX4_fetch 40 = .ok (.ireturn, 1) := by decide +kernel
theorem dX5_init_0 : decode cX5_init 0 = .ok (.aload_n 0, 1) := by decide +kernel
theorem dX5_init_1 : decode cX5_init 1 = .ok (.invokespecial 3, 3) := by decide +kernel
theorem dX5_init_4 : decode cX5_init 4 = .ok (.aload_n 0, 1) := by decide +kernel
theorem dX5_init_5 : decode cX5_init 5 = .ok (.sipush 552, 3) := by decide +kernel
theorem dX5_init_8 : decode cX5_init 8 = .ok (.newarray .int, 2) := by decide +kernel
theorem dX5_init_10 : decode cX5_init 10 = .ok (.putfield 11, 3) := by decide +kernel
theorem dX5_init_13 : decode cX5_init 13 = .ok (.return_, 1) := by decide +kernel
set_option maxRecDepth 20000 in
theorem ggX5_lay_X3_teeth : GoodIn wsX5_lay wsX3_teeth := goodIn_r _ [11, 12, 13, 10, 14, 15, 16, 17, 18, 19, 35] (by decide +kernel) (by decide +kernel)
set_option maxRecDepth 20000 in
theorem gX5_lay_X3_teeth : GoodIn wsX5_lay (wsV RX5 15 RX3 yX3_teeth wsX3_teeth) := goodIn_app (goodIn_of _ (by decide +kernel)) ggX5_lay_X3_teeth
set_option maxRecDepth 20000 in
theorem ggX5_lay_X5_leastMultiple : GoodIn wsX5_lay wsX5_leastMultiple := goodIn_r _ [23] (by decide +kernel) (by decide +kernel)
set_option maxRecDepth 20000 in
theorem gX5_lay_X5_leastMultiple : GoodIn wsX5_lay (va_wsS RX5 21 yX5_leastMultiple wsX5_leastMultiple) := goodIn_app (goodIn_of _ (by decide +kernel)) ggX5_lay_X5_leastMultiple
set_option maxRecDepth 20000 in
theorem ggX5_lay_X3_height : GoodIn wsX5_lay wsX3_height := goodIn_r _ [27, 12, 13, 10, 14, 15, 16, 17, 18, 19, 35] (by decide +kernel) (by decide +kernel)
set_option maxRecDepth 20000 in
theorem gX5_lay_X3_height : GoodIn wsX5_lay (wsV RX5 34 RX3 yX3_height wsX3_height) := goodIn_app (goodIn_of _ (by decide +kernel)) ggX5_lay_X3_height
set_option maxRecDepth 20000 in
theorem ggX5_lay_X5_next : GoodIn wsX5_lay wsX5_next := goodIn_r _ [30] (by decide +kernel) (by decide +kernel)
set_option maxRecDepth 20000 in
theorem gX5_lay_X5_next : GoodIn wsX5_lay (va_wsS RX5 37 yX5_next wsX5_next) := goodIn_app (goodIn_of _ (by decide +kernel)) ggX5_lay_X5_next
theorem dX5_lay_0 : decode cX5_lay 0 = .ok (.aload_n 1, 1) := by decide +kernel
theorem dX5_lay_1 : decode cX5_lay 1 = .ok (.iload_n 2, 1) := by decide +kernel
theorem dX5_lay_2 : decode cX5_lay 2 = .ok (.invokevirtual 15, 3) := by decide +kernel
theorem dX5_lay_5 : decode cX5_lay 5 = .ok (.istore 6, 2) := by decide +kernel
theorem dX5_lay_7 : decode cX5_lay 7 = .ok (.aload_n 1, 1) := by decide +kernel
theorem dX5_lay_8 : decode cX5_lay 8 = .ok (.iload_n 3, 1) := by decide +kernel
theorem dX5_lay_9 : decode cX5_lay 9 = .ok (.invokevirtual 15, 3) := by decide +kernel
theorem dX5_lay_12 : decode cX5_lay 12 = .ok (.istore 7, 2) := by decide +kernel
theorem dX5_lay_14 : decode cX5_lay 14 = .ok (.aload_n 0, 1) := by decide +kernel
theorem dX5_lay_15 : decode cX5_lay 15 = .ok (.iload 6, 2) := by decide +kernel
theorem dX5_lay_17 : decode cX5_lay 17 = .ok (.iload 7, 2) := by decide +kernel
theorem dX5_lay_19 : decode cX5_lay 19 = .ok (.invokestatic 21, 3) := by decide +kernel
theorem dX5_lay_22 : decode cX5_lay 22 = .ok (.sipush 552, 3) := by decide +kernel
theorem dX5_lay_25 : decode cX5_lay 25 = .ok (.invokestatic 25, 3) := by decide +kernel
theorem dX5_lay_28 : decode cX5_lay 28 = .ok (.putfield 30, 3) := by decide +kernel
theorem dX5_lay_31 : decode cX5_lay 31 = .ok (.iconst 0, 1) := by decide +kernel
theorem dX5_lay_32 : decode cX5_lay 32 = .ok (.istore 8, 2) := by decide +kernel
theorem dX5_lay_34 : decode cX5_lay 34 = .ok (.iload 7, 2) := by decide +kernel
theorem dX5_lay_36 : decode cX5_lay 36 = .ok (.ifCond .le 11, 3) := by decide +kernel
theorem dX5_lay_39 : decode cX5_lay 39 = .ok (.iload 4, 2) := by decide +kernel
theorem dX5_lay_41 : decode cX5_lay 41 = .ok (.iload 7, 2) := by decide +kernel
theorem dX5_lay_43 : decode cX5_lay 43 = .ok (.irem, 1) := by decide +kernel
theorem dX5_lay_44 : decode cX5_lay 44 = .ok (.goto 4, 3) := by decide +kernel
theorem dX5_lay_47 : decode cX5_lay 47 = .ok (.iconst 0, 1) := by decide +kernel
theorem dX5_lay_48 : decode cX5_lay 48 = .ok (.istore 9, 2) := by decide +kernel
theorem dX5_lay_50 : decode cX5_lay 50 = .ok (.iconst 0, 1) := by decide +kernel
theorem dX5_lay_51 : decode cX5_lay 51 = .ok (.istore 10, 2) := by decide +kernel
theorem dX5_lay_53 : decode cX5_lay 53 = .ok (.iload 10, 2) := by decide +kernel
theorem dX5_lay_55 : decode cX5_lay 55 = .ok (.aload_n 0, 1) := by decide +kernel
theorem dX5_lay_56 : decode cX5_lay 56 = .ok (.getfield 30, 3) := by decide +kernel
theorem dX5_lay_59 : decode cX5_lay 59 = .ok (.if_icmp .ge 62, 3) := by decide +kernel
theorem dX5_lay_62 : decode cX5_lay 62 = .ok (.iload 10, 2) := by decide +kernel
theorem dX5_lay_64 : decode cX5_lay 64 = .ok (.aload_n 0, 1) := by decide +kernel
theorem dX5_lay_65 : decode cX5_lay 65 = .ok (.getfield 11, 3) := by decide +kernel
theorem dX5_lay_68 : decode cX5_lay 68 = .ok (.arraylength, 1) := by decide +kernel
theorem dX5_lay_69 : decode cX5_lay 69 = .ok (.if_icmp .ge 52, 3) := by decide +kernel
theorem dX5_lay_72 : decode cX5_lay 72 = .ok (.aload_n 0, 1) := by decide +kernel
theorem dX5_lay_73 : decode cX5_lay 73 = .ok (.getfield 11, 3) := by decide +kernel
theorem dX5_lay_76 : decode cX5_lay 76 = .ok (.iload 10, 2) := by decide +kernel
theorem dX5_lay_78 : decode cX5_lay 78 = .ok (.iload 5, 2) := by decide +kernel
theorem dX5_lay_80 : decode cX5_lay 80 = .ok (.aload_n 1, 1) := by decide +kernel
theorem dX5_lay_81 : decode cX5_lay 81 = .ok (.iload_n 2, 1) := by decide +kernel
theorem dX5_lay_82 : decode cX5_lay 82 = .ok (.iload 8, 2) := by decide +kernel
theorem dX5_lay_84 : decode cX5_lay 84 = .ok (.invokevirtual 34, 3) := by decide +kernel
theorem dX5_lay_87 : decode cX5_lay 87 = .ok (.isub, 1) := by decide +kernel
theorem dX5_lay_88 : decode cX5_lay 88 = .ok (.aload_n 1, 1) := by decide +kernel
theorem dX5_lay_89 : decode cX5_lay 89 = .ok (.iload_n 3, 1) := by decide +kernel
theorem dX5_lay_90 : decode cX5_lay 90 = .ok (.iload 9, 2) := by decide +kernel
theorem dX5_lay_92 : decode cX5_lay 92 = .ok (.invokevirtual 34, 3) := by decide +kernel
theorem dX5_lay_95 : decode cX5_lay 95 = .ok (.isub, 1) := by decide +kernel
theorem dX5_lay_96 : decode cX5_lay 96 = .ok (.iastore, 1) := by decide +kernel
theorem dX5_lay_97 : decode cX5_lay 97 = .ok (.iload 8, 2) := by decide +kernel
theorem dX5_lay_99 : decode cX5_lay 99 = .ok (.iload 6, 2) := by decide +kernel
theorem dX5_lay_101 : decode cX5_lay 101 = .ok (.invokestatic 37, 3) := by decide +kernel
theorem dX5_lay_104 : decode cX5_lay 104 = .ok (.istore 8, 2) := by decide +kernel
theorem dX5_lay_106 : decode cX5_lay 106 = .ok (.iload 9, 2) := by decide +kernel
theorem dX5_lay_108 : decode cX5_lay 108 = .ok (.iload 7, 2) := by decide +kernel
theorem dX5_lay_110 : decode cX5_lay 110 = .ok (.invokestatic 37, 3) := by decide +kernel
theorem dX5_lay_113 : decode cX5_lay 113 = .ok (.istore 9, 2) := by decide +kernel
theorem dX5_lay_115 : decode cX5_lay 115 = .ok (.iinc 10 1, 3) := by decide +kernel
theorem dX5_lay_118 : decode cX5_lay 118 = .ok (.goto (-65), 3) := by decide +kernel
theorem dX5_lay_121 : decode cX5_lay 121 = .ok (.return_, 1) := by decide +kernel
theorem dX5_leastMultiple_0 : decode cX5_leastMultiple 0 = .ok (.iconst 1, 1) := by decide +kernel
theorem dX5_leastMultiple_1 : decode cX5_leastMultiple 1 = .ok (.istore_n 2, 1) := by decide +kernel
theorem dX5_leastMultiple_2 : decode cX5_leastMultiple 2 = .ok (.iload_n 2, 1) := by decide +kernel
theorem dX5_leastMultiple_3 : decode cX5_leastMultiple 3 = .ok (.iload_n 1, 1) := by decide +kernel
theorem dX5_leastMultiple_4 : decode cX5_leastMultiple 4 = .ok (.if_icmp .ge 21, 3) := by decide +kernel
theorem dX5_leastMultiple_7 : decode cX5_leastMultiple 7 = .ok (.iload_n 0, 1) := by decide +kernel
theorem dX5_leastMultiple_8 : decode cX5_leastMultiple 8 = .ok (.iload_n 2, 1) := by decide +kernel
theorem dX5_leastMultiple_9 : decode cX5_leastMultiple 9 = .ok (.imul, 1) := by decide +kernel
theorem dX5_leastMultiple_10 : decode cX5_leastMultiple 10 = .ok (.iload_n 1, 1) := by decide +kernel
theorem dX5_leastMultiple_11 : decode cX5_leastMultiple 11 = .ok (.irem, 1) := by decide +kernel
theorem dX5_leastMultiple_12 : decode cX5_leastMultiple 12 = .ok (.ifCond .ne 7, 3) := by decide +kernel
theorem dX5_leastMultiple_15 : decode cX5_leastMultiple 15 = .ok (.iload_n 0, 1) := by decide +kernel
theorem dX5_leastMultiple_16 : decode cX5_leastMultiple 16 = .ok (.iload_n 2, 1) := by decide +kernel
theorem dX5_leastMultiple_17 : decode cX5_leastMultiple 17 = .ok (.imul, 1) := by decide +kernel
theorem dX5_leastMultiple_18 : decode cX5_leastMultiple 18 = .ok (.ireturn, 1) := by decide +kernel
theorem dX5_leastMultiple_19 : decode cX5_leastMultiple 19 = .ok (.iinc 2 1, 3) := by decide +kernel
theorem dX5_leastMultiple_22 : decode cX5_leastMultiple 22 = .ok (.goto (-20), 3) := by decide +kernel
theorem dX5_leastMultiple_25 : decode cX5_leastMultiple 25 = .ok (.iload_n 0, 1) := by decide +kernel
theorem dX5_leastMultiple_26 : decode cX5_leastMultiple 26 = .ok (.iload_n 1, 1) := by decide +kernel
theorem dX5_leastMultiple_27 : decode cX5_leastMultiple 27 = .ok (.imul, 1) := by decide +kernel
theorem dX5_leastMultiple_28 : decode cX5_leastMultiple 28 = .ok (.ireturn, 1) := by decide +kernel
theorem dX5_next_0 : decode cX5_next 0 = .ok (.iload_n 0, 1) := by decide +kernel
theorem dX5_next_1 : decode cX5_next 1 = .ok (.iconst 1, 1) := by decide +kernel
theorem dX5_next_2 : decode cX5_next 2 = .ok (.iadd, 1) := by decide +kernel
theorem dX5_next_3 : decode cX5_next 3 = .ok (.iload_n 1, 1) := by decide +kernel
theorem dX5_next_4 : decode cX5_next 4 = .ok (.if_icmp .ge 9, 3) := by decide +kernel
theorem dX5_next_7 : decode cX5_next 7 = .ok (.iload_n 0, 1) := by decide +kernel
theorem dX5_next_8 : decode cX5_next 8 = .ok (.iconst 1, 1) := by decide +kernel
theorem dX5_next_9 : decode cX5_next 9 = .ok (.iadd, 1) := by decide +kernel
theorem dX5_next_10 : decode cX5_next 10 = .ok (.goto 4, 3) := by decide +kernel
theorem dX5_next_13 : decode cX5_next 13 = .ok (.iconst 0, 1) := by decide +kernel
theorem dX5_next_14 : decode cX5_next 14 = .ok (.ireturn, 1) := by decide +kernel
theorem dX5_length_0 : decode cX5_length 0 = .ok (.aload_n 0, 1) := by decide +kernel
theorem dX5_length_1 : decode cX5_length 1 = .ok (.getfield 30, 3) := by decide +kernel
theorem dX5_length_4 : decode cX5_length 4 = .ok (.ireturn, 1) := by decide +kernel
theorem dX5_press_0 : decode cX5_press 0 = .ok (.iload_n 1, 1) := by decide +kernel
theorem dX5_press_1 : decode cX5_press 1 = .ok (.ifCond .lt 21, 3) := by decide +kernel
theorem dX5_press_4 : decode cX5_press 4 = .ok (.iload_n 1, 1) := by decide +kernel
theorem dX5_press_5 : decode cX5_press 5 = .ok (.aload_n 0, 1) := by decide +kernel
theorem dX5_press_6 : decode cX5_press 6 = .ok (.getfield 11, 3) := by decide +kernel
theorem dX5_press_9 : decode cX5_press 9 = .ok (.arraylength, 1) := by decide +kernel
theorem dX5_press_10 : decode cX5_press 10 = .ok (.if_icmp .ge 12, 3) := by decide +kernel
theorem dX5_press_13 : decode cX5_press 13 = .ok (.aload_n 0, 1) := by decide +kernel
theorem dX5_press_14 : decode cX5_press 14 = .ok (.getfield 11, 3) := by decide +kernel
theorem dX5_press_17 : decode cX5_press 17 = .ok (.iload_n 1, 1) := by decide +kernel
theorem dX5_press_18 : decode cX5_press 18 = .ok (.iaload, 1) := by decide +kernel
theorem dX5_press_19 : decode cX5_press 19 = .ok (.goto 4, 3) := by decide +kernel
theorem dX5_press_22 : decode cX5_press 22 = .ok (.iconst 0, 1) := by decide +kernel
theorem dX5_press_23 : decode cX5_press 23 = .ok (.ireturn, 1) := by decide +kernel
set_option maxRecDepth 20000 in
theorem ggX5_leastPress_X5_press : GoodIn wsX5_leastPress wsX5_press := goodIn_r _ [10, 11, 12, 13, 14, 15] (by decide +kernel) (by decide +kernel)
set_option maxRecDepth 20000 in
theorem gX5_leastPress_X5_press : GoodIn wsX5_leastPress (wsV RX5 40 RX5 yX5_press wsX5_press) := goodIn_app (goodIn_of _ (by decide +kernel)) ggX5_leastPress_X5_press
theorem dX5_leastPress_0 : decode cX5_leastPress 0 = .ok (.aload_n 0, 1) := by decide +kernel
theorem dX5_leastPress_1 : decode cX5_leastPress 1 = .ok (.iconst 0, 1) := by decide +kernel
theorem dX5_leastPress_2 : decode cX5_leastPress 2 = .ok (.invokevirtual 40, 3) := by decide +kernel
theorem dX5_leastPress_5 : decode cX5_leastPress 5 = .ok (.istore_n 1, 1) := by decide +kernel
theorem dX5_leastPress_6 : decode cX5_leastPress 6 = .ok (.iconst 1, 1) := by decide +kernel
theorem dX5_leastPress_7 : decode cX5_leastPress 7 = .ok (.istore_n 2, 1) := by decide +kernel
theorem dX5_leastPress_8 : decode cX5_leastPress 8 = .ok (.iload_n 2, 1) := by decide +kernel
theorem dX5_leastPress_9 : decode cX5_leastPress 9 = .ok (.aload_n 0, 1) := by decide +kernel
theorem dX5_leastPress_10 : decode cX5_leastPress 10 = .ok (.getfield 30, 3) := by decide +kernel
theorem dX5_leastPress_13 : decode cX5_leastPress 13 = .ok (.if_icmp .ge 19, 3) := by decide +kernel
theorem dX5_leastPress_16 : decode cX5_leastPress 16 = .ok (.iload_n 1, 1) := by decide +kernel
theorem dX5_leastPress_17 : decode cX5_leastPress 17 = .ok (.aload_n 0, 1) := by decide +kernel
theorem dX5_leastPress_18 : decode cX5_leastPress 18 = .ok (.iload_n 2, 1) := by decide +kernel
theorem dX5_leastPress_19 : decode cX5_leastPress 19 = .ok (.invokevirtual 40, 3) := by decide +kernel
theorem dX5_leastPress_22 : decode cX5_leastPress 22 = .ok (.invokestatic 25, 3) := by decide +kernel
theorem dX5_leastPress_25 : decode cX5_leastPress 25 = .ok (.istore_n 1, 1) := by decide +kernel
theorem dX5_leastPress_26 : decode cX5_leastPress 26 = .ok (.iinc 2 1, 3) := by decide +kernel
theorem dX5_leastPress_29 : decode cX5_leastPress 29 = .ok (.goto (-21), 3) := by decide +kernel
theorem dX5_leastPress_32 : decode cX5_leastPress 32 = .ok (.iload_n 1, 1) := by decide +kernel
theorem dX5_leastPress_33 : decode cX5_leastPress 33 = .ok (.ireturn, 1) := by decide +kernel
set_option maxRecDepth 20000 in
theorem ggX5_greatestPress_X5_press : GoodIn wsX5_greatestPress wsX5_press := goodIn_r _ [10, 11, 12, 13, 14, 15] (by decide +kernel) (by decide +kernel)
set_option maxRecDepth 20000 in
theorem gX5_greatestPress_X5_press : GoodIn wsX5_greatestPress (wsV RX5 40 RX5 yX5_press wsX5_press) := goodIn_app (goodIn_of _ (by decide +kernel)) ggX5_greatestPress_X5_press
theorem dX5_greatestPress_0 : decode cX5_greatestPress 0 = .ok (.aload_n 0, 1) := by decide +kernel
theorem dX5_greatestPress_1 : decode cX5_greatestPress 1 = .ok (.iconst 0, 1) := by decide +kernel
theorem dX5_greatestPress_2 : decode cX5_greatestPress 2 = .ok (.invokevirtual 40, 3) := by decide +kernel
theorem dX5_greatestPress_5 : decode cX5_greatestPress 5 = .ok (.istore_n 1, 1) := by decide +kernel
theorem dX5_greatestPress_6 : decode cX5_greatestPress 6 = .ok (.iconst 1, 1) := by decide +kernel
theorem dX5_greatestPress_7 : decode cX5_greatestPress 7 = .ok (.istore_n 2, 1) := by decide +kernel
theorem dX5_greatestPress_8 : decode cX5_greatestPress 8 = .ok (.iload_n 2, 1) := by decide +kernel
theorem dX5_greatestPress_9 : decode cX5_greatestPress 9 = .ok (.aload_n 0, 1) := by decide +kernel
theorem dX5_greatestPress_10 : decode cX5_greatestPress 10 = .ok (.getfield 30, 3) := by decide +kernel
theorem dX5_greatestPress_13 : decode cX5_greatestPress 13 = .ok (.if_icmp .ge 19, 3) := by decide +kernel
theorem dX5_greatestPress_16 : decode cX5_greatestPress 16 = .ok (.iload_n 1, 1) := by decide +kernel
theorem dX5_greatestPress_17 : decode cX5_greatestPress 17 = .ok (.aload_n 0, 1) := by decide +kernel
theorem dX5_greatestPress_18 : decode cX5_greatestPress 18 = .ok (.iload_n 2, 1) := by decide +kernel
theorem dX5_greatestPress_19 : decode cX5_greatestPress 19 = .ok (.invokevirtual 40, 3) := by decide +kernel
theorem dX5_greatestPress_22 : decode cX5_greatestPress 22 = .ok (.invokestatic 43, 3) := by decide +kernel
theorem dX5_greatestPress_25 : decode cX5_greatestPress 25 = .ok (.istore_n 1, 1) := by decide +kernel
theorem dX5_greatestPress_26 : decode cX5_greatestPress 26 = .ok (.iinc 2 1, 3) := by decide +kernel
theorem dX5_greatestPress_29 : decode cX5_greatestPress 29 = .ok (.goto (-21), 3) := by decide +kernel
theorem dX5_greatestPress_32 : decode cX5_greatestPress 32 = .ok (.iload_n 1, 1) := by decide +kernel
theorem dX5_greatestPress_33 : decode cX5_greatestPress 33 = .ok (.ireturn, 1) := by decide +kernel
set_option maxRecDepth 20000 in
theorem ggX5_isSmoothAt_X5_press : GoodIn wsX5_isSmoothAt wsX5_press := goodIn_r _ [10, 11, 12, 13, 14, 15] (by decide +kernel) (by decide +kernel)
set_option maxRecDepth 20000 in
theorem gX5_isSmoothAt_X5_press : GoodIn wsX5_isSmoothAt (wsV RX5 40 RX5 yX5_press wsX5_press) := goodIn_app (goodIn_of _ (by decide +kernel)) ggX5_isSmoothAt_X5_press
theorem dX5_isSmoothAt_0 : decode cX5_isSmoothAt 0 = .ok (.iload_n 1, 1) := by decide +kernel
theorem dX5_isSmoothAt_1 : decode cX5_isSmoothAt 1 = .ok (.ifCond .le 9, 3) := by decide +kernel
theorem dX5_isSmoothAt_4 : decode cX5_isSmoothAt 4 = .ok (.iload_n 1, 1) := by decide +kernel
theorem dX5_isSmoothAt_5 : decode cX5_isSmoothAt 5 = .ok (.iconst 1, 1) := by decide +kernel
theorem dX5_isSmoothAt_6 : decode cX5_isSmoothAt 6 = .ok (.isub, 1) := by decide +kernel
theorem dX5_isSmoothAt_7 : decode cX5_isSmoothAt 7 = .ok (.goto 9, 3) := by decide +kernel
theorem dX5_isSmoothAt_10 : decode cX5_isSmoothAt 10 = .ok (.aload_n 0, 1) := by decide +kernel
theorem dX5_isSmoothAt_11 : decode cX5_isSmoothAt 11 = .ok (.getfield 30, 3) := by decide +kernel
theorem dX5_isSmoothAt_14 : decode cX5_isSmoothAt 14 = .ok (.iconst 1, 1) := by decide +kernel
theorem dX5_isSmoothAt_15 : decode cX5_isSmoothAt 15 = .ok (.isub, 1) := by decide +kernel
theorem dX5_isSmoothAt_16 : decode cX5_isSmoothAt 16 = .ok (.istore_n 3, 1) := by decide +kernel
theorem dX5_isSmoothAt_17 : decode cX5_isSmoothAt 17 = .ok (.aload_n 0, 1) := by decide +kernel
theorem dX5_isSmoothAt_18 : decode cX5_isSmoothAt 18 = .ok (.iload_n 1, 1) := by decide +kernel
theorem dX5_isSmoothAt_19 : decode cX5_isSmoothAt 19 = .ok (.invokevirtual 40, 3) := by decide +kernel
theorem dX5_isSmoothAt_22 : decode cX5_isSmoothAt 22 = .ok (.aload_n 0, 1) := by decide +kernel
theorem dX5_isSmoothAt_23 : decode cX5_isSmoothAt 23 = .ok (.iload_n 3, 1) := by decide +kernel
theorem dX5_isSmoothAt_24 : decode cX5_isSmoothAt 24 = .ok (.invokevirtual 40, 3) := by decide +kernel
theorem dX5_isSmoothAt_27 : decode cX5_isSmoothAt 27 = .ok (.isub, 1) := by decide +kernel
theorem dX5_isSmoothAt_28 : decode cX5_isSmoothAt 28 = .ok (.invokestatic 46, 3) := by decide +kernel
theorem dX5_isSmoothAt_31 : decode cX5_isSmoothAt 31 = .ok (.iload_n 2, 1) := by decide +kernel
theorem dX5_isSmoothAt_32 : decode cX5_isSmoothAt 32 = .ok (.if_icmp .gt 7, 3) := by decide +kernel
theorem dX5_isSmoothAt_35 : decode cX5_isSmoothAt 35 = .ok (.iconst 1, 1) := by decide +kernel
theorem dX5_isSmoothAt_36 : decode cX5_isSmoothAt 36 = .ok (.goto 4, 3) := by decide +kernel
theorem dX5_isSmoothAt_39 : decode cX5_isSmoothAt 39 = .ok (.iconst 0, 1) := by decide +kernel
theorem dX5_isSmoothAt_40 : decode cX5_isSmoothAt 40 = .ok (.ireturn, 1) := by decide +kernel
set_option maxRecDepth 20000 in
theorem ggX5_isSmooth_X5_isSmoothAt : GoodIn wsX5_isSmooth wsX5_isSmoothAt := goodIn_r _ [6, 1, 7, 8, 9, 10, 11, 12, 13, 5, 14, 15, 16, 17, 18, 19] (by decide +kernel) (by decide +kernel)
set_option maxRecDepth 20000 in
theorem gX5_isSmooth_X5_isSmoothAt : GoodIn wsX5_isSmooth (wsV RX5 49 RX5 yX5_isSmoothAt wsX5_isSmoothAt) := goodIn_app (goodIn_of _ (by decide +kernel)) ggX5_isSmooth_X5_isSmoothAt
theorem dX5_isSmooth_0 : decode cX5_isSmooth 0 = .ok (.iconst 0, 1) := by decide +kernel
theorem dX5_isSmooth_1 : decode cX5_isSmooth 1 = .ok (.istore_n 2, 1) := by decide +kernel
theorem dX5_isSmooth_2 : decode cX5_isSmooth 2 = .ok (.iload_n 2, 1) := by decide +kernel
theorem dX5_isSmooth_3 : decode cX5_isSmooth 3 = .ok (.aload_n 0, 1) := by decide +kernel
theorem dX5_isSmooth_4 : decode cX5_isSmooth 4 = .ok (.getfield 30, 3) := by decide +kernel
theorem dX5_isSmooth_7 : decode cX5_isSmooth 7 = .ok (.if_icmp .ge 20, 3) := by decide +kernel
theorem dX5_isSmooth_10 : decode cX5_isSmooth 10 = .ok (.aload_n 0, 1) := by decide +kernel
theorem dX5_isSmooth_11 : decode cX5_isSmooth 11 = .ok (.iload_n 2, 1) := by decide +kernel
theorem dX5_isSmooth_12 : decode cX5_isSmooth 12 = .ok (.iload_n 1, 1) := by decide +kernel
theorem dX5_isSmooth_13 : decode cX5_isSmooth 13 = .ok (.invokevirtual 49, 3) := by decide +kernel
theorem dX5_isSmooth_16 : decode cX5_isSmooth 16 = .ok (.ifCond .ne 5, 3) := by decide +kernel
theorem dX5_isSmooth_19 : decode cX5_isSmooth 19 = .ok (.iconst 0, 1) := by decide +kernel
theorem dX5_isSmooth_20 : decode cX5_isSmooth 20 = .ok (.ireturn, 1) := by decide +kernel
theorem dX5_isSmooth_21 : decode cX5_isSmooth 21 = .ok (.iinc 2 1, 3) := by decide +kernel
theorem dX5_isSmooth_24 : decode cX5_isSmooth 24 = .ok (.goto (-22), 3) := by decide +kernel
theorem dX5_isSmooth_27 : decode cX5_isSmooth 27 = .ok (.iconst 1, 1) := by decide +kernel
theorem dX5_isSmooth_28 : decode cX5_isSmooth 28 = .ok (.ireturn, 1) := by decide +kernel
set_option maxRecDepth 20000 in
theorem ggX5_firstBadStep_X5_press : GoodIn wsX5_firstBadStep wsX5_press := goodIn_r _ [6, 7, 16, 17, 18, 19] (by decide +kernel) (by decide +kernel)
set_option maxRecDepth 20000 in
theorem gX5_firstBadStep_X5_press : GoodIn wsX5_firstBadStep (wsV RX5 40 RX5 yX5_press wsX5_press) := goodIn_app (goodIn_of _ (by decide +kernel)) ggX5_firstBadStep_X5_press
set_option maxRecDepth 20000 in
theorem ggX5_firstBadStep_X5_isSmoothAt : GoodIn wsX5_firstBadStep wsX5_isSmoothAt := goodIn_r _ [11, 1, 12, 13, 14, 15, 2, 3, 4, 5, 6, 7, 16, 17, 18, 19] (by decide +kernel) (by decide +kernel)
set_option maxRecDepth 20000 in
theorem gX5_firstBadStep_X5_isSmoothAt : GoodIn wsX5_firstBadStep (wsV RX5 49 RX5 yX5_isSmoothAt wsX5_isSmoothAt) := goodIn_app (goodIn_of _ (by decide +kernel)) ggX5_firstBadStep_X5_isSmoothAt
theorem dX5_firstBadStep_0 : decode cX5_firstBadStep 0 = .ok (.iconst 0, 1) := by decide +kernel
theorem dX5_firstBadStep_1 : decode cX5_firstBadStep 1 = .ok (.istore_n 2, 1) := by decide +kernel
theorem dX5_firstBadStep_2 : decode cX5_firstBadStep 2 = .ok (.iload_n 2, 1) := by decide +kernel
theorem dX5_firstBadStep_3 : decode cX5_firstBadStep 3 = .ok (.aload_n 0, 1) := by decide +kernel
theorem dX5_firstBadStep_4 : decode cX5_firstBadStep 4 = .ok (.getfield 30, 3) := by decide +kernel
theorem dX5_firstBadStep_7 : decode cX5_firstBadStep 7 = .ok (.if_icmp .ge 29, 3) := by decide +kernel
theorem dX5_firstBadStep_10 : decode cX5_firstBadStep 10 = .ok (.aload_n 0, 1) := by decide +kernel
theorem dX5_firstBadStep_11 : decode cX5_firstBadStep 11 = .ok (.iload_n 2, 1) := by decide +kernel
theorem dX5_firstBadStep_12 : decode cX5_firstBadStep 12 = .ok (.invokevirtual 40, 3) := by decide +kernel
theorem dX5_firstBadStep_15 : decode cX5_firstBadStep 15 = .ok (.iconst 1, 1) := by decide +kernel
theorem dX5_firstBadStep_16 : decode cX5_firstBadStep 16 = .ok (.if_icmp .lt 12, 3) := by decide +kernel
theorem dX5_firstBadStep_19 : decode cX5_firstBadStep 19 = .ok (.aload_n 0, 1) := by decide +kernel
theorem dX5_firstBadStep_20 : decode cX5_firstBadStep 20 = .ok (.iload_n 2, 1) := by decide +kernel
theorem dX5_firstBadStep_21 : decode cX5_firstBadStep 21 = .ok (.iload_n 1, 1) := by decide +kernel
theorem dX5_firstBadStep_22 : decode cX5_firstBadStep 22 = .ok (.invokevirtual 49, 3) := by decide +kernel
theorem dX5_firstBadStep_25 : decode cX5_firstBadStep 25 = .ok (.ifCond .ne 5, 3) := by decide +kernel
theorem dX5_firstBadStep_28 : decode cX5_firstBadStep 28 = .ok (.iload_n 2, 1) := by decide +kernel
theorem dX5_firstBadStep_29 : decode cX5_firstBadStep 29 = .ok (.ireturn, 1) := by decide +kernel
theorem dX5_firstBadStep_30 : decode cX5_firstBadStep 30 = .ok (.iinc 2 1, 3) := by decide +kernel
theorem dX5_firstBadStep_33 : decode cX5_firstBadStep 33 = .ok (.goto (-31), 3) := by decide +kernel
theorem dX5_firstBadStep_36 : decode cX5_firstBadStep 36 = .ok (.bipush (-6), 2) := by decide +kernel
theorem dX5_firstBadStep_38 : decode cX5_firstBadStep 38 = .ok (.ireturn, 1) := by decide +kernel
set_option maxRecDepth 20000 in
theorem ggX5_meshes_X5_firstBadStep : GoodIn wsX5_meshes wsX5_firstBadStep := goodIn_r _ [5, 6, 7, 8, 9, 4, 10, 11, 12, 13, 14, 15, 16, 17, 18, 19, 20, 21, 22, 23] (by decide +kernel) (by decide +kernel)
set_option maxRecDepth 20000 in
theorem gX5_meshes_X5_firstBadStep : GoodIn wsX5_meshes (wsV RX5 53 RX5 yX5_firstBadStep wsX5_firstBadStep) := goodIn_app (goodIn_of _ (by decide +kernel)) ggX5_meshes_X5_firstBadStep
theorem dX5_meshes_0 : decode cX5_meshes 0 = .ok (.aload_n 0, 1) := by decide +kernel
theorem dX5_meshes_1 : decode cX5_meshes 1 = .ok (.iload_n 1, 1) := by decide +kernel
theorem dX5_meshes_2 : decode cX5_meshes 2 = .ok (.invokevirtual 53, 3) := by decide +kernel
theorem dX5_meshes_5 : decode cX5_meshes 5 = .ok (.bipush (-6), 2) := by decide +kernel
theorem dX5_meshes_7 : decode cX5_meshes 7 = .ok (.if_icmp .ne 7, 3) := by decide +kernel
theorem dX5_meshes_10 : decode cX5_meshes 10 = .ok (.iconst 1, 1) := by decide +kernel
theorem dX5_meshes_11 : decode cX5_meshes 11 = .ok (.goto 4, 3) := by decide +kernel
theorem dX5_meshes_14 : decode cX5_meshes 14 = .ok (.iconst 0, 1) := by decide +kernel
theorem dX5_meshes_15 : decode cX5_meshes 15 = .ok (.ireturn, 1) := by decide +kernel
theorem dX5_begin_0 : decode cX5_begin 0 = .ok (.aload_n 0, 1) := by decide +kernel
theorem dX5_begin_1 : decode cX5_begin 1 = .ok (.iconst 0, 1) := by decide +kernel
theorem dX5_begin_2 : decode cX5_begin 2 = .ok (.putfield 56, 3) := by decide +kernel
theorem dX5_begin_5 : decode cX5_begin 5 = .ok (.aload_n 0, 1) := by decide +kernel
theorem dX5_begin_6 : decode cX5_begin 6 = .ok (.iconst 0, 1) := by decide +kernel
theorem dX5_begin_7 : decode cX5_begin 7 = .ok (.putfield 59, 3) := by decide +kernel
theorem dX5_begin_10 : decode cX5_begin 10 = .ok (.return_, 1) := by decide +kernel
theorem dX5_taken_0 : decode cX5_taken 0 = .ok (.aload_n 0, 1) := by decide +kernel
theorem dX5_taken_1 : decode cX5_taken 1 = .ok (.getfield 59, 3) := by decide +kernel
theorem dX5_taken_4 : decode cX5_taken 4 = .ok (.ireturn, 1) := by decide +kernel
set_option maxRecDepth 20000 in
theorem ggX5_tears_X5_press : GoodIn wsX5_tears wsX5_press := goodIn_r _ [15, 16, 20, 21, 22, 23] (by decide +kernel) (by decide +kernel)
set_option maxRecDepth 20000 in
theorem gX5_tears_X5_press : GoodIn wsX5_tears (wsV RX5 40 RX5 yX5_press wsX5_press) := goodIn_app (goodIn_of _ (by decide +kernel)) ggX5_tears_X5_press
set_option maxRecDepth 20000 in
theorem ggX5_tears_X5_next : GoodIn wsX5_tears wsX5_next := goodIn_r _ [19] (by decide +kernel) (by decide +kernel)
set_option maxRecDepth 20000 in
theorem gX5_tears_X5_next : GoodIn wsX5_tears (va_wsS RX5 37 yX5_next wsX5_next) := goodIn_app (goodIn_of _ (by decide +kernel)) ggX5_tears_X5_next
theorem dX5_tears_0 : decode cX5_tears 0 = .ok (.iconst 0, 1) := by decide +kernel
theorem dX5_tears_1 : decode cX5_tears 1 = .ok (.istore 5, 2) := by decide +kernel
theorem dX5_tears_3 : decode cX5_tears 3 = .ok (.iconst 0, 1) := by decide +kernel
theorem dX5_tears_4 : decode cX5_tears 4 = .ok (.istore 6, 2) := by decide +kernel
theorem dX5_tears_6 : decode cX5_tears 6 = .ok (.iload 6, 2) := by decide +kernel
theorem dX5_tears_8 : decode cX5_tears 8 = .ok (.iload_n 1, 1) := by decide +kernel
theorem dX5_tears_9 : decode cX5_tears 9 = .ok (.if_icmp .ge 92, 3) := by decide +kernel
theorem dX5_tears_12 : decode cX5_tears 12 = .ok (.iconst 0, 1) := by decide +kernel
theorem dX5_tears_13 : decode cX5_tears 13 = .ok (.iload_n 2, 1) := by decide +kernel
theorem dX5_tears_14 : decode cX5_tears 14 = .ok (.aload_n 0, 1) := by decide +kernel
theorem dX5_tears_15 : decode cX5_tears 15 = .ok (.aload_n 0, 1) := by decide +kernel
theorem dX5_tears_16 : decode cX5_tears 16 = .ok (.getfield 56, 3) := by decide +kernel
theorem dX5_tears_19 : decode cX5_tears 19 = .ok (.invokevirtual 40, 3) := by decide +kernel
theorem dX5_tears_22 : decode cX5_tears 22 = .ok (.isub, 1) := by decide +kernel
theorem dX5_tears_23 : decode cX5_tears 23 = .ok (.invokestatic 43, 3) := by decide +kernel
theorem dX5_tears_26 : decode cX5_tears 26 = .ok (.istore 7, 2) := by decide +kernel
theorem dX5_tears_28 : decode cX5_tears 28 = .ok (.aload_n 0, 1) := by decide +kernel
theorem dX5_tears_29 : decode cX5_tears 29 = .ok (.aload_n 0, 1) := by decide +kernel
theorem dX5_tears_30 : decode cX5_tears 30 = .ok (.getfield 56, 3) := by decide +kernel
theorem dX5_tears_33 : decode cX5_tears 33 = .ok (.aload_n 0, 1) := by decide +kernel
theorem dX5_tears_34 : decode cX5_tears 34 = .ok (.getfield 30, 3) := by decide +kernel
theorem dX5_tears_37 : decode cX5_tears 37 = .ok (.invokestatic 37, 3) := by decide +kernel
theorem dX5_tears_40 : decode cX5_tears 40 = .ok (.putfield 56, 3) := by decide +kernel
theorem dX5_tears_43 : decode cX5_tears 43 = .ok (.aload_n 0, 1) := by decide +kernel
theorem dX5_tears_44 : decode cX5_tears 44 = .ok (.dup, 1) := by decide +kernel
theorem dX5_tears_45 : decode cX5_tears 45 = .ok (.getfield 59, 3) := by decide +kernel
theorem dX5_tears_48 : decode cX5_tears 48 = .ok (.iconst 1, 1) := by decide +kernel
theorem dX5_tears_49 : decode cX5_tears 49 = .ok (.iadd, 1) := by decide +kernel
theorem dX5_tears_50 : decode cX5_tears 50 = .ok (.putfield 59, 3) := by decide +kernel
theorem dX5_tears_53 : decode cX5_tears 53 = .ok (.iload 6, 2) := by decide +kernel
theorem dX5_tears_55 : decode cX5_tears 55 = .ok (.ifCond .le 20, 3) := by decide +kernel
theorem dX5_tears_58 : decode cX5_tears 58 = .ok (.iload 7, 2) := by decide +kernel
theorem dX5_tears_60 : decode cX5_tears 60 = .ok (.iload 5, 2) := by decide +kernel
theorem dX5_tears_62 : decode cX5_tears 62 = .ok (.isub, 1) := by decide +kernel
theorem dX5_tears_63 : decode cX5_tears 63 = .ok (.invokestatic 46, 3) := by decide +kernel
theorem dX5_tears_66 : decode cX5_tears 66 = .ok (.iload 4, 2) := by decide +kernel
theorem dX5_tears_68 : decode cX5_tears 68 = .ok (.if_icmp .le 7, 3) := by decide +kernel
theorem dX5_tears_71 : decode cX5_tears 71 = .ok (.iconst 1, 1) := by decide +kernel
theorem dX5_tears_72 : decode cX5_tears 72 = .ok (.goto 4, 3) := by decide +kernel
theorem dX5_tears_75 : decode cX5_tears 75 = .ok (.iconst 0, 1) := by decide +kernel
theorem dX5_tears_76 : decode cX5_tears 76 = .ok (.istore 8, 2) := by decide +kernel
theorem dX5_tears_78 : decode cX5_tears 78 = .ok (.iload 7, 2) := by decide +kernel
theorem dX5_tears_80 : decode cX5_tears 80 = .ok (.iload_n 3, 1) := by decide +kernel
theorem dX5_tears_81 : decode cX5_tears 81 = .ok (.if_icmp .gt 8, 3) := by decide +kernel
theorem dX5_tears_84 : decode cX5_tears 84 = .ok (.iload 8, 2) := by decide +kernel
theorem dX5_tears_86 : decode cX5_tears 86 = .ok (.ifCond .eq 5, 3) := by decide +kernel
theorem dX5_tears_89 : decode cX5_tears 89 = .ok (.iconst 1, 1) := by decide +kernel
theorem dX5_tears_90 : decode cX5_tears 90 = .ok (.ireturn, 1) := by decide +kernel
theorem dX5_tears_91 : decode cX5_tears 91 = .ok (.iload 7, 2) := by decide +kernel
theorem dX5_tears_93 : decode cX5_tears 93 = .ok (.istore 5, 2) := by decide +kernel
theorem dX5_tears_95 : decode cX5_tears 95 = .ok (.iinc 6 1, 3) := by decide +kernel
theorem dX5_tears_98 : decode cX5_tears 98 = .ok (.goto (-92), 3) := by decide +kernel
theorem dX5_tears_101 : decode cX5_tears 101 = .ok (.iconst 0, 1) := by decide +kernel
theorem dX5_tears_102 : decode cX5_tears 102 = .ok (.ireturn, 1) := by decide +kernel
set_option maxRecDepth 20000 in
theorem ggX6_init_X3_init : GoodIn wsX6_init wsX3_init := goodIn_r _ [30, 31, 2, 3, 32, 33, 56] (by decide +kernel) (by decide +kernel)
set_option maxRecDepth 20000 in
theorem gX6_init_X3_init : GoodIn wsX6_init (wsX3_init) := ggX6_init_X3_init
set_option maxRecDepth 20000 in
theorem ggX6_init_X0_init : GoodIn wsX6_init wsX0_init := goodIn_r _ [35, 36, 2, 3, 32, 37, 63, 64, 65] (by decide +kernel) (by decide +kernel)
set_option maxRecDepth 20000 in
theorem gX6_init_X0_init_n18 : GoodIn wsX6_init (wsX0_init) := ggX6_init_X0_init
set_option maxRecDepth 20000 in
theorem ggX6_init_X4_init : GoodIn wsX6_init wsX4_init := goodIn_r _ [39, 40, 2, 3, 32, 41, 66, 67] (by decide +kernel) (by decide +kernel)
set_option maxRecDepth 20000 in
theorem gX6_init_X4_init_n25 : GoodIn wsX6_init (wsX4_init) := ggX6_init_X4_init
set_option maxRecDepth 20000 in
theorem ggX6_init_X1_init : GoodIn wsX6_init wsX1_init := goodIn_r _ [43, 44, 2, 3, 32, 45, 68, 69] (by decide +kernel) (by decide +kernel)
set_option maxRecDepth 20000 in
theorem gX6_init_X1_init_n32 : GoodIn wsX6_init (wsX1_init) := ggX6_init_X1_init
set_option maxRecDepth 20000 in
theorem ggX6_init_X2_init : GoodIn wsX6_init wsX2_init := goodIn_r _ [48, 49, 2, 3, 32, 50, 51, 70, 71, 72, 73, 74] (by decide +kernel) (by decide +kernel)
set_option maxRecDepth 20000 in
theorem gX6_init_X2_init : GoodIn wsX6_init (wsX2_init) := ggX6_init_X2_init
set_option maxRecDepth 20000 in
theorem ggX6_init_X5_init : GoodIn wsX6_init wsX5_init := goodIn_r _ [53, 54, 2, 3, 32, 55, 75, 76, 77, 78] (by decide +kernel) (by decide +kernel)
set_option maxRecDepth 20000 in
theorem gX6_init_X5_init_n48 : GoodIn wsX6_init (wsX5_init) := ggX6_init_X5_init
theorem dX6_init_0 : decode cX6_init 0 = .ok (.aload_n 0, 1) := by decide +kernel
theorem dX6_init_1 : decode cX6_init 1 = .ok (.invokespecial 1, 3) := by decide +kernel
theorem dX6_init_4 : decode cX6_init 4 = .ok (.aload_n 0, 1) := by decide +kernel
theorem dX6_init_5 : decode cX6_init 5 = .ok (.new 7, 3) := by decide +kernel
theorem dX6_init_8 : decode cX6_init 8 = .ok (.dup, 1) := by decide +kernel
theorem dX6_init_9 : decode cX6_init 9 = .ok (.invokespecial 9, 3) := by decide +kernel
theorem dX6_init_12 : decode cX6_init 12 = .ok (.putfield 10, 3) := by decide +kernel
theorem dX6_init_15 : decode cX6_init 15 = .ok (.aload_n 0, 1) := by decide +kernel
theorem dX6_init_16 : decode cX6_init 16 = .ok (.new 16, 3) := by decide +kernel
theorem dX6_init_19 : decode cX6_init 19 = .ok (.dup, 1) := by decide +kernel
theorem dX6_init_20 : decode cX6_init 20 = .ok (.invokespecial 18, 3) := by decide +kernel
theorem dX6_init_23 : decode cX6_init 23 = .ok (.putfield 19, 3) := by decide +kernel
theorem dX6_init_26 : decode cX6_init 26 = .ok (.aload_n 0, 1) := by decide +kernel
theorem dX6_init_27 : decode cX6_init 27 = .ok (.new 23, 3) := by decide +kernel
theorem dX6_init_30 : decode cX6_init 30 = .ok (.dup, 1) := by decide +kernel
theorem dX6_init_31 : decode cX6_init 31 = .ok (.invokespecial 25, 3) := by decide +kernel
theorem dX6_init_34 : decode cX6_init 34 = .ok (.putfield 26, 3) := by decide +kernel
theorem dX6_init_37 : decode cX6_init 37 = .ok (.aload_n 0, 1) := by decide +kernel
theorem dX6_init_38 : decode cX6_init 38 = .ok (.new 30, 3) := by decide +kernel
theorem dX6_init_41 : decode cX6_init 41 = .ok (.dup, 1) := by decide +kernel
theorem dX6_init_42 : decode cX6_init 42 = .ok (.invokespecial 32, 3) := by decide +kernel
theorem dX6_init_45 : decode cX6_init 45 = .ok (.putfield 33, 3) := by decide +kernel
theorem dX6_init_48 : decode cX6_init 48 = .ok (.aload_n 0, 1) := by decide +kernel
theorem dX6_init_49 : decode cX6_init 49 = .ok (.new 37, 3) := by decide +kernel
theorem dX6_init_52 : decode cX6_init 52 = .ok (.dup, 1) := by decide +kernel
theorem dX6_init_53 : decode cX6_init 53 = .ok (.aload_n 0, 1) := by decide +kernel
theorem dX6_init_54 : decode cX6_init 54 = .ok (.getfield 33, 3) := by decide +kernel
theorem dX6_init_57 : decode cX6_init 57 = .ok (.invokespecial 39, 3) := by decide +kernel
theorem dX6_init_60 : decode cX6_init 60 = .ok (.putfield 42, 3) := by decide +kernel
theorem dX6_init_63 : decode cX6_init 63 = .ok (.aload_n 0, 1) := by decide +kernel
theorem dX6_init_64 : decode cX6_init 64 = .ok (.new 46, 3) := by decide +kernel
theorem dX6_init_67 : decode cX6_init 67 = .ok (.dup, 1) := by decide +kernel
theorem dX6_init_68 : decode cX6_init 68 = .ok (.invokespecial 48, 3) := by decide +kernel
theorem dX6_init_71 : decode cX6_init 71 = .ok (.putfield 49, 3) := by decide +kernel
theorem dX6_init_74 : decode cX6_init 74 = .ok (.return_, 1) := by decide +kernel
set_option maxRecDepth 20000 in
theorem ggX6_set_X0_prepare : GoodIn wsX6_set wsX0_prepare := goodIn_r _ [7, 8, 9, 10, 11, 12, 13, 14, 15, 16, 17, 18, 19, 54, 55, 56, 57] (by decide +kernel) (by decide +kernel)
set_option maxRecDepth 20000 in
theorem gX6_set_X0_prepare : GoodIn wsX6_set (wsV RX6 53 RX0 yX0_prepare wsX0_prepare) := goodIn_app (goodIn_of _ (by decide +kernel)) ggX6_set_X0_prepare
set_option maxRecDepth 20000 in
theorem ggX6_set_X3_changeSetting : GoodIn wsX6_set wsX3_changeSetting := goodIn_r _ [23, 24, 25, 26, 27, 28, 29, 13, 30, 31, 32, 33, 34, 15, 35, 36, 37, 38, 57] (by decide +kernel) (by decide +kernel)
set_option maxRecDepth 20000 in
theorem gX6_set_X3_changeSetting : GoodIn wsX6_set (wsV RX6 57 RX3 yX3_changeSetting wsX3_changeSetting) := goodIn_app (goodIn_of _ (by decide +kernel)) ggX6_set_X3_changeSetting
set_option maxRecDepth 20000 in
theorem ggX6_set_X0_recorded : GoodIn wsX6_set wsX0_recorded := goodIn_r _ [42, 9, 43, 44, 45, 46, 47, 54, 55, 56] (by decide +kernel) (by decide +kernel)
set_option maxRecDepth 20000 in
theorem gX6_set_X0_recorded : GoodIn wsX6_set (wsV RX6 61 RX0 yX0_recorded wsX0_recorded) := goodIn_app (goodIn_of _ (by decide +kernel)) ggX6_set_X0_recorded
theorem dX6_set_0 : decode cX6_set 0 = .ok (.aload_n 0, 1) := by decide +kernel
theorem dX6_set_1 : decode cX6_set 1 = .ok (.getfield 19, 3) := by decide +kernel
theorem dX6_set_4 : decode cX6_set 4 = .ok (.aload_n 0, 1) := by decide +kernel
theorem dX6_set_5 : decode cX6_set 5 = .ok (.getfield 10, 3) := by decide +kernel
theorem dX6_set_8 : decode cX6_set 8 = .ok (.invokevirtual 53, 3) := by decide +kernel
theorem dX6_set_11 : decode cX6_set 11 = .ok (.aload_n 0, 1) := by decide +kernel
theorem dX6_set_12 : decode cX6_set 12 = .ok (.getfield 19, 3) := by decide +kernel
theorem dX6_set_15 : decode cX6_set 15 = .ok (.aload_n 0, 1) := by decide +kernel
theorem dX6_set_16 : decode cX6_set 16 = .ok (.getfield 10, 3) := by decide +kernel
theorem dX6_set_19 : decode cX6_set 19 = .ok (.iload_n 1, 1) := by decide +kernel
theorem dX6_set_20 : decode cX6_set 20 = .ok (.iload_n 2, 1) := by decide +kernel
theorem dX6_set_21 : decode cX6_set 21 = .ok (.invokevirtual 57, 3) := by decide +kernel
theorem dX6_set_24 : decode cX6_set 24 = .ok (.invokevirtual 61, 3) := by decide +kernel
theorem dX6_set_27 : decode cX6_set 27 = .ok (.ireturn, 1) := by decide +kernel
set_option maxRecDepth 20000 in
theorem ggX6_roller_X0_prepare : GoodIn wsX6_roller wsX0_prepare := goodIn_r _ [7, 8, 9, 10, 11, 12, 13, 14, 15, 16, 17, 18, 19, 61, 62, 63, 64] (by decide +kernel) (by decide +kernel)
set_option maxRecDepth 20000 in
theorem gX6_roller_X0_prepare : GoodIn wsX6_roller (wsV RX6 53 RX0 yX0_prepare wsX0_prepare) := goodIn_app (goodIn_of _ (by decide +kernel)) ggX6_roller_X0_prepare
set_option maxRecDepth 20000 in
theorem ggX6_roller_X3_addRoller : GoodIn wsX6_roller wsX3_addRoller := goodIn_r _ [23, 24, 25, 26, 27, 28, 29, 13, 30, 15, 31, 32, 33, 34, 35, 36, 37, 38, 39, 40, 41, 42, 43, 44, 45, 64] (by decide +kernel) (by decide +kernel)
set_option maxRecDepth 20000 in
theorem gX6_roller_X3_addRoller : GoodIn wsX6_roller (wsV RX6 65 RX3 yX3_addRoller wsX3_addRoller) := goodIn_app (goodIn_of _ (by decide +kernel)) ggX6_roller_X3_addRoller
set_option maxRecDepth 20000 in
theorem ggX6_roller_X0_recorded : GoodIn wsX6_roller wsX0_recorded := goodIn_r _ [49, 9, 50, 51, 52, 53, 54, 61, 62, 63] (by decide +kernel) (by decide +kernel)
set_option maxRecDepth 20000 in
theorem gX6_roller_X0_recorded : GoodIn wsX6_roller (wsV RX6 61 RX0 yX0_recorded wsX0_recorded) := goodIn_app (goodIn_of _ (by decide +kernel)) ggX6_roller_X0_recorded
theorem dX6_roller_0 : decode cX6_roller 0 = .ok (.aload_n 0, 1) := by decide +kernel
theorem dX6_roller_1 : decode cX6_roller 1 = .ok (.getfield 19, 3) := by decide +kernel
theorem dX6_roller_4 : decode cX6_roller 4 = .ok (.aload_n 0, 1) := by decide +kernel
theorem dX6_roller_5 : decode cX6_roller 5 = .ok (.getfield 10, 3) := by decide +kernel
theorem dX6_roller_8 : decode cX6_roller 8 = .ok (.invokevirtual 53, 3) := by decide +kernel
theorem dX6_roller_11 : decode cX6_roller 11 = .ok (.aload_n 0, 1) := by decide +kernel
theorem dX6_roller_12 : decode cX6_roller 12 = .ok (.getfield 19, 3) := by decide +kernel
theorem dX6_roller_15 : decode cX6_roller 15 = .ok (.aload_n 0, 1) := by decide +kernel
theorem dX6_roller_16 : decode cX6_roller 16 = .ok (.getfield 10, 3) := by decide +kernel
theorem dX6_roller_19 : decode cX6_roller 19 = .ok (.iload_n 1, 1) := by decide +kernel
theorem dX6_roller_20 : decode cX6_roller 20 = .ok (.iload_n 2, 1) := by decide +kernel
theorem dX6_roller_21 : decode cX6_roller 21 = .ok (.invokevirtual 65, 3) := by decide +kernel
theorem dX6_roller_24 : decode cX6_roller 24 = .ok (.invokevirtual 61, 3) := by decide +kernel
theorem dX6_roller_27 : decode cX6_roller 27 = .ok (.ireturn, 1) := by decide +kernel
set_option maxRecDepth 20000 in
theorem ggX6_file_X0_prepare : GoodIn wsX6_file wsX0_prepare := goodIn_r _ [7, 8, 9, 10, 11, 12, 13, 14, 15, 16, 17, 18, 19, 73, 74, 75, 76] (by decide +kernel) (by decide +kernel)
set_option maxRecDepth 20000 in
theorem gX6_file_X0_prepare : GoodIn wsX6_file (wsV RX6 53 RX0 yX0_prepare wsX0_prepare) := goodIn_app (goodIn_of _ (by decide +kernel)) ggX6_file_X0_prepare
set_option maxRecDepth 20000 in
theorem ggX6_file_X3_fileTooth : GoodIn wsX6_file wsX3_fileTooth := goodIn_r _ [23, 24, 25, 26, 13, 27, 28, 29, 30, 31, 32, 33, 34, 35, 15, 36, 37, 38, 39, 40, 41, 42, 43, 44, 45, 46, 47, 48, 49, 50, 51, 52, 53, 54, 55, 56, 57, 76] (by decide +kernel) (by decide +kernel)
set_option maxRecDepth 20000 in
theorem gX6_file_X3_fileTooth : GoodIn wsX6_file (wsV RX6 68 RX3 yX3_fileTooth wsX3_fileTooth) := goodIn_app (goodIn_of _ (by decide +kernel)) ggX6_file_X3_fileTooth
set_option maxRecDepth 20000 in
theorem ggX6_file_X0_recorded : GoodIn wsX6_file wsX0_recorded := goodIn_r _ [61, 9, 62, 63, 64, 65, 66, 73, 74, 75] (by decide +kernel) (by decide +kernel)
set_option maxRecDepth 20000 in
theorem gX6_file_X0_recorded : GoodIn wsX6_file (wsV RX6 61 RX0 yX0_recorded wsX0_recorded) := goodIn_app (goodIn_of _ (by decide +kernel)) ggX6_file_X0_recorded
theorem dX6_file_0 : decode cX6_file 0 = .ok (.aload_n 0, 1) := by decide +kernel
theorem dX6_file_1 : decode cX6_file 1 = .ok (.getfield 19, 3) := by decide +kernel
theorem dX6_file_4 : decode cX6_file 4 = .ok (.aload_n 0, 1) := by decide +kernel
theorem dX6_file_5 : decode cX6_file 5 = .ok (.getfield 10, 3) := by decide +kernel
theorem dX6_file_8 : decode cX6_file 8 = .ok (.invokevirtual 53, 3) := by decide +kernel
theorem dX6_file_11 : decode cX6_file 11 = .ok (.aload_n 0, 1) := by decide +kernel
theorem dX6_file_12 : decode cX6_file 12 = .ok (.getfield 19, 3) := by decide +kernel
theorem dX6_file_15 : decode cX6_file 15 = .ok (.aload_n 0, 1) := by decide +kernel
theorem dX6_file_16 : decode cX6_file 16 = .ok (.getfield 10, 3) := by decide +kernel
theorem dX6_file_19 : decode cX6_file 19 = .ok (.iload_n 1, 1) := by decide +kernel
theorem dX6_file_20 : decode cX6_file 20 = .ok (.iload_n 2, 1) := by decide +kernel
theorem dX6_file_21 : decode cX6_file 21 = .ok (.iload_n 3, 1) := by decide +kernel
theorem dX6_file_22 : decode cX6_file 22 = .ok (.invokevirtual 68, 3) := by decide +kernel
theorem dX6_file_25 : decode cX6_file 25 = .ok (.invokevirtual 61, 3) := by decide +kernel
theorem dX6_file_28 : decode cX6_file 28 = .ok (.ireturn, 1) := by decide +kernel
set_option maxRecDepth 20000 in
theorem ggX6_melt_X0_prepare : GoodIn wsX6_melt wsX0_prepare := goodIn_r _ [7, 8, 9, 10, 11, 12, 13, 14, 15, 16, 17, 18, 19, 54, 55, 56, 57] (by decide +kernel) (by decide +kernel)
set_option maxRecDepth 20000 in
theorem gX6_melt_X0_prepare : GoodIn wsX6_melt (wsV RX6 53 RX0 yX0_prepare wsX0_prepare) := goodIn_app (goodIn_of _ (by decide +kernel)) ggX6_melt_X0_prepare
set_option maxRecDepth 20000 in
theorem ggX6_melt_X3_meltRoller : GoodIn wsX6_melt wsX3_meltRoller := goodIn_r _ [23, 24, 25, 26, 13, 27, 28, 29, 30, 31, 15, 32, 33, 34, 35, 36, 37, 38, 57] (by decide +kernel) (by decide +kernel)
set_option maxRecDepth 20000 in
theorem gX6_melt_X3_meltRoller : GoodIn wsX6_melt (wsV RX6 72 RX3 yX3_meltRoller wsX3_meltRoller) := goodIn_app (goodIn_of _ (by decide +kernel)) ggX6_melt_X3_meltRoller
set_option maxRecDepth 20000 in
theorem ggX6_melt_X0_recorded : GoodIn wsX6_melt wsX0_recorded := goodIn_r _ [42, 9, 43, 44, 45, 46, 47, 54, 55, 56] (by decide +kernel) (by decide +kernel)
set_option maxRecDepth 20000 in
theorem gX6_melt_X0_recorded : GoodIn wsX6_melt (wsV RX6 61 RX0 yX0_recorded wsX0_recorded) := goodIn_app (goodIn_of _ (by decide +kernel)) ggX6_melt_X0_recorded
theorem dX6_melt_0 : decode cX6_melt 0 = .ok (.aload_n 0, 1) := by decide +kernel
theorem dX6_melt_1 : decode cX6_melt 1 = .ok (.getfield 19, 3) := by decide +kernel
theorem dX6_melt_4 : decode cX6_melt 4 = .ok (.aload_n 0, 1) := by decide +kernel
theorem dX6_melt_5 : decode cX6_melt 5 = .ok (.getfield 10, 3) := by decide +kernel
theorem dX6_melt_8 : decode cX6_melt 8 = .ok (.invokevirtual 53, 3) := by decide +kernel
theorem dX6_melt_11 : decode cX6_melt 11 = .ok (.aload_n 0, 1) := by decide +kernel
theorem dX6_melt_12 : decode cX6_melt 12 = .ok (.getfield 19, 3) := by decide +kernel
theorem dX6_melt_15 : decode cX6_melt 15 = .ok (.aload_n 0, 1) := by decide +kernel
theorem dX6_melt_16 : decode cX6_melt 16 = .ok (.getfield 10, 3) := by decide +kernel
theorem dX6_melt_19 : decode cX6_melt 19 = .ok (.iload_n 1, 1) := by decide +kernel
theorem dX6_melt_20 : decode cX6_melt 20 = .ok (.invokevirtual 72, 3) := by decide +kernel
theorem dX6_melt_23 : decode cX6_melt 23 = .ok (.invokevirtual 61, 3) := by decide +kernel
theorem dX6_melt_26 : decode cX6_melt 26 = .ok (.ireturn, 1) := by decide +kernel
set_option maxRecDepth 20000 in
theorem ggX6_card_X0_prepare : GoodIn wsX6_card wsX0_prepare := goodIn_r _ [7, 8, 9, 10, 11, 12, 13, 14, 15, 16, 17, 18, 19, 50, 51, 52, 53] (by decide +kernel) (by decide +kernel)
set_option maxRecDepth 20000 in
theorem gX6_card_X0_prepare : GoodIn wsX6_card (wsV RX6 53 RX0 yX0_prepare wsX0_prepare) := goodIn_app (goodIn_of _ (by decide +kernel)) ggX6_card_X0_prepare
set_option maxRecDepth 20000 in
theorem ggX6_card_X3_changeCard : GoodIn wsX6_card wsX3_changeCard := goodIn_r _ [23, 24, 25, 26, 27, 28, 29, 13, 30, 15, 31, 32, 33, 34, 53] (by decide +kernel) (by decide +kernel)
set_option maxRecDepth 20000 in
theorem gX6_card_X3_changeCard : GoodIn wsX6_card (wsV RX6 75 RX3 yX3_changeCard wsX3_changeCard) := goodIn_app (goodIn_of _ (by decide +kernel)) ggX6_card_X3_changeCard
set_option maxRecDepth 20000 in
theorem ggX6_card_X0_recorded : GoodIn wsX6_card wsX0_recorded := goodIn_r _ [38, 9, 39, 40, 41, 42, 43, 50, 51, 52] (by decide +kernel) (by decide +kernel)
set_option maxRecDepth 20000 in
theorem gX6_card_X0_recorded : GoodIn wsX6_card (wsV RX6 61 RX0 yX0_recorded wsX0_recorded) := goodIn_app (goodIn_of _ (by decide +kernel)) ggX6_card_X0_recorded
theorem dX6_card_0 : decode cX6_card 0 = .ok (.aload_n 0, 1) := by decide +kernel
theorem dX6_card_1 : decode cX6_card 1 = .ok (.getfield 19, 3) := by decide +kernel
theorem dX6_card_4 : decode cX6_card 4 = .ok (.aload_n 0, 1) := by decide +kernel
theorem dX6_card_5 : decode cX6_card 5 = .ok (.getfield 10, 3) := by decide +kernel
theorem dX6_card_8 : decode cX6_card 8 = .ok (.invokevirtual 53, 3) := by decide +kernel
theorem dX6_card_11 : decode cX6_card 11 = .ok (.aload_n 0, 1) := by decide +kernel
theorem dX6_card_12 : decode cX6_card 12 = .ok (.getfield 19, 3) := by decide +kernel
theorem dX6_card_15 : decode cX6_card 15 = .ok (.aload_n 0, 1) := by decide +kernel
theorem dX6_card_16 : decode cX6_card 16 = .ok (.getfield 10, 3) := by decide +kernel
theorem dX6_card_19 : decode cX6_card 19 = .ok (.iload_n 1, 1) := by decide +kernel
theorem dX6_card_20 : decode cX6_card 20 = .ok (.iload_n 2, 1) := by decide +kernel
theorem dX6_card_21 : decode cX6_card 21 = .ok (.invokevirtual 75, 3) := by decide +kernel
theorem dX6_card_24 : decode cX6_card 24 = .ok (.invokevirtual 61, 3) := by decide +kernel
theorem dX6_card_27 : decode cX6_card 27 = .ok (.ireturn, 1) := by decide +kernel
set_option maxRecDepth 20000 in
theorem ggX6_run_X0_prepare : GoodIn wsX6_run wsX0_prepare := goodIn_r _ [7, 8, 9, 10, 11, 12, 13, 14, 15, 16, 17, 18, 19, 153, 154, 155, 156] (by decide +kernel) (by decide +kernel)
set_option maxRecDepth 20000 in
theorem gX6_run_X0_prepare : GoodIn wsX6_run (wsV RX6 53 RX0 yX0_prepare wsX0_prepare) := goodIn_app (goodIn_of _ (by decide +kernel)) ggX6_run_X0_prepare
set_option maxRecDepth 20000 in
theorem ggX6_run_X6_runCards : GoodIn wsX6_run wsX6_runCards := goodIn_r _ [24, 25, 2, 26, 27, 28, 23, 29, 30, 31, 32, 13, 33, 34, 35, 36, 37, 15, 38, 39, 40, 41, 42, 43, 44, 45, 46, 47, 48, 49, 50, 51, 52, 53, 54, 55, 56, 57, 58, 59, 60, 61, 62, 63, 64, 65, 66, 67, 68, 69, 70, 71, 72, 73, 74, 75, 76, 77, 78, 79, 80, 81, 82, 83, 84, 85, 86, 87, 88, 89, 90, 91, 92, 93, 94, 95, 96, 97, 98, 99, 100, 101, 102, 103, 104, 105, 106, 107, 108, 109, 110, 111, 112, 113, 114, 115, 116, 117, 118, 119, 120, 121, 122, 123, 124, 125, 126, 127, 128, 129, 130, 131, 132, 133, 134, 135, 136, 137, 138, 139, 140, 147, 148, 149, 150, 151, 152, 156, 157, 158, 159, 160] (by decide +kernel) (by decide +kernel)
set_option maxRecDepth 20000 in
theorem gX6_run_X6_runCards : GoodIn wsX6_run (wsV RX6 78 RX6 yX6_runCards wsX6_runCards) := goodIn_app (goodIn_of _ (by decide +kernel)) ggX6_run_X6_runCards
set_option maxRecDepth 20000 in
theorem ggX6_run_X0_recorded : GoodIn wsX6_run wsX0_recorded := goodIn_r _ [144, 9, 145, 146, 47, 48, 49, 153, 154, 155] (by decide +kernel) (by decide +kernel)
set_option maxRecDepth 20000 in
theorem gX6_run_X0_recorded : GoodIn wsX6_run (wsV RX6 61 RX0 yX0_recorded wsX0_recorded) := goodIn_app (goodIn_of _ (by decide +kernel)) ggX6_run_X0_recorded
theorem dX6_run_0 : decode cX6_run 0 = .ok (.aload_n 0, 1) := by decide +kernel
theorem dX6_run_1 : decode cX6_run 1 = .ok (.getfield 19, 3) := by decide +kernel
theorem dX6_run_4 : decode cX6_run 4 = .ok (.aload_n 0, 1) := by decide +kernel
theorem dX6_run_5 : decode cX6_run 5 = .ok (.getfield 10, 3) := by decide +kernel
theorem dX6_run_8 : decode cX6_run 8 = .ok (.invokevirtual 53, 3) := by decide +kernel
theorem dX6_run_11 : decode cX6_run 11 = .ok (.aload_n 0, 1) := by decide +kernel
theorem dX6_run_12 : decode cX6_run 12 = .ok (.getfield 19, 3) := by decide +kernel
theorem dX6_run_15 : decode cX6_run 15 = .ok (.aload_n 0, 1) := by decide +kernel
theorem dX6_run_16 : decode cX6_run 16 = .ok (.iload_n 1, 1) := by decide +kernel
theorem dX6_run_17 : decode cX6_run 17 = .ok (.iload_n 2, 1) := by decide +kernel
theorem dX6_run_18 : decode cX6_run 18 = .ok (.iload_n 3, 1) := by decide +kernel
theorem dX6_run_19 : decode cX6_run 19 = .ok (.iload 4, 2) := by decide +kernel
theorem dX6_run_21 : decode cX6_run 21 = .ok (.iload 5, 2) := by decide +kernel
theorem dX6_run_23 : decode cX6_run 23 = .ok (.iload 6, 2) := by decide +kernel
theorem dX6_run_25 : decode cX6_run 25 = .ok (.invokevirtual 78, 3) := by decide +kernel
theorem dX6_run_28 : decode cX6_run 28 = .ok (.invokevirtual 61, 3) := by decide +kernel
theorem dX6_run_31 : decode cX6_run 31 = .ok (.ireturn, 1) := by decide +kernel
set_option maxRecDepth 20000 in
theorem ggX6_runCards_X6_pairError : GoodIn wsX6_runCards wsX6_pairError := goodIn_r _ [7, 2, 8, 9, 10, 11, 12, 13, 14, 15, 16, 17, 18, 19, 6, 20, 121, 122, 123, 124, 125, 126, 127] (by decide +kernel) (by decide +kernel)
set_option maxRecDepth 20000 in
theorem gX6_runCards_X6_pairError : GoodIn wsX6_runCards (wsV RX6 82 RX6 yX6_pairError wsX6_pairError) := goodIn_app (goodIn_of _ (by decide +kernel)) ggX6_runCards_X6_pairError
set_option maxRecDepth 20000 in
theorem ggX6_runCards_X6_outside : GoodIn wsX6_runCards wsX6_outside := goodIn_r _ [20] (by decide +kernel) (by decide +kernel)
set_option maxRecDepth 20000 in
theorem gX6_runCards_X6_outside : GoodIn wsX6_runCards (va_wsS RX6 86 yX6_outside wsX6_outside) := goodIn_app (goodIn_of _ (by decide +kernel)) ggX6_runCards_X6_outside
set_option maxRecDepth 20000 in
theorem ggX6_runCards_X5_lay : GoodIn wsX6_runCards wsX5_lay := goodIn_r _ [25, 26, 27, 28, 29, 30, 31, 32, 33, 34, 11, 35, 36, 37, 38, 13, 14, 15, 16, 17, 39, 40, 24, 41, 42, 43, 44, 45, 46, 47, 48, 128, 129, 130, 131, 127] (by decide +kernel) (by decide +kernel)
set_option maxRecDepth 20000 in
theorem gX6_runCards_X5_lay : GoodIn wsX6_runCards (wsV RX6 90 RX5 yX5_lay wsX5_lay) := goodIn_app (goodIn_of _ (by decide +kernel)) ggX6_runCards_X5_lay
set_option maxRecDepth 20000 in
theorem ggX6_runCards_X3_setting : GoodIn wsX6_runCards wsX3_setting := goodIn_r _ [52, 13, 14, 15, 11, 16, 17, 127] (by decide +kernel) (by decide +kernel)
set_option maxRecDepth 20000 in
theorem gX6_runCards_X3_setting : GoodIn wsX6_runCards (wsV RX6 94 RX3 yX3_setting wsX3_setting) := goodIn_app (goodIn_of _ (by decide +kernel)) ggX6_runCards_X3_setting
set_option maxRecDepth 20000 in
theorem ggX6_runCards_X5_meshes : GoodIn wsX6_runCards wsX5_meshes := goodIn_r _ [56, 57, 58, 59, 24, 60, 30, 61, 62, 63, 64, 31, 65, 66, 67, 68, 69, 70, 28, 71, 128, 129, 130, 131] (by decide +kernel) (by decide +kernel)
set_option maxRecDepth 20000 in
theorem gX6_runCards_X5_meshes : GoodIn wsX6_runCards (wsV RX6 97 RX5 yX5_meshes wsX5_meshes) := goodIn_app (goodIn_of _ (by decide +kernel)) ggX6_runCards_X5_meshes
set_option maxRecDepth 20000 in
theorem ggX6_runCards_X5_begin : GoodIn wsX6_runCards wsX5_begin := goodIn_r _ [75, 76, 77, 128, 129, 130, 131] (by decide +kernel) (by decide +kernel)
set_option maxRecDepth 20000 in
theorem gX6_runCards_X5_begin : GoodIn wsX6_runCards (wsV RX6 101 RX5 yX5_begin wsX5_begin) := goodIn_app (goodIn_of _ (by decide +kernel)) ggX6_runCards_X5_begin
set_option maxRecDepth 20000 in
theorem ggX6_runCards_X3_cell : GoodIn wsX6_runCards wsX3_cell := goodIn_r _ [16, 17, 127] (by decide +kernel) (by decide +kernel)
set_option maxRecDepth 20000 in
theorem gX6_runCards_X3_cell : GoodIn wsX6_runCards (wsV RX6 104 RX3 yX3_cell wsX3_cell) := goodIn_app (goodIn_of _ (by decide +kernel)) ggX6_runCards_X3_cell
set_option maxRecDepth 20000 in
theorem ggX6_runCards_X5_tears : GoodIn wsX6_runCards wsX5_tears := goodIn_r _ [82, 76, 83, 84, 28, 85, 30, 77, 69, 70, 71, 61, 62, 63, 24, 64, 31, 46, 47, 48, 128, 129, 130, 131] (by decide +kernel) (by decide +kernel)
set_option maxRecDepth 20000 in
theorem gX6_runCards_X5_tears : GoodIn wsX6_runCards (wsV RX6 107 RX5 yX5_tears wsX5_tears) := goodIn_app (goodIn_of _ (by decide +kernel)) ggX6_runCards_X5_tears
set_option maxRecDepth 20000 in
theorem ggX6_runCards_X5_taken : GoodIn wsX6_runCards wsX5_taken := goodIn_r _ [89, 77, 128, 129, 130, 131] (by decide +kernel) (by decide +kernel)
set_option maxRecDepth 20000 in
theorem gX6_runCards_X5_taken : GoodIn wsX6_runCards (wsV RX6 111 RX5 yX5_taken wsX5_taken) := goodIn_app (goodIn_of _ (by decide +kernel)) ggX6_runCards_X5_taken
set_option maxRecDepth 20000 in
theorem ggX6_runCards_X3_countRun : GoodIn wsX6_runCards wsX3_countRun := goodIn_r _ [93, 94, 95, 96, 11, 97, 13, 14, 15, 16, 17, 98, 99, 100, 101, 127] (by decide +kernel) (by decide +kernel)
set_option maxRecDepth 20000 in
theorem gX6_runCards_X3_countRun : GoodIn wsX6_runCards (wsV RX6 115 RX3 yX3_countRun wsX3_countRun) := goodIn_app (goodIn_of _ (by decide +kernel)) ggX6_runCards_X3_countRun
set_option maxRecDepth 20000 in
theorem ggX6_runCards_X3_turnRoller : GoodIn wsX6_runCards wsX3_turnRoller := goodIn_r _ [105, 36, 37, 11, 38, 94, 95, 96, 97, 13, 14, 15, 16, 17, 98, 99, 100, 101, 106, 107, 108, 109, 110, 50, 51, 52, 111, 33, 34, 35, 112, 113, 114, 115, 116, 43, 44, 45, 117, 118, 119, 120, 127] (by decide +kernel) (by decide +kernel)
set_option maxRecDepth 20000 in
theorem gX6_runCards_X3_turnRoller : GoodIn wsX6_runCards (wsV RX6 119 RX3 yX3_turnRoller wsX3_turnRoller) := goodIn_app (goodIn_of _ (by decide +kernel)) ggX6_runCards_X3_turnRoller
theorem dX6_runCards_0 : decode cX6_runCards 0 = .ok (.aload_n 0, 1) := by decide +kernel
theorem dX6_runCards_1 : decode cX6_runCards 1 = .ok (.iload_n 1, 1) := by decide +kernel
theorem dX6_runCards_2 : decode cX6_runCards 2 = .ok (.iload_n 2, 1) := by decide +kernel
theorem dX6_runCards_3 : decode cX6_runCards 3 = .ok (.iload_n 3, 1) := by decide +kernel
theorem dX6_runCards_4 : decode cX6_runCards 4 = .ok (.iload 4, 2) := by decide +kernel
theorem dX6_runCards_6 : decode cX6_runCards 6 = .ok (.invokevirtual 82, 3) := by decide +kernel
theorem dX6_runCards_9 : decode cX6_runCards 9 = .ok (.istore 7, 2) := by decide +kernel
theorem dX6_runCards_11 : decode cX6_runCards 11 = .ok (.iload 7, 2) := by decide +kernel
theorem dX6_runCards_13 : decode cX6_runCards 13 = .ok (.ifCond .eq 6, 3) := by decide +kernel
theorem dX6_runCards_16 : decode cX6_runCards 16 = .ok (.iload 7, 2) := by decide +kernel
theorem dX6_runCards_18 : decode cX6_runCards 18 = .ok (.ireturn, 1) := by decide +kernel
theorem dX6_runCards_19 : decode cX6_runCards 19 = .ok (.iload 5, 2) := by decide +kernel
theorem dX6_runCards_21 : decode cX6_runCards 21 = .ok (.iconst 1, 1) := by decide +kernel
theorem dX6_runCards_22 : decode cX6_runCards 22 = .ok (.bipush 99, 2) := by decide +kernel
theorem dX6_runCards_24 : decode cX6_runCards 24 = .ok (.invokestatic 86, 3) := by decide +kernel
theorem dX6_runCards_27 : decode cX6_runCards 27 = .ok (.ifCond .ne 14, 3) := by decide +kernel
theorem dX6_runCards_30 : decode cX6_runCards 30 = .ok (.iload 6, 2) := by decide +kernel
theorem dX6_runCards_32 : decode cX6_runCards 32 = .ok (.iconst 1, 1) := by decide +kernel
theorem dX6_runCards_33 : decode cX6_runCards 33 = .ok (.bipush 99, 2) := by decide +kernel
theorem dX6_runCards_35 : decode cX6_runCards 35 = .ok (.invokestatic 86, 3) := by decide +kernel
theorem dX6_runCards_38 : decode cX6_runCards 38 = .ok (.ifCond .eq 6, 3) := by decide +kernel
theorem dX6_runCards_41 : decode cX6_runCards 41 = .ok (.bipush (-2), 2) := by decide +kernel
theorem dX6_runCards_43 : decode cX6_runCards 43 = .ok (.ireturn, 1) := by decide +kernel
theorem dX6_runCards_44 : decode cX6_runCards 44 = .ok (.aload_n 0, 1) := by decide +kernel
theorem dX6_runCards_45 : decode cX6_runCards 45 = .ok (.getfield 49, 3) := by decide +kernel
theorem dX6_runCards_48 : decode cX6_runCards 48 = .ok (.aload_n 0, 1) := by decide +kernel
theorem dX6_runCards_49 : decode cX6_runCards 49 = .ok (.getfield 10, 3) := by decide +kernel
theorem dX6_runCards_52 : decode cX6_runCards 52 = .ok (.iload_n 1, 1) := by decide +kernel
theorem dX6_runCards_53 : decode cX6_runCards 53 = .ok (.iload_n 2, 1) := by decide +kernel
theorem dX6_runCards_54 : decode cX6_runCards 54 = .ok (.iload_n 3, 1) := by decide +kernel
theorem dX6_runCards_55 : decode cX6_runCards 55 = .ok (.iload 4, 2) := by decide +kernel
theorem dX6_runCards_57 : decode cX6_runCards 57 = .ok (.invokevirtual 90, 3) := by decide +kernel
theorem dX6_runCards_60 : decode cX6_runCards 60 = .ok (.aload_n 0, 1) := by decide +kernel
theorem dX6_runCards_61 : decode cX6_runCards 61 = .ok (.getfield 49, 3) := by decide +kernel
theorem dX6_runCards_64 : decode cX6_runCards 64 = .ok (.aload_n 0, 1) := by decide +kernel
theorem dX6_runCards_65 : decode cX6_runCards 65 = .ok (.getfield 10, 3) := by decide +kernel
theorem dX6_runCards_68 : decode cX6_runCards 68 = .ok (.iconst 0, 1) := by decide +kernel
theorem dX6_runCards_69 : decode cX6_runCards 69 = .ok (.invokevirtual 94, 3) := by decide +kernel
theorem dX6_runCards_72 : decode cX6_runCards 72 = .ok (.invokevirtual 97, 3) := by decide +kernel
theorem dX6_runCards_75 : decode cX6_runCards 75 = .ok (.ifCond .ne 6, 3) := by decide +kernel
theorem dX6_runCards_78 : decode cX6_runCards 78 = .ok (.bipush (-5), 2) := by decide +kernel
theorem dX6_runCards_80 : decode cX6_runCards 80 = .ok (.ireturn, 1) := by decide +kernel
theorem dX6_runCards_81 : decode cX6_runCards 81 = .ok (.aload_n 0, 1) := by decide +kernel
theorem dX6_runCards_82 : decode cX6_runCards 82 = .ok (.getfield 49, 3) := by decide +kernel
theorem dX6_runCards_85 : decode cX6_runCards 85 = .ok (.invokevirtual 101, 3) := by decide +kernel
theorem dX6_runCards_88 : decode cX6_runCards 88 = .ok (.iconst 0, 1) := by decide +kernel
theorem dX6_runCards_89 : decode cX6_runCards 89 = .ok (.istore 8, 2) := by decide +kernel
theorem dX6_runCards_91 : decode cX6_runCards 91 = .ok (.iconst 0, 1) := by decide +kernel
theorem dX6_runCards_92 : decode cX6_runCards 92 = .ok (.istore 9, 2) := by decide +kernel
theorem dX6_runCards_94 : decode cX6_runCards 94 = .ok (.iload 9, 2) := by decide +kernel
theorem dX6_runCards_96 : decode cX6_runCards 96 = .ok (.iload 5, 2) := by decide +kernel
theorem dX6_runCards_98 : decode cX6_runCards 98 = .ok (.if_icmp .ge 48, 3) := by decide +kernel
theorem dX6_runCards_101 : decode cX6_runCards 101 = .ok (.aload_n 0, 1) := by decide +kernel
theorem dX6_runCards_102 : decode cX6_runCards 102 = .ok (.getfield 49, 3) := by decide +kernel
theorem dX6_runCards_105 : decode cX6_runCards 105 = .ok (.iload 6, 2) := by decide +kernel
theorem dX6_runCards_107 : decode cX6_runCards 107 = .ok (.aload_n 0, 1) := by decide +kernel
theorem dX6_runCards_108 : decode cX6_runCards 108 = .ok (.getfield 10, 3) := by decide +kernel
theorem dX6_runCards_111 : decode cX6_runCards 111 = .ok (.iconst 1, 1) := by decide +kernel
theorem dX6_runCards_112 : decode cX6_runCards 112 = .ok (.invokevirtual 104, 3) := by decide +kernel
theorem dX6_runCards_115 : decode cX6_runCards 115 = .ok (.aload_n 0, 1) := by decide +kernel
theorem dX6_runCards_116 : decode cX6_runCards 116 = .ok (.getfield 10, 3) := by decide +kernel
theorem dX6_runCards_119 : decode cX6_runCards 119 = .ok (.iconst 2, 1) := by decide +kernel
theorem dX6_runCards_120 : decode cX6_runCards 120 = .ok (.invokevirtual 104, 3) := by decide +kernel
theorem dX6_runCards_123 : decode cX6_runCards 123 = .ok (.aload_n 0, 1) := by decide +kernel
theorem dX6_runCards_124 : decode cX6_runCards 124 = .ok (.getfield 10, 3) := by decide +kernel
theorem dX6_runCards_127 : decode cX6_runCards 127 = .ok (.iconst 1, 1) := by decide +kernel
theorem dX6_runCards_128 : decode cX6_runCards 128 = .ok (.invokevirtual 94, 3) := by decide +kernel
theorem dX6_runCards_131 : decode cX6_runCards 131 = .ok (.invokevirtual 107, 3) := by decide +kernel
theorem dX6_runCards_134 : decode cX6_runCards 134 = .ok (.ifCond .eq 6, 3) := by decide +kernel
theorem dX6_runCards_137 : decode cX6_runCards 137 = .ok (.iinc 8 1, 3) := by decide +kernel
theorem dX6_runCards_140 : decode cX6_runCards 140 = .ok (.iinc 9 1, 3) := by decide +kernel
theorem dX6_runCards_143 : decode cX6_runCards 143 = .ok (.goto (-49), 3) := by decide +kernel
theorem dX6_runCards_146 : decode cX6_runCards 146 = .ok (.aload_n 0, 1) := by decide +kernel
theorem dX6_runCards_147 : decode cX6_runCards 147 = .ok (.getfield 10, 3) := by decide +kernel
theorem dX6_runCards_150 : decode cX6_runCards 150 = .ok (.iload 5, 2) := by decide +kernel
theorem dX6_runCards_152 : decode cX6_runCards 152 = .ok (.iload 8, 2) := by decide +kernel
theorem dX6_runCards_154 : decode cX6_runCards 154 = .ok (.aload_n 0, 1) := by decide +kernel
theorem dX6_runCards_155 : decode cX6_runCards 155 = .ok (.getfield 49, 3) := by decide +kernel
theorem dX6_runCards_158 : decode cX6_runCards 158 = .ok (.invokevirtual 111, 3) := by decide +kernel
theorem dX6_runCards_161 : decode cX6_runCards 161 = .ok (.invokevirtual 115, 3) := by decide +kernel
theorem dX6_runCards_164 : decode cX6_runCards 164 = .ok (.aload_n 0, 1) := by decide +kernel
theorem dX6_runCards_165 : decode cX6_runCards 165 = .ok (.getfield 10, 3) := by decide +kernel
theorem dX6_runCards_168 : decode cX6_runCards 168 = .ok (.iload_n 1, 1) := by decide +kernel
theorem dX6_runCards_169 : decode cX6_runCards 169 = .ok (.aload_n 0, 1) := by decide +kernel
theorem dX6_runCards_170 : decode cX6_runCards 170 = .ok (.getfield 49, 3) := by decide +kernel
theorem dX6_runCards_173 : decode cX6_runCards 173 = .ok (.invokevirtual 111, 3) := by decide +kernel
theorem dX6_runCards_176 : decode cX6_runCards 176 = .ok (.invokevirtual 119, 3) := by decide +kernel
theorem dX6_runCards_179 : decode cX6_runCards 179 = .ok (.aload_n 0, 1) := by decide +kernel
theorem dX6_runCards_180 : decode cX6_runCards 180 = .ok (.getfield 10, 3) := by decide +kernel
theorem dX6_runCards_183 : decode cX6_runCards 183 = .ok (.iload_n 2, 1) := by decide +kernel
theorem dX6_runCards_184 : decode cX6_runCards 184 = .ok (.aload_n 0, 1) := by decide +kernel
theorem dX6_runCards_185 : decode cX6_runCards 185 = .ok (.getfield 49, 3) := by decide +kernel
theorem dX6_runCards_188 : decode cX6_runCards 188 = .ok (.invokevirtual 111, 3) := by decide +kernel
theorem dX6_runCards_191 : decode cX6_runCards 191 = .ok (.invokevirtual 119, 3) := by decide +kernel
theorem dX6_runCards_194 : decode cX6_runCards 194 = .ok (.iload 8, 2) := by decide +kernel
theorem dX6_runCards_196 : decode cX6_runCards 196 = .ok (.ireturn, 1) := by decide +kernel
set_option maxRecDepth 20000 in
theorem ggX6_of_X3_has : GoodIn wsX6_of wsX3_has := goodIn_r _ [6, 7, 8, 9, 5, 10, 11, 57] (by decide +kernel) (by decide +kernel)
set_option maxRecDepth 20000 in
theorem gX6_of_X3_has : GoodIn wsX6_of (wsV RX6 123 RX3 yX3_has wsX3_has) := goodIn_app (goodIn_of _ (by decide +kernel)) ggX6_of_X3_has
set_option maxRecDepth 20000 in
theorem ggX6_of_X3_teeth : GoodIn wsX6_of wsX3_teeth := goodIn_r _ [15, 16, 17, 5, 18, 7, 8, 9, 10, 11, 57] (by decide +kernel) (by decide +kernel)
set_option maxRecDepth 20000 in
theorem gX6_of_X3_teeth : GoodIn wsX6_of (wsV RX6 126 RX3 yX3_teeth wsX3_teeth) := goodIn_app (goodIn_of _ (by decide +kernel)) ggX6_of_X3_teeth
set_option maxRecDepth 20000 in
theorem ggX6_of_X3_teethOfSign : GoodIn wsX6_of wsX3_teethOfSign := goodIn_r _ [22, 23, 13, 14, 5, 15, 16, 17, 18, 7, 8, 9, 10, 11, 24, 25, 26, 27, 57] (by decide +kernel) (by decide +kernel)
set_option maxRecDepth 20000 in
theorem gX6_of_X3_teethOfSign : GoodIn wsX6_of (wsV RX6 129 RX3 yX3_teethOfSign wsX3_teethOfSign) := goodIn_app (goodIn_of _ (by decide +kernel)) ggX6_of_X3_teethOfSign
set_option maxRecDepth 20000 in
theorem ggX6_of_X3_greatestHeight : GoodIn wsX6_of wsX3_greatestHeight := goodIn_r _ [31, 32, 33, 34, 35, 24, 25, 26, 5, 27, 16, 17, 18, 7, 8, 9, 10, 11, 23, 13, 14, 15, 57] (by decide +kernel) (by decide +kernel)
set_option maxRecDepth 20000 in
theorem gX6_of_X3_greatestHeight : GoodIn wsX6_of (wsV RX6 132 RX3 yX3_greatestHeight wsX3_greatestHeight) := goodIn_app (goodIn_of _ (by decide +kernel)) ggX6_of_X3_greatestHeight
set_option maxRecDepth 20000 in
theorem ggX6_of_X3_leastHeight : GoodIn wsX6_of wsX3_leastHeight := goodIn_r _ [39, 40, 41, 34, 42, 24, 25, 26, 5, 27, 16, 17, 18, 7, 8, 9, 10, 11, 23, 13, 14, 15, 57] (by decide +kernel) (by decide +kernel)
set_option maxRecDepth 20000 in
theorem gX6_of_X3_leastHeight : GoodIn wsX6_of (wsV RX6 135 RX3 yX3_leastHeight wsX3_leastHeight) := goodIn_app (goodIn_of _ (by decide +kernel)) ggX6_of_X3_leastHeight
set_option maxRecDepth 20000 in
theorem ggX6_of_X3_stepsSinceWorn : GoodIn wsX6_of wsX3_stepsSinceWorn := goodIn_r _ [46, 16, 17, 5, 18, 7, 8, 9, 10, 11, 57] (by decide +kernel) (by decide +kernel)
set_option maxRecDepth 20000 in
theorem gX6_of_X3_stepsSinceWorn : GoodIn wsX6_of (wsV RX6 138 RX3 yX3_stepsSinceWorn wsX3_stepsSinceWorn) := goodIn_app (goodIn_of _ (by decide +kernel)) ggX6_of_X3_stepsSinceWorn
set_option maxRecDepth 20000 in
theorem ggX6_of_X3_timesWorn : GoodIn wsX6_of wsX3_timesWorn := goodIn_r _ [50, 16, 17, 5, 18, 7, 8, 9, 10, 11, 57] (by decide +kernel) (by decide +kernel)
set_option maxRecDepth 20000 in
theorem gX6_of_X3_timesWorn : GoodIn wsX6_of (wsV RX6 141 RX3 yX3_timesWorn wsX3_timesWorn) := goodIn_app (goodIn_of _ (by decide +kernel)) ggX6_of_X3_timesWorn
theorem dX6_of_0 : decode cX6_of 0 = .ok (.aload_n 0, 1) := by decide +kernel
theorem dX6_of_1 : decode cX6_of 1 = .ok (.getfield 10, 3) := by decide +kernel
theorem dX6_of_4 : decode cX6_of 4 = .ok (.iload_n 1, 1) := by decide +kernel
theorem dX6_of_5 : decode cX6_of 5 = .ok (.invokevirtual 123, 3) := by decide +kernel
theorem dX6_of_8 : decode cX6_of 8 = .ok (.ifCond .ne 5, 3) := by decide +kernel
theorem dX6_of_11 : decode cX6_of 11 = .ok (.iconst (-1), 1) := by decide +kernel
theorem dX6_of_12 : decode cX6_of 12 = .ok (.ireturn, 1) := by decide +kernel
theorem dX6_of_13 : decode cX6_of 13 = .ok (.iload_n 2, 1) := by decide +kernel
theorem dX6_of_14 : decode cX6_of 14 = .ok (.tableswitch 113 0 6 #[42, 51, 61, 71, 83, 95, 104], 42) := by decide +kernel
theorem dX6_of_56 : decode cX6_of 56 = .ok (.aload_n 0, 1) := by decide +kernel
theorem dX6_of_57 : decode cX6_of 57 = .ok (.getfield 10, 3) := by decide +kernel
theorem dX6_of_60 : decode cX6_of 60 = .ok (.iload_n 1, 1) := by decide +kernel
theorem dX6_of_61 : decode cX6_of 61 = .ok (.invokevirtual 126, 3) := by decide +kernel
theorem dX6_of_64 : decode cX6_of 64 = .ok (.ireturn, 1) := by decide +kernel
theorem dX6_of_65 : decode cX6_of 65 = .ok (.aload_n 0, 1) := by decide +kernel
theorem dX6_of_66 : decode cX6_of 66 = .ok (.getfield 10, 3) := by decide +kernel
theorem dX6_of_69 : decode cX6_of 69 = .ok (.iload_n 1, 1) := by decide +kernel
theorem dX6_of_70 : decode cX6_of 70 = .ok (.iconst 1, 1) := by decide +kernel
theorem dX6_of_71 : decode cX6_of 71 = .ok (.invokevirtual 129, 3) := by decide +kernel
theorem dX6_of_74 : decode cX6_of 74 = .ok (.ireturn, 1) := by decide +kernel
theorem dX6_of_75 : decode cX6_of 75 = .ok (.aload_n 0, 1) := by decide +kernel
theorem dX6_of_76 : decode cX6_of 76 = .ok (.getfield 10, 3) := by decide +kernel
theorem dX6_of_79 : decode cX6_of 79 = .ok (.iload_n 1, 1) := by decide +kernel
theorem dX6_of_80 : decode cX6_of 80 = .ok (.iconst (-1), 1) := by decide +kernel
theorem dX6_of_81 : decode cX6_of 81 = .ok (.invokevirtual 129, 3) := by decide +kernel
theorem dX6_of_84 : decode cX6_of 84 = .ok (.ireturn, 1) := by decide +kernel
theorem dX6_of_85 : decode cX6_of 85 = .ok (.aload_n 0, 1) := by decide +kernel
theorem dX6_of_86 : decode cX6_of 86 = .ok (.getfield 10, 3) := by decide +kernel
theorem dX6_of_89 : decode cX6_of 89 = .ok (.iload_n 1, 1) := by decide +kernel
theorem dX6_of_90 : decode cX6_of 90 = .ok (.invokevirtual 132, 3) := by decide +kernel
theorem dX6_of_93 : decode cX6_of 93 = .ok (.bipush 9, 2) := by decide +kernel
theorem dX6_of_95 : decode cX6_of 95 = .ok (.iadd, 1) := by decide +kernel
theorem dX6_of_96 : decode cX6_of 96 = .ok (.ireturn, 1) := by decide +kernel
theorem dX6_of_97 : decode cX6_of 97 = .ok (.aload_n 0, 1) := by decide +kernel
theorem dX6_of_98 : decode cX6_of 98 = .ok (.getfield 10, 3) := by decide +kernel
theorem dX6_of_101 : decode cX6_of 101 = .ok (.iload_n 1, 1) := by decide +kernel
theorem dX6_of_102 : decode cX6_of 102 = .ok (.invokevirtual 135, 3) := by decide +kernel
theorem dX6_of_105 : decode cX6_of 105 = .ok (.bipush 9, 2) := by decide +kernel
theorem dX6_of_107 : decode cX6_of 107 = .ok (.iadd, 1) := by decide +kernel
theorem dX6_of_108 : decode cX6_of 108 = .ok (.ireturn, 1) := by decide +kernel
theorem dX6_of_109 : decode cX6_of 109 = .ok (.aload_n 0, 1) := by decide +kernel
theorem dX6_of_110 : decode cX6_of 110 = .ok (.getfield 10, 3) := by decide +kernel
theorem dX6_of_113 : decode cX6_of 113 = .ok (.iload_n 1, 1) := by decide +kernel
theorem dX6_of_114 : decode cX6_of 114 = .ok (.invokevirtual 138, 3) := by decide +kernel
theorem dX6_of_117 : decode cX6_of 117 = .ok (.ireturn, 1) := by decide +kernel
theorem dX6_of_118 : decode cX6_of 118 = .ok (.aload_n 0, 1) := by decide +kernel
theorem dX6_of_119 : decode cX6_of 119 = .ok (.getfield 10, 3) := by decide +kernel
theorem dX6_of_122 : decode cX6_of 122 = .ok (.iload_n 1, 1) := by decide +kernel
theorem dX6_of_123 : decode cX6_of 123 = .ok (.invokevirtual 141, 3) := by decide +kernel
theorem dX6_of_126 : decode cX6_of 126 = .ok (.ireturn, 1) := by decide +kernel
theorem dX6_of_127 : decode cX6_of 127 = .ok (.bipush (-2), 2) := by decide +kernel
theorem dX6_of_129 : decode cX6_of 129 = .ok (.ireturn, 1) := by decide +kernel
set_option maxRecDepth 20000 in
theorem ggX6_tooth_X3_hasTooth : GoodIn wsX6_tooth wsX3_hasTooth := goodIn_r _ [6, 7, 8, 9, 5, 10, 11, 12, 13, 14, 15, 16, 17, 18, 19, 20, 21, 22, 33] (by decide +kernel) (by decide +kernel)
set_option maxRecDepth 20000 in
theorem gX6_tooth_X3_hasTooth : GoodIn wsX6_tooth (wsV RX6 144 RX3 yX3_hasTooth wsX3_hasTooth) := goodIn_app (goodIn_of _ (by decide +kernel)) ggX6_tooth_X3_hasTooth
set_option maxRecDepth 20000 in
theorem ggX6_tooth_X3_height : GoodIn wsX6_tooth wsX3_height := goodIn_r _ [26, 20, 21, 5, 22, 11, 12, 13, 14, 15, 33] (by decide +kernel) (by decide +kernel)
set_option maxRecDepth 20000 in
theorem gX6_tooth_X3_height : GoodIn wsX6_tooth (wsV RX6 148 RX3 yX3_height wsX3_height) := goodIn_app (goodIn_of _ (by decide +kernel)) ggX6_tooth_X3_height
theorem dX6_tooth_0 : decode cX6_tooth 0 = .ok (.aload_n 0, 1) := by decide +kernel
theorem dX6_tooth_1 : decode cX6_tooth 1 = .ok (.getfield 10, 3) := by decide +kernel
theorem dX6_tooth_4 : decode cX6_tooth 4 = .ok (.iload_n 1, 1) := by decide +kernel
theorem dX6_tooth_5 : decode cX6_tooth 5 = .ok (.iload_n 2, 1) := by decide +kernel
theorem dX6_tooth_6 : decode cX6_tooth 6 = .ok (.invokevirtual 144, 3) := by decide +kernel
theorem dX6_tooth_9 : decode cX6_tooth 9 = .ok (.ifCond .eq 18, 3) := by decide +kernel
theorem dX6_tooth_12 : decode cX6_tooth 12 = .ok (.aload_n 0, 1) := by decide +kernel
theorem dX6_tooth_13 : decode cX6_tooth 13 = .ok (.getfield 10, 3) := by decide +kernel
theorem dX6_tooth_16 : decode cX6_tooth 16 = .ok (.iload_n 1, 1) := by decide +kernel
theorem dX6_tooth_17 : decode cX6_tooth 17 = .ok (.iload_n 2, 1) := by decide +kernel
theorem dX6_tooth_18 : decode cX6_tooth 18 = .ok (.invokevirtual 148, 3) := by decide +kernel
theorem dX6_tooth_21 : decode cX6_tooth 21 = .ok (.bipush 9, 2) := by decide +kernel
theorem dX6_tooth_23 : decode cX6_tooth 23 = .ok (.iadd, 1) := by decide +kernel
theorem dX6_tooth_24 : decode cX6_tooth 24 = .ok (.goto 4, 3) := by decide +kernel
theorem dX6_tooth_27 : decode cX6_tooth 27 = .ok (.iconst (-1), 1) := by decide +kernel
theorem dX6_tooth_28 : decode cX6_tooth 28 = .ok (.ireturn, 1) := by decide +kernel
set_option maxRecDepth 20000 in
theorem ggX6_count_X6_outside : GoodIn wsX6_count wsX6_outside := goodIn_r _ [7] (by decide +kernel) (by decide +kernel)
set_option maxRecDepth 20000 in
theorem gX6_count_X6_outside : GoodIn wsX6_count (va_wsS RX6 86 yX6_outside wsX6_outside) := goodIn_app (goodIn_of _ (by decide +kernel)) ggX6_count_X6_outside
set_option maxRecDepth 20000 in
theorem ggX6_count_X1_length : GoodIn wsX6_count wsX1_length := goodIn_r _ [12, 13, 32, 33] (by decide +kernel) (by decide +kernel)
set_option maxRecDepth 20000 in
theorem gX6_count_X1_length : GoodIn wsX6_count (wsV RX6 151 RX1 yX1_length wsX1_length) := goodIn_app (goodIn_of _ (by decide +kernel)) ggX6_count_X1_length
set_option maxRecDepth 20000 in
theorem ggX6_count_X0_length : GoodIn wsX6_count wsX0_length := goodIn_r _ [18, 19, 34, 35, 36] (by decide +kernel) (by decide +kernel)
set_option maxRecDepth 20000 in
theorem gX6_count_X0_length : GoodIn wsX6_count (wsV RX6 154 RX0 yX0_length wsX0_length) := goodIn_app (goodIn_of _ (by decide +kernel)) ggX6_count_X0_length
set_option maxRecDepth 20000 in
theorem ggX6_count_X3_cell : GoodIn wsX6_count wsX3_cell := goodIn_r _ [24, 25, 37] (by decide +kernel) (by decide +kernel)
set_option maxRecDepth 20000 in
theorem gX6_count_X3_cell : GoodIn wsX6_count (wsV RX6 104 RX3 yX3_cell wsX3_cell) := goodIn_app (goodIn_of _ (by decide +kernel)) ggX6_count_X3_cell
theorem dX6_count_0 : decode cX6_count 0 = .ok (.iload_n 1, 1) := by decide +kernel
theorem dX6_count_1 : decode cX6_count 1 = .ok (.iconst 0, 1) := by decide +kernel
theorem dX6_count_2 : decode cX6_count 2 = .ok (.bipush 10, 2) := by decide +kernel
theorem dX6_count_4 : decode cX6_count 4 = .ok (.invokestatic 86, 3) := by decide +kernel
theorem dX6_count_7 : decode cX6_count 7 = .ok (.ifCond .eq 6, 3) := by decide +kernel
theorem dX6_count_10 : decode cX6_count 10 = .ok (.bipush (-2), 2) := by decide +kernel
theorem dX6_count_12 : decode cX6_count 12 = .ok (.ireturn, 1) := by decide +kernel
theorem dX6_count_13 : decode cX6_count 13 = .ok (.iload_n 1, 1) := by decide +kernel
theorem dX6_count_14 : decode cX6_count 14 = .ok (.bipush 9, 2) := by decide +kernel
theorem dX6_count_16 : decode cX6_count 16 = .ok (.if_icmp .ne 11, 3) := by decide +kernel
theorem dX6_count_19 : decode cX6_count 19 = .ok (.aload_n 0, 1) := by decide +kernel
theorem dX6_count_20 : decode cX6_count 20 = .ok (.getfield 33, 3) := by decide +kernel
theorem dX6_count_23 : decode cX6_count 23 = .ok (.invokevirtual 151, 3) := by decide +kernel
theorem dX6_count_26 : decode cX6_count 26 = .ok (.ireturn, 1) := by decide +kernel
theorem dX6_count_27 : decode cX6_count 27 = .ok (.iload_n 1, 1) := by decide +kernel
theorem dX6_count_28 : decode cX6_count 28 = .ok (.bipush 10, 2) := by decide +kernel
theorem dX6_count_30 : decode cX6_count 30 = .ok (.if_icmp .ne 13, 3) := by decide +kernel
theorem dX6_count_33 : decode cX6_count 33 = .ok (.aload_n 0, 1) := by decide +kernel
theorem dX6_count_34 : decode cX6_count 34 = .ok (.getfield 19, 3) := by decide +kernel
theorem dX6_count_37 : decode cX6_count 37 = .ok (.invokevirtual 154, 3) := by decide +kernel
theorem dX6_count_40 : decode cX6_count 40 = .ok (.goto 11, 3) := by decide +kernel
theorem dX6_count_43 : decode cX6_count 43 = .ok (.aload_n 0, 1) := by decide +kernel
theorem dX6_count_44 : decode cX6_count 44 = .ok (.getfield 10, 3) := by decide +kernel
theorem dX6_count_47 : decode cX6_count 47 = .ok (.iload_n 1, 1) := by decide +kernel
theorem dX6_count_48 : decode cX6_count 48 = .ok (.invokevirtual 104, 3) := by decide +kernel
theorem dX6_count_51 : decode cX6_count 51 = .ok (.ireturn, 1) := by decide +kernel
set_option maxRecDepth 20000 in
theorem ggX6_pair_X6_questionError : GoodIn wsX6_pair wsX6_questionError := goodIn_r _ [7, 8, 9, 10, 6, 11, 2, 12, 13, 14, 15, 16, 17, 18, 19, 20, 21, 22, 23, 24, 91, 92, 93, 94, 95, 96, 97] (by decide +kernel) (by decide +kernel)
set_option maxRecDepth 20000 in
theorem gX6_pair_X6_questionError : GoodIn wsX6_pair (wsV RX6 155 RX6 yX6_questionError wsX6_questionError) := goodIn_app (goodIn_of _ (by decide +kernel)) ggX6_pair_X6_questionError
set_option maxRecDepth 20000 in
theorem ggX6_pair_X5_lay : GoodIn wsX6_pair wsX5_lay := goodIn_r _ [29, 30, 31, 32, 33, 34, 35, 36, 37, 38, 15, 39, 40, 41, 42, 17, 18, 19, 20, 21, 43, 44, 28, 45, 46, 47, 48, 49, 50, 51, 52, 98, 99, 100, 101, 97] (by decide +kernel) (by decide +kernel)
set_option maxRecDepth 20000 in
theorem gX6_pair_X5_lay : GoodIn wsX6_pair (wsV RX6 90 RX5 yX5_lay wsX5_lay) := goodIn_app (goodIn_of _ (by decide +kernel)) ggX6_pair_X5_lay
set_option maxRecDepth 20000 in
theorem ggX6_pair_X5_length : GoodIn wsX6_pair wsX5_length := goodIn_r _ [56, 34, 98, 99, 100, 101] (by decide +kernel) (by decide +kernel)
set_option maxRecDepth 20000 in
theorem gX6_pair_X5_length : GoodIn wsX6_pair (wsV RX6 158 RX5 yX5_length wsX5_length) := goodIn_app (goodIn_of _ (by decide +kernel)) ggX6_pair_X5_length
set_option maxRecDepth 20000 in
theorem ggX6_pair_X5_leastPress : GoodIn wsX6_pair wsX5_leastPress := goodIn_r _ [60, 34, 30, 31, 32, 33, 61, 62, 63, 28, 64, 35, 98, 99, 100, 101] (by decide +kernel) (by decide +kernel)
set_option maxRecDepth 20000 in
theorem gX6_pair_X5_leastPress : GoodIn wsX6_pair (wsV RX6 159 RX5 yX5_leastPress wsX5_leastPress) := goodIn_app (goodIn_of _ (by decide +kernel)) ggX6_pair_X5_leastPress
set_option maxRecDepth 20000 in
theorem ggX6_pair_X5_greatestPress : GoodIn wsX6_pair wsX5_greatestPress := goodIn_r _ [68, 34, 69, 70, 32, 71, 61, 62, 63, 28, 64, 35, 98, 99, 100, 101] (by decide +kernel) (by decide +kernel)
set_option maxRecDepth 20000 in
theorem gX6_pair_X5_greatestPress : GoodIn wsX6_pair (wsV RX6 162 RX5 yX5_greatestPress wsX5_greatestPress) := goodIn_app (goodIn_of _ (by decide +kernel)) ggX6_pair_X5_greatestPress
set_option maxRecDepth 20000 in
theorem ggX6_pair_X3_setting : GoodIn wsX6_pair wsX3_setting := goodIn_r _ [75, 17, 18, 19, 15, 20, 21, 97] (by decide +kernel) (by decide +kernel)
set_option maxRecDepth 20000 in
theorem gX6_pair_X3_setting : GoodIn wsX6_pair (wsV RX6 94 RX3 yX3_setting wsX3_setting) := goodIn_app (goodIn_of _ (by decide +kernel)) ggX6_pair_X3_setting
set_option maxRecDepth 20000 in
theorem ggX6_pair_X5_meshes : GoodIn wsX6_pair wsX5_meshes := goodIn_r _ [79, 80, 81, 82, 28, 83, 34, 61, 62, 63, 64, 35, 84, 85, 86, 87, 88, 89, 32, 90, 98, 99, 100, 101] (by decide +kernel) (by decide +kernel)
set_option maxRecDepth 20000 in
theorem gX6_pair_X5_meshes : GoodIn wsX6_pair (wsV RX6 97 RX5 yX5_meshes wsX5_meshes) := goodIn_app (goodIn_of _ (by decide +kernel)) ggX6_pair_X5_meshes
theorem dX6_pair_0 : decode cX6_pair 0 = .ok (.aload_n 0, 1) := by decide +kernel
theorem dX6_pair_1 : decode cX6_pair 1 = .ok (.iload_n 1, 1) := by decide +kernel
theorem dX6_pair_2 : decode cX6_pair 2 = .ok (.iload_n 2, 1) := by decide +kernel
theorem dX6_pair_3 : decode cX6_pair 3 = .ok (.iload_n 3, 1) := by decide +kernel
theorem dX6_pair_4 : decode cX6_pair 4 = .ok (.iload 4, 2) := by decide +kernel
theorem dX6_pair_6 : decode cX6_pair 6 = .ok (.iload 5, 2) := by decide +kernel
theorem dX6_pair_8 : decode cX6_pair 8 = .ok (.iconst 3, 1) := by decide +kernel
theorem dX6_pair_9 : decode cX6_pair 9 = .ok (.invokevirtual 155, 3) := by decide +kernel
theorem dX6_pair_12 : decode cX6_pair 12 = .ok (.istore 6, 2) := by decide +kernel
theorem dX6_pair_14 : decode cX6_pair 14 = .ok (.iload 6, 2) := by decide +kernel
theorem dX6_pair_16 : decode cX6_pair 16 = .ok (.ifCond .eq 6, 3) := by decide +kernel
theorem dX6_pair_19 : decode cX6_pair 19 = .ok (.iload 6, 2) := by decide +kernel
theorem dX6_pair_21 : decode cX6_pair 21 = .ok (.ireturn, 1) := by decide +kernel
theorem dX6_pair_22 : decode cX6_pair 22 = .ok (.aload_n 0, 1) := by decide +kernel
theorem dX6_pair_23 : decode cX6_pair 23 = .ok (.getfield 49, 3) := by decide +kernel
theorem dX6_pair_26 : decode cX6_pair 26 = .ok (.aload_n 0, 1) := by decide +kernel
theorem dX6_pair_27 : decode cX6_pair 27 = .ok (.getfield 10, 3) := by decide +kernel
theorem dX6_pair_30 : decode cX6_pair 30 = .ok (.iload_n 1, 1) := by decide +kernel
theorem dX6_pair_31 : decode cX6_pair 31 = .ok (.iload_n 2, 1) := by decide +kernel
theorem dX6_pair_32 : decode cX6_pair 32 = .ok (.iload_n 3, 1) := by decide +kernel
theorem dX6_pair_33 : decode cX6_pair 33 = .ok (.iload 4, 2) := by decide +kernel
theorem dX6_pair_35 : decode cX6_pair 35 = .ok (.invokevirtual 90, 3) := by decide +kernel
theorem dX6_pair_38 : decode cX6_pair 38 = .ok (.iload 5, 2) := by decide +kernel
theorem dX6_pair_40 : decode cX6_pair 40 = .ok (.tableswitch 58 0 2 #[28, 36, 47], 28) := by decide +kernel
theorem dX6_pair_68 : decode cX6_pair 68 = .ok (.aload_n 0, 1) := by decide +kernel
theorem dX6_pair_69 : decode cX6_pair 69 = .ok (.getfield 49, 3) := by decide +kernel
theorem dX6_pair_72 : decode cX6_pair 72 = .ok (.invokevirtual 158, 3) := by decide +kernel
theorem dX6_pair_75 : decode cX6_pair 75 = .ok (.ireturn, 1) := by decide +kernel
theorem dX6_pair_76 : decode cX6_pair 76 = .ok (.aload_n 0, 1) := by decide +kernel
theorem dX6_pair_77 : decode cX6_pair 77 = .ok (.getfield 49, 3) := by decide +kernel
theorem dX6_pair_80 : decode cX6_pair 80 = .ok (.invokevirtual 159, 3) := by decide +kernel
theorem dX6_pair_83 : decode cX6_pair 83 = .ok (.bipush 100, 2) := by decide +kernel
theorem dX6_pair_85 : decode cX6_pair 85 = .ok (.iadd, 1) := by decide +kernel
theorem dX6_pair_86 : decode cX6_pair 86 = .ok (.ireturn, 1) := by decide +kernel
theorem dX6_pair_87 : decode cX6_pair 87 = .ok (.aload_n 0, 1) := by decide +kernel
theorem dX6_pair_88 : decode cX6_pair 88 = .ok (.getfield 49, 3) := by decide +kernel
theorem dX6_pair_91 : decode cX6_pair 91 = .ok (.invokevirtual 162, 3) := by decide +kernel
theorem dX6_pair_94 : decode cX6_pair 94 = .ok (.bipush 100, 2) := by decide +kernel
theorem dX6_pair_96 : decode cX6_pair 96 = .ok (.iadd, 1) := by decide +kernel
theorem dX6_pair_97 : decode cX6_pair 97 = .ok (.ireturn, 1) := by decide +kernel
theorem dX6_pair_98 : decode cX6_pair 98 = .ok (.aload_n 0, 1) := by decide +kernel
theorem dX6_pair_99 : decode cX6_pair 99 = .ok (.getfield 49, 3) := by decide +kernel
theorem dX6_pair_102 : decode cX6_pair 102 = .ok (.aload_n 0, 1) := by decide +kernel
theorem dX6_pair_103 : decode cX6_pair 103 = .ok (.getfield 10, 3) := by decide +kernel
theorem dX6_pair_106 : decode cX6_pair 106 = .ok (.iconst 0, 1) := by decide +kernel
theorem dX6_pair_107 : decode cX6_pair 107 = .ok (.invokevirtual 94, 3) := by decide +kernel
theorem dX6_pair_110 : decode cX6_pair 110 = .ok (.invokevirtual 97, 3) := by decide +kernel
theorem dX6_pair_113 : decode cX6_pair 113 = .ok (.ifCond .eq 7, 3) := by decide +kernel
theorem dX6_pair_116 : decode cX6_pair 116 = .ok (.iconst 1, 1) := by decide +kernel
theorem dX6_pair_117 : decode cX6_pair 117 = .ok (.goto 4, 3) := by decide +kernel
theorem dX6_pair_120 : decode cX6_pair 120 = .ok (.iconst 0, 1) := by decide +kernel
theorem dX6_pair_121 : decode cX6_pair 121 = .ok (.ireturn, 1) := by decide +kernel
set_option maxRecDepth 20000 in
theorem ggX6_why_X6_questionError : GoodIn wsX6_why wsX6_questionError := goodIn_r _ [7, 8, 9, 10, 6, 11, 2, 12, 13, 14, 15, 16, 17, 18, 19, 20, 21, 22, 23, 24, 73, 74, 75, 76, 77, 78, 79] (by decide +kernel) (by decide +kernel)
set_option maxRecDepth 20000 in
theorem gX6_why_X6_questionError : GoodIn wsX6_why (wsV RX6 155 RX6 yX6_questionError wsX6_questionError) := goodIn_app (goodIn_of _ (by decide +kernel)) ggX6_why_X6_questionError
set_option maxRecDepth 20000 in
theorem ggX6_why_X5_lay : GoodIn wsX6_why wsX5_lay := goodIn_r _ [29, 30, 31, 32, 33, 34, 35, 36, 37, 38, 15, 39, 40, 41, 42, 17, 18, 19, 20, 21, 43, 44, 28, 45, 46, 47, 48, 49, 50, 51, 52, 80, 81, 82, 83, 79] (by decide +kernel) (by decide +kernel)
set_option maxRecDepth 20000 in
theorem gX6_why_X5_lay : GoodIn wsX6_why (wsV RX6 90 RX5 yX5_lay wsX5_lay) := goodIn_app (goodIn_of _ (by decide +kernel)) ggX6_why_X5_lay
set_option maxRecDepth 20000 in
theorem ggX6_why_X3_setting : GoodIn wsX6_why wsX3_setting := goodIn_r _ [56, 17, 18, 19, 15, 20, 21, 79] (by decide +kernel) (by decide +kernel)
set_option maxRecDepth 20000 in
theorem gX6_why_X3_setting : GoodIn wsX6_why (wsV RX6 94 RX3 yX3_setting wsX3_setting) := goodIn_app (goodIn_of _ (by decide +kernel)) ggX6_why_X3_setting
set_option maxRecDepth 20000 in
theorem ggX6_why_X5_firstBadStep : GoodIn wsX6_why wsX5_firstBadStep := goodIn_r _ [60, 34, 61, 62, 63, 28, 64, 35, 65, 66, 67, 68, 69, 70, 32, 71, 80, 81, 82, 83] (by decide +kernel) (by decide +kernel)
set_option maxRecDepth 20000 in
theorem gX6_why_X5_firstBadStep : GoodIn wsX6_why (wsV RX6 165 RX5 yX5_firstBadStep wsX5_firstBadStep) := goodIn_app (goodIn_of _ (by decide +kernel)) ggX6_why_X5_firstBadStep
set_option maxRecDepth 20000 in
theorem ggX6_why_X5_press : GoodIn wsX6_why wsX5_press := goodIn_r _ [64, 35, 80, 81, 82, 83] (by decide +kernel) (by decide +kernel)
set_option maxRecDepth 20000 in
theorem gX6_why_X5_press : GoodIn wsX6_why (wsV RX6 168 RX5 yX5_press wsX5_press) := goodIn_app (goodIn_of _ (by decide +kernel)) ggX6_why_X5_press
theorem dX6_why_0 : decode cX6_why 0 = .ok (.aload_n 0, 1) := by decide +kernel
theorem dX6_why_1 : decode cX6_why 1 = .ok (.iload_n 1, 1) := by decide +kernel
theorem dX6_why_2 : decode cX6_why 2 = .ok (.iload_n 2, 1) := by decide +kernel
theorem dX6_why_3 : decode cX6_why 3 = .ok (.iload_n 3, 1) := by decide +kernel
theorem dX6_why_4 : decode cX6_why 4 = .ok (.iload 4, 2) := by decide +kernel
theorem dX6_why_6 : decode cX6_why 6 = .ok (.iload 5, 2) := by decide +kernel
theorem dX6_why_8 : decode cX6_why 8 = .ok (.iconst 1, 1) := by decide +kernel
theorem dX6_why_9 : decode cX6_why 9 = .ok (.invokevirtual 155, 3) := by decide +kernel
theorem dX6_why_12 : decode cX6_why 12 = .ok (.istore 6, 2) := by decide +kernel
theorem dX6_why_14 : decode cX6_why 14 = .ok (.iload 6, 2) := by decide +kernel
theorem dX6_why_16 : decode cX6_why 16 = .ok (.ifCond .eq 6, 3) := by decide +kernel
theorem dX6_why_19 : decode cX6_why 19 = .ok (.iload 6, 2) := by decide +kernel
theorem dX6_why_21 : decode cX6_why 21 = .ok (.ireturn, 1) := by decide +kernel
theorem dX6_why_22 : decode cX6_why 22 = .ok (.aload_n 0, 1) := by decide +kernel
theorem dX6_why_23 : decode cX6_why 23 = .ok (.getfield 49, 3) := by decide +kernel
theorem dX6_why_26 : decode cX6_why 26 = .ok (.aload_n 0, 1) := by decide +kernel
theorem dX6_why_27 : decode cX6_why 27 = .ok (.getfield 10, 3) := by decide +kernel
theorem dX6_why_30 : decode cX6_why 30 = .ok (.iload_n 1, 1) := by decide +kernel
theorem dX6_why_31 : decode cX6_why 31 = .ok (.iload_n 2, 1) := by decide +kernel
theorem dX6_why_32 : decode cX6_why 32 = .ok (.iload_n 3, 1) := by decide +kernel
theorem dX6_why_33 : decode cX6_why 33 = .ok (.iload 4, 2) := by decide +kernel
theorem dX6_why_35 : decode cX6_why 35 = .ok (.invokevirtual 90, 3) := by decide +kernel
theorem dX6_why_38 : decode cX6_why 38 = .ok (.aload_n 0, 1) := by decide +kernel
theorem dX6_why_39 : decode cX6_why 39 = .ok (.getfield 49, 3) := by decide +kernel
theorem dX6_why_42 : decode cX6_why 42 = .ok (.aload_n 0, 1) := by decide +kernel
theorem dX6_why_43 : decode cX6_why 43 = .ok (.getfield 10, 3) := by decide +kernel
theorem dX6_why_46 : decode cX6_why 46 = .ok (.iconst 0, 1) := by decide +kernel
theorem dX6_why_47 : decode cX6_why 47 = .ok (.invokevirtual 94, 3) := by decide +kernel
theorem dX6_why_50 : decode cX6_why 50 = .ok (.invokevirtual 165, 3) := by decide +kernel
theorem dX6_why_53 : decode cX6_why 53 = .ok (.istore 7, 2) := by decide +kernel
theorem dX6_why_55 : decode cX6_why 55 = .ok (.iload 5, 2) := by decide +kernel
theorem dX6_why_57 : decode cX6_why 57 = .ok (.iconst 1, 1) := by decide +kernel
theorem dX6_why_58 : decode cX6_why 58 = .ok (.if_icmp .ne 6, 3) := by decide +kernel
theorem dX6_why_61 : decode cX6_why 61 = .ok (.iload 7, 2) := by decide +kernel
theorem dX6_why_63 : decode cX6_why 63 = .ok (.ireturn, 1) := by decide +kernel
theorem dX6_why_64 : decode cX6_why 64 = .ok (.iload 7, 2) := by decide +kernel
theorem dX6_why_66 : decode cX6_why 66 = .ok (.bipush (-6), 2) := by decide +kernel
theorem dX6_why_68 : decode cX6_why 68 = .ok (.if_icmp .ne 5, 3) := by decide +kernel
theorem dX6_why_71 : decode cX6_why 71 = .ok (.iconst 0, 1) := by decide +kernel
theorem dX6_why_72 : decode cX6_why 72 = .ok (.ireturn, 1) := by decide +kernel
theorem dX6_why_73 : decode cX6_why 73 = .ok (.aload_n 0, 1) := by decide +kernel
theorem dX6_why_74 : decode cX6_why 74 = .ok (.getfield 49, 3) := by decide +kernel
theorem dX6_why_77 : decode cX6_why 77 = .ok (.iload 7, 2) := by decide +kernel
theorem dX6_why_79 : decode cX6_why 79 = .ok (.invokevirtual 168, 3) := by decide +kernel
theorem dX6_why_82 : decode cX6_why 82 = .ok (.iconst 1, 1) := by decide +kernel
theorem dX6_why_83 : decode cX6_why 83 = .ok (.if_icmp .ge 7, 3) := by decide +kernel
theorem dX6_why_86 : decode cX6_why 86 = .ok (.iconst 1, 1) := by decide +kernel
theorem dX6_why_87 : decode cX6_why 87 = .ok (.goto 4, 3) := by decide +kernel
theorem dX6_why_90 : decode cX6_why 90 = .ok (.iconst 2, 1) := by decide +kernel
theorem dX6_why_91 : decode cX6_why 91 = .ok (.ireturn, 1) := by decide +kernel
set_option maxRecDepth 20000 in
theorem ggX6_leastGap_X6_pairError : GoodIn wsX6_leastGap wsX6_pairError := goodIn_r _ [5, 6, 7, 8, 9, 10, 11, 12, 13, 14, 15, 16, 17, 18, 4, 19, 79, 80, 81, 82, 83, 84, 85] (by decide +kernel) (by decide +kernel)
set_option maxRecDepth 20000 in
theorem gX6_leastGap_X6_pairError : GoodIn wsX6_leastGap (wsV RX6 82 RX6 yX6_pairError wsX6_pairError) := goodIn_app (goodIn_of _ (by decide +kernel)) ggX6_leastGap_X6_pairError
set_option maxRecDepth 20000 in
theorem ggX6_leastGap_X6_gapToMesh : GoodIn wsX6_leastGap wsX6_gapToMesh := goodIn_r _ [23, 24, 6, 25, 26, 27, 28, 29, 30, 31, 32, 33, 34, 35, 36, 37, 38, 39, 40, 41, 10, 42, 43, 44, 45, 12, 13, 14, 15, 16, 46, 47, 48, 49, 50, 51, 52, 53, 54, 55, 56, 57, 58, 59, 60, 61, 62, 63, 64, 65, 66, 67, 68, 69, 70, 71, 72, 73, 74, 75, 76, 77, 78, 79, 80, 81, 82, 83, 84, 86, 87, 88, 89, 85] (by decide +kernel) (by decide +kernel)
set_option maxRecDepth 20000 in
theorem gX6_leastGap_X6_gapToMesh : GoodIn wsX6_leastGap (wsV RX6 171 RX6 yX6_gapToMesh wsX6_gapToMesh) := goodIn_app (goodIn_of _ (by decide +kernel)) ggX6_leastGap_X6_gapToMesh
theorem dX6_leastGap_0 : decode cX6_leastGap 0 = .ok (.aload_n 0, 1) := by decide +kernel
theorem dX6_leastGap_1 : decode cX6_leastGap 1 = .ok (.iload_n 1, 1) := by decide +kernel
theorem dX6_leastGap_2 : decode cX6_leastGap 2 = .ok (.iload_n 2, 1) := by decide +kernel
theorem dX6_leastGap_3 : decode cX6_leastGap 3 = .ok (.iload_n 3, 1) := by decide +kernel
theorem dX6_leastGap_4 : decode cX6_leastGap 4 = .ok (.iconst 0, 1) := by decide +kernel
theorem dX6_leastGap_5 : decode cX6_leastGap 5 = .ok (.invokevirtual 82, 3) := by decide +kernel
theorem dX6_leastGap_8 : decode cX6_leastGap 8 = .ok (.istore 4, 2) := by decide +kernel
theorem dX6_leastGap_10 : decode cX6_leastGap 10 = .ok (.iload 4, 2) := by decide +kernel
theorem dX6_leastGap_12 : decode cX6_leastGap 12 = .ok (.ifCond .eq 8, 3) := by decide +kernel
theorem dX6_leastGap_15 : decode cX6_leastGap 15 = .ok (.iload 4, 2) := by decide +kernel
theorem dX6_leastGap_17 : decode cX6_leastGap 17 = .ok (.goto 10, 3) := by decide +kernel
theorem dX6_leastGap_20 : decode cX6_leastGap 20 = .ok (.aload_n 0, 1) := by decide +kernel
theorem dX6_leastGap_21 : decode cX6_leastGap 21 = .ok (.iload_n 1, 1) := by decide +kernel
theorem dX6_leastGap_22 : decode cX6_leastGap 22 = .ok (.iload_n 2, 1) := by decide +kernel
theorem dX6_leastGap_23 : decode cX6_leastGap 23 = .ok (.iload_n 3, 1) := by decide +kernel
theorem dX6_leastGap_24 : decode cX6_leastGap 24 = .ok (.invokevirtual 171, 3) := by decide +kernel
theorem dX6_leastGap_27 : decode cX6_leastGap 27 = .ok (.ireturn, 1) := by decide +kernel
set_option maxRecDepth 20000 in
theorem ggX6_bestOffset_X6_questionError : GoodIn wsX6_bestOffset wsX6_questionError := goodIn_r _ [10, 11, 12, 13, 9, 14, 1, 15, 16, 17, 18, 19, 20, 21, 22, 23, 24, 25, 26, 27, 85, 86, 87, 88, 89, 90, 91] (by decide +kernel) (by decide +kernel)
set_option maxRecDepth 20000 in
theorem gX6_bestOffset_X6_questionError : GoodIn wsX6_bestOffset (wsV RX6 155 RX6 yX6_questionError wsX6_questionError) := goodIn_app (goodIn_of _ (by decide +kernel)) ggX6_bestOffset_X6_questionError
set_option maxRecDepth 20000 in
theorem ggX6_bestOffset_X3_teeth : GoodIn wsX6_bestOffset wsX3_teeth := goodIn_r _ [31, 32, 33, 18, 34, 20, 21, 22, 23, 24, 91] (by decide +kernel) (by decide +kernel)
set_option maxRecDepth 20000 in
theorem gX6_bestOffset_X3_teeth : GoodIn wsX6_bestOffset (wsV RX6 126 RX3 yX3_teeth wsX3_teeth) := goodIn_app (goodIn_of _ (by decide +kernel)) ggX6_bestOffset_X3_teeth
set_option maxRecDepth 20000 in
theorem ggX6_bestOffset_X6_gapToMesh : GoodIn wsX6_bestOffset wsX6_gapToMesh := goodIn_r _ [38, 39, 1, 40, 41, 4, 42, 43, 44, 45, 46, 47, 48, 3, 5, 49, 50, 51, 29, 30, 18, 31, 32, 33, 34, 20, 21, 22, 23, 24, 52, 53, 54, 55, 56, 57, 58, 59, 60, 61, 62, 63, 64, 65, 66, 67, 68, 69, 70, 71, 72, 73, 74, 75, 76, 77, 78, 79, 80, 81, 82, 83, 84, 85, 86, 87, 88, 89, 90, 92, 93, 94, 95, 91] (by decide +kernel) (by decide +kernel)
set_option maxRecDepth 20000 in
theorem gX6_bestOffset_X6_gapToMesh : GoodIn wsX6_bestOffset (wsV RX6 171 RX6 yX6_gapToMesh wsX6_gapToMesh) := goodIn_app (goodIn_of _ (by decide +kernel)) ggX6_bestOffset_X6_gapToMesh
theorem dX6_bestOffset_0 : decode cX6_bestOffset 0 = .ok (.aload_n 0, 1) := by decide +kernel
theorem dX6_bestOffset_1 : decode cX6_bestOffset 1 = .ok (.iload_n 1, 1) := by decide +kernel
theorem dX6_bestOffset_2 : decode cX6_bestOffset 2 = .ok (.iload_n 2, 1) := by decide +kernel
theorem dX6_bestOffset_3 : decode cX6_bestOffset 3 = .ok (.iconst 0, 1) := by decide +kernel
theorem dX6_bestOffset_4 : decode cX6_bestOffset 4 = .ok (.iconst 0, 1) := by decide +kernel
theorem dX6_bestOffset_5 : decode cX6_bestOffset 5 = .ok (.iload_n 3, 1) := by decide +kernel
theorem dX6_bestOffset_6 : decode cX6_bestOffset 6 = .ok (.iconst 1, 1) := by decide +kernel
theorem dX6_bestOffset_7 : decode cX6_bestOffset 7 = .ok (.invokevirtual 155, 3) := by decide +kernel
theorem dX6_bestOffset_10 : decode cX6_bestOffset 10 = .ok (.istore 4, 2) := by decide +kernel
theorem dX6_bestOffset_12 : decode cX6_bestOffset 12 = .ok (.iload 4, 2) := by decide +kernel
