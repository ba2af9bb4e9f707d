set_option maxRecDepth 20000 in
theorem ggL_law_L_limits_28 : GoodIn wsL_law (wsL_limits_r20) := goodIn_r _ [469, 470, 471, 472, 473, 474, 475, 476, 477, 478, 479, 480, 481, 482, 483, 484] (by decide +kernel) (by decide +kernel)
set_option maxRecDepth 20000 in
theorem ggL_law_L_limits_29 : GoodIn wsL_law (wsX60) := goodIn_r _ [533, 534, 535, 536, 537, 538] (by decide +kernel) (by decide +kernel)
set_option maxRecDepth 20000 in
theorem ggL_law_L_limits_30 : GoodIn wsL_law (wsX30) := goodIn_r _ [539] (by decide +kernel) (by decide +kernel)
set_option maxRecDepth 20000 in
theorem ggL_law_L_limits_31 : GoodIn wsL_law (wsX00) := goodIn_r _ [540, 541, 542] (by decide +kernel) (by decide +kernel)
set_option maxRecDepth 20000 in
theorem ggL_law_L_limits_32 : GoodIn wsL_law (wsX40) := goodIn_r _ [543, 544] (by decide +kernel) (by decide +kernel)
set_option maxRecDepth 20000 in
theorem ggL_law_L_limits_33 : GoodIn wsL_law (wsX10) := goodIn_r _ [545, 546] (by decide +kernel) (by decide +kernel)
set_option maxRecDepth 20000 in
theorem ggL_law_L_limits_34 : GoodIn wsL_law (wsX20) := goodIn_r _ [547, 548, 549, 550, 551] (by decide +kernel) (by decide +kernel)
set_option maxRecDepth 20000 in
theorem ggL_law_L_limits_35 : GoodIn wsL_law (wsX50) := goodIn_r _ [552, 553, 554, 555] (by decide +kernel) (by decide +kernel)
set_option maxRecDepth 20000 in
theorem ggL_law_L_limits : GoodIn wsL_law wsL_limits := x_gc ggL_law_L_limits_1 (goodIn_app (goodIn_app (goodIn_app (goodIn_app (goodIn_app (goodIn_app (goodIn_app (goodIn_app ggL_law_L_limits_2 (goodIn_app ggL_law_L_limits_3 (goodIn_app ggL_law_L_limits_4 (goodIn_app ggL_law_L_limits_5 (goodIn_app ggL_law_L_limits_6 (goodIn_app ggL_law_L_limits_7 (goodIn_app ggL_law_L_limits_8 (goodIn_app ggL_law_L_limits_9 (goodIn_app ggL_law_L_limits_10 (goodIn_app ggL_law_L_limits_11 (goodIn_app ggL_law_L_limits_12 (goodIn_app ggL_law_L_limits_13 (goodIn_app ggL_law_L_limits_19 (goodIn_app ggL_law_L_limits_22 (goodIn_app ggL_law_L_limits_23 (goodIn_app ggL_law_L_limits_24 (goodIn_app ggL_law_L_limits_25 (goodIn_app ggL_law_L_limits_26 (goodIn_app ggL_law_L_limits_27 ggL_law_L_limits_28))))))))))))))))))) ggL_law_L_limits_29) ggL_law_L_limits_30) ggL_law_L_limits_31) ggL_law_L_limits_32) ggL_law_L_limits_33) ggL_law_L_limits_34) ggL_law_L_limits_35)
