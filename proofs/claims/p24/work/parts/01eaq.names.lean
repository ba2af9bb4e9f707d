set_option maxRecDepth 20000 in
theorem ggL_limits_L_refused_28 : GoodIn wsL_limits (wsX30) := goodIn_r _ [479] (by decide +kernel) (by decide +kernel)
set_option maxRecDepth 20000 in
theorem ggL_limits_L_refused_29 : GoodIn wsL_limits (wsX20) := goodIn_r _ [487, 488, 489, 490, 491] (by decide +kernel) (by decide +kernel)
set_option maxRecDepth 20000 in
theorem ggL_limits_L_refused_30 : GoodIn wsL_limits (wsX50) := goodIn_r _ [492, 493, 494, 495] (by decide +kernel) (by decide +kernel)
set_option maxRecDepth 20000 in
theorem ggL_limits_L_refused_31 : GoodIn wsL_limits (wsX40) := goodIn_r _ [483, 484] (by decide +kernel) (by decide +kernel)
set_option maxRecDepth 20000 in
theorem ggL_limits_L_refused : GoodIn wsL_limits wsL_refused := x_gc ggL_limits_L_refused_1 (goodIn_app (goodIn_app (goodIn_app (goodIn_app (goodIn_app (goodIn_app (goodIn_app (goodIn_app ggL_limits_L_refused_5 (goodIn_app ggL_limits_L_refused_6 (goodIn_app ggL_limits_L_refused_7 (goodIn_app ggL_limits_L_refused_10 (goodIn_app ggL_limits_L_refused_11 (goodIn_app ggL_limits_L_refused_12 (goodIn_app ggL_limits_L_refused_13 (goodIn_app ggL_limits_L_refused_14 (goodIn_app ggL_limits_L_refused_15 (goodIn_app ggL_limits_L_refused_16 (goodIn_app ggL_limits_L_refused_17 (goodIn_app ggL_limits_L_refused_18 (goodIn_app ggL_limits_L_refused_19 (goodIn_app ggL_limits_L_refused_20 (goodIn_app ggL_limits_L_refused_21 (goodIn_app ggL_limits_L_refused_22 (goodIn_app ggL_limits_L_refused_23 ggL_limits_L_refused_24))))))))))))))))) ggL_limits_L_refused_25) ggL_limits_L_refused_26) ggL_limits_L_refused_27) ggL_limits_L_refused_28) ggL_limits_L_refused_29) ggL_limits_L_refused_30) ggL_limits_L_refused_31)
