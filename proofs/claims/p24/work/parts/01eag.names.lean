set_option maxRecDepth 20000 in
theorem ggL_refused_L_refusesAny_19 : GoodIn wsL_refused (wsL_refusesAny_r18) := goodIn_r _ [418, 419, 420, 421, 422, 423, 424, 425, 426, 427, 428] (by decide +kernel) (by decide +kernel)
set_option maxRecDepth 20000 in
theorem ggL_refused_L_refusesAny_20 : GoodIn wsL_refused (wsX60) := goodIn_r _ [429, 430, 431, 432, 433, 434] (by decide +kernel) (by decide +kernel)
set_option maxRecDepth 20000 in
theorem ggL_refused_L_refusesAny_21 : GoodIn wsL_refused (wsX10) := goodIn_r _ [435, 436] (by decide +kernel) (by decide +kernel)
set_option maxRecDepth 20000 in
theorem ggL_refused_L_refusesAny_22 : GoodIn wsL_refused (wsX00) := goodIn_r _ [437, 438, 439] (by decide +kernel) (by decide +kernel)
set_option maxRecDepth 20000 in
theorem ggL_refused_L_refusesAny_23 : GoodIn wsL_refused (wsX30) := goodIn_r _ [440] (by decide +kernel) (by decide +kernel)
set_option maxRecDepth 20000 in
theorem ggL_refused_L_refusesAny_24 : GoodIn wsL_refused (wsX20) := goodIn_r _ [441, 442, 443, 444, 445] (by decide +kernel) (by decide +kernel)
set_option maxRecDepth 20000 in
theorem ggL_refused_L_refusesAny_25 : GoodIn wsL_refused (wsX50) := goodIn_r _ [446, 447, 448, 449] (by decide +kernel) (by decide +kernel)
set_option maxRecDepth 20000 in
theorem ggL_refused_L_refusesAny_26 : GoodIn wsL_refused (wsX40) := goodIn_r _ [450, 451] (by decide +kernel) (by decide +kernel)
set_option maxRecDepth 20000 in
theorem ggL_refused_L_refusesAny : GoodIn wsL_refused wsL_refusesAny := x_gc ggL_refused_L_refusesAny_1 (goodIn_app (goodIn_app (goodIn_app (goodIn_app (goodIn_app (goodIn_app (goodIn_app (goodIn_app ggL_refused_L_refusesAny_2 (goodIn_app ggL_refused_L_refusesAny_3 (goodIn_app ggL_refused_L_refusesAny_4 (goodIn_app ggL_refused_L_refusesAny_5 (goodIn_app ggL_refused_L_refusesAny_6 (goodIn_app ggL_refused_L_refusesAny_7 (goodIn_app ggL_refused_L_refusesAny_8 (goodIn_app ggL_refused_L_refusesAny_9 (goodIn_app ggL_refused_L_refusesAny_10 (goodIn_app ggL_refused_L_refusesAny_11 (goodIn_app ggL_refused_L_refusesAny_12 (goodIn_app ggL_refused_L_refusesAny_13 (goodIn_app ggL_refused_L_refusesAny_14 (goodIn_app ggL_refused_L_refusesAny_15 (goodIn_app ggL_refused_L_refusesAny_16 (goodIn_app ggL_refused_L_refusesAny_17 (goodIn_app ggL_refused_L_refusesAny_18 ggL_refused_L_refusesAny_19))))))))))))))))) ggL_refused_L_refusesAny_20) ggL_refused_L_refusesAny_21) ggL_refused_L_refusesAny_22) ggL_refused_L_refusesAny_23) ggL_refused_L_refusesAny_24) ggL_refused_L_refusesAny_25) ggL_refused_L_refusesAny_26)
