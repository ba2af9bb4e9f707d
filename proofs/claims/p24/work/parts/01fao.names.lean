set_option maxRecDepth 20000 in
theorem ggL_law_L_texts_19 : GoodIn wsL_law (wsX60) := goodIn_r _ [533, 534, 535, 536, 537, 538] (by decide +kernel) (by decide +kernel)
set_option maxRecDepth 20000 in
theorem ggL_law_L_texts_20 : GoodIn wsL_law (wsX30) := goodIn_r _ [539] (by decide +kernel) (by decide +kernel)
set_option maxRecDepth 20000 in
theorem ggL_law_L_texts_21 : GoodIn wsL_law (wsX00) := goodIn_r _ [540, 541, 542] (by decide +kernel) (by decide +kernel)
set_option maxRecDepth 20000 in
theorem ggL_law_L_texts_22 : GoodIn wsL_law (wsX40) := goodIn_r _ [543, 544] (by decide +kernel) (by decide +kernel)
set_option maxRecDepth 20000 in
theorem ggL_law_L_texts_23 : GoodIn wsL_law (wsX10) := goodIn_r _ [545, 546] (by decide +kernel) (by decide +kernel)
set_option maxRecDepth 20000 in
theorem ggL_law_L_texts_24 : GoodIn wsL_law (wsX20) := goodIn_r _ [547, 548, 549, 550, 551] (by decide +kernel) (by decide +kernel)
set_option maxRecDepth 20000 in
theorem ggL_law_L_texts_25 : GoodIn wsL_law (wsX50) := goodIn_r _ [552, 553, 554, 555] (by decide +kernel) (by decide +kernel)
set_option maxRecDepth 20000 in
theorem ggL_law_L_texts : GoodIn wsL_law wsL_texts := x_gc ggL_law_L_texts_1 (goodIn_app (goodIn_app (goodIn_app (goodIn_app (goodIn_app (goodIn_app (goodIn_app (goodIn_app ggL_law_L_texts_2 (goodIn_app ggL_law_L_texts_3 (goodIn_app ggL_law_L_texts_4 (goodIn_app ggL_law_L_texts_5 (goodIn_app ggL_law_L_texts_6 (goodIn_app ggL_law_L_texts_7 (goodIn_app ggL_law_L_texts_8 (goodIn_app ggL_law_L_texts_9 (goodIn_app ggL_law_L_texts_10 (goodIn_app ggL_law_L_texts_11 (goodIn_app ggL_law_L_texts_12 (goodIn_app ggL_law_L_texts_13 (goodIn_app ggL_law_L_texts_14 (goodIn_app ggL_law_L_texts_15 (goodIn_app ggL_law_L_texts_16 (goodIn_app ggL_law_L_texts_17 ggL_law_L_texts_18)))))))))))))))) ggL_law_L_texts_19) ggL_law_L_texts_20) ggL_law_L_texts_21) ggL_law_L_texts_22) ggL_law_L_texts_23) ggL_law_L_texts_24) ggL_law_L_texts_25)
