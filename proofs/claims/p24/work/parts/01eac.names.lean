set_option maxRecDepth 20000 in
theorem ggL_refused_L_seen : GoodIn wsL_refused wsL_seen := x_gc ggL_refused_L_seen_1 (goodIn_app (goodIn_app (goodIn_app (goodIn_app (goodIn_app ggL_refused_L_seen_2 (goodIn_app ggL_refused_L_seen_3 (goodIn_app ggL_refused_L_seen_4 ggL_refused_L_seen_5))) ggL_refused_L_seen_6) ggL_refused_L_seen_7) ggL_refused_L_seen_8) ggL_refused_L_seen_9)
