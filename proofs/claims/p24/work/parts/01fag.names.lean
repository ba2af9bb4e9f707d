set_option maxRecDepth 20000 in
theorem gL_law_L_mesh : GoodIn wsL_law (va_wsS RL 159 yL_mesh wsL_mesh) := goodIn_app (goodIn_of _ (by decide +kernel)) ggL_law_L_mesh
