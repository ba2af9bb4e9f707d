set_option maxRecDepth 20000 in
theorem ggL_law_L_mesh_28 : GoodIn wsL_law (wsL_mesh_r20) := goodIn_r _ [460, 461, 462, 463, 464, 465, 466, 467, 468, 469, 470, 471, 472, 473, 474, 475, 476, 477, 478, 479, 480, 481, 482, 483] (by decide +kernel) (by decide +kernel)
set_option maxRecDepth 20000 in
theorem ggL_law_L_mesh_29 : GoodIn wsL_law (wsL_mesh_r21) := goodIn_r _ [484] (by decide +kernel) (by decide +kernel)
set_option maxRecDepth 20000 in
theorem ggL_law_L_mesh_30 : GoodIn wsL_law (wsX60) := goodIn_r _ [533, 534, 535, 536, 537, 538] (by decide +kernel) (by decide +kernel)
set_option maxRecDepth 20000 in
theorem ggL_law_L_mesh_31 : GoodIn wsL_law (wsX30) := goodIn_r _ [539] (by decide +kernel) (by decide +kernel)
set_option maxRecDepth 20000 in
theorem ggL_law_L_mesh_32 : GoodIn wsL_law (wsX00) := goodIn_r _ [540, 541, 542] (by decide +kernel) (by decide +kernel)
set_option maxRecDepth 20000 in
theorem ggL_law_L_mesh_33 : GoodIn wsL_law (wsX40) := goodIn_r _ [543, 544] (by decide +kernel) (by decide +kernel)
set_option maxRecDepth 20000 in
theorem ggL_law_L_mesh_34 : GoodIn wsL_law (wsX10) := goodIn_r _ [545, 546] (by decide +kernel) (by decide +kernel)
set_option maxRecDepth 20000 in
theorem ggL_law_L_mesh_35 : GoodIn wsL_law (wsX20) := goodIn_r _ [547, 548, 549, 550, 551] (by decide +kernel) (by decide +kernel)
set_option maxRecDepth 20000 in
theorem ggL_law_L_mesh_36 : GoodIn wsL_law (wsX50) := goodIn_r _ [552, 553, 554, 555] (by decide +kernel) (by decide +kernel)
