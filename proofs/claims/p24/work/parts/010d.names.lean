set_option maxRecDepth 20000 in
theorem x_in_wsL_law_r18 : ∀ w ∈ wsL_law_r18, w ∈ lw_tbl := x_in_by [473, 475, 13, 476, 477, 478, 479, 480, 481, 483, 14, 484, 485, 486, 487, 488, 489, 490, 491, 492, 253, 255, 3, 256] (by decide +kernel)
set_option maxRecDepth 20000 in
theorem x_in_wsL_law_r19 : ∀ w ∈ wsL_law_r19, w ∈ lw_tbl := x_in_by [308, 309, 310, 311, 312, 313, 314, 315, 316, 317, 318, 319, 320, 324, 326, 6, 327, 493, 494, 495, 496, 497, 249, 250] (by decide +kernel)
set_option maxRecDepth 20000 in
theorem x_in_wsL_law_r20 : ∀ w ∈ wsL_law_r20, w ∈ lw_tbl := x_in_by [251, 252, 352, 353, 354, 355, 356, 357, 358, 359, 361, 547, 548, 549, 550, 551, 552, 553, 554, 555, 556, 557, 558, 559] (by decide +kernel)
set_option maxRecDepth 20000 in
theorem x_in_wsL_law_r21_0 : ∀ w ∈ ([Cond.code yX1_codeIn cX1_codeIn 3 (some .int), Cond.methodLink RX1 27 yX1_add, Cond.instanceMethod yX1_add, Cond.selects RX1 yX1_add yX1_add, Cond.code yX1_add cX1_add 2 none, Cond.methodLink RL 163 yL_limits, Cond.static yL_limits] : List Cond), w ∈ lw_tbl := x_in_by [560, 562, 564, 17, 565, 571, 572] (by decide +kernel)
set_option maxRecDepth 20000 in
theorem x_in_wsL_law_r21_1 : (Cond.code yL_limits cL_limits 2 (some .boolean) : Cond) ∈ lw_tbl := List.mem_of_getElem? (i := 573) rfl
set_option maxRecDepth 20000 in
theorem x_in_wsL_law_r21_2 : ∀ w ∈ ([Cond.methodLink RL 166 yL_texts, Cond.static yL_texts] : List Cond), w ∈ lw_tbl := x_in_by [574, 575] (by decide +kernel)
set_option maxRecDepth 20000 in
theorem x_in_wsL_law_r21_3 : (Cond.code yL_texts cL_texts 2 (some .boolean) : Cond) ∈ lw_tbl := List.mem_of_getElem? (i := 576) rfl
set_option maxRecDepth 20000 in
theorem x_in_wsL_law_r21_4 : ∀ w ∈ ([Cond.constantLong RL 104 (43), Cond.constantLong RL 109 (2830640), Cond.constantLong RL 111 (2830636), Cond.constantLong RL 113 (11053), Cond.constantLong RL 115 (7155767), Cond.constantLong RL 117 (1831940144), Cond.constantLong RL 119 (438911775293), Cond.constantLong RL 121 (12157489805143091), Cond.constantLong RL 123 (469111631152), Cond.constantLong RL 125 (120), Cond.constantLong RL 127 (28764530627591481), Cond.constantLong RL 129 (32142226121306975), Cond.constantLong RL 131 (7156027)] : List Cond), w ∈ lw_tbl := x_in_by [581, 586, 587, 588, 589, 590, 591, 592, 593, 594, 595, 596, 597] (by decide +kernel)
set_option maxRecDepth 20000 in
theorem x_in_wsL_law_r21 : ∀ w ∈ wsL_law_r21, w ∈ lw_tbl := by
  show ∀ w ∈ ([Cond.code yX1_codeIn cX1_codeIn 3 (some .int), Cond.methodLink RX1 27 yX1_add, Cond.instanceMethod yX1_add, Cond.selects RX1 yX1_add yX1_add, Cond.code yX1_add cX1_add 2 none, Cond.methodLink RL 163 yL_limits, Cond.static yL_limits] ++ (Cond.code yL_limits cL_limits 2 (some .boolean) :: ([Cond.methodLink RL 166 yL_texts, Cond.static yL_texts] ++ (Cond.code yL_texts cL_texts 2 (some .boolean) :: ([Cond.constantLong RL 104 (43), Cond.constantLong RL 109 (2830640), Cond.constantLong RL 111 (2830636), Cond.constantLong RL 113 (11053), Cond.constantLong RL 115 (7155767), Cond.constantLong RL 117 (1831940144), Cond.constantLong RL 119 (438911775293), Cond.constantLong RL 121 (12157489805143091), Cond.constantLong RL 123 (469111631152), Cond.constantLong RL 125 (120), Cond.constantLong RL 127 (28764530627591481), Cond.constantLong RL 129 (32142226121306975), Cond.constantLong RL 131 (7156027)] ++ []))))), w ∈ lw_tbl
  exact (List.forall_mem_append.mpr ⟨x_in_wsL_law_r21_0, (List.forall_mem_cons.mpr ⟨x_in_wsL_law_r21_1, (List.forall_mem_append.mpr ⟨x_in_wsL_law_r21_2, (List.forall_mem_cons.mpr ⟨x_in_wsL_law_r21_3, (List.forall_mem_append.mpr ⟨x_in_wsL_law_r21_4, fun _ h => absurd h List.not_mem_nil⟩)⟩)⟩)⟩)⟩)
