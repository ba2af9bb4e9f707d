set_option maxRecDepth 20000 in
theorem x_in_wsL_law_r14_2 : ∀ w ∈ ([Cond.methodLink RL 85 yL_seen, Cond.static yL_seen] : List Cond), w ∈ lw_tbl := x_in_by [380, 381] (by decide +kernel)
set_option maxRecDepth 20000 in
theorem x_in_wsL_law_r14_3 : (Cond.code yL_seen cL_seen 4 (some .long) : Cond) ∈ lw_tbl := List.mem_of_getElem? (i := 382) rfl
set_option maxRecDepth 20000 in
theorem x_in_wsL_law_r14_4 : ∀ w ∈ ([Cond.constantLong RL 9 (59), Cond.constantLong RL 11 (31), Cond.methodLink RL 89 yL_refusesAny, Cond.static yL_refusesAny] : List Cond), w ∈ lw_tbl := x_in_by [383, 384, 418, 419] (by decide +kernel)
set_option maxRecDepth 20000 in
theorem x_in_wsL_law_r14_5 : (Cond.code yL_refusesAny cL_refusesAny 5 (some .boolean) : Cond) ∈ lw_tbl := List.mem_of_getElem? (i := 420) rfl
set_option maxRecDepth 20000 in
theorem x_in_wsL_law_r14_6 : ∀ w ∈ ([Cond.constantLong RL 75 (32), Cond.constantLong RL 81 (127), Cond.constantLong RL 83 (11008), Cond.methodLink RL 26 yX6_set, Cond.instanceMethod yX6_set, Cond.selects RX6 yX6_set yX6_set, Cond.code yX6_set cX6_set 3 (some .int), Cond.methodLink RX6 57 yX3_changeSetting, Cond.instanceMethod yX3_changeSetting, Cond.selects RX3 yX3_changeSetting yX3_changeSetting] : List Cond), w ∈ lw_tbl := x_in_by [546, 566, 567, 149, 150, 151, 152, 164, 165, 166] (by decide +kernel)
set_option maxRecDepth 20000 in
theorem x_in_wsL_law_r14 : ∀ w ∈ wsL_law_r14, w ∈ lw_tbl := by
  show ∀ w ∈ ([Cond.instanceMethod yX5_tears, Cond.selects RX5 yX5_tears yX5_tears, Cond.code yX5_tears cX5_tears 9 (some .boolean), Cond.methodLink RL 97 yL_refused, Cond.static yL_refused] ++ (Cond.code yL_refused cL_refused 4 (some .boolean) :: ([Cond.methodLink RL 85 yL_seen, Cond.static yL_seen] ++ (Cond.code yL_seen cL_seen 4 (some .long) :: ([Cond.constantLong RL 9 (59), Cond.constantLong RL 11 (31), Cond.methodLink RL 89 yL_refusesAny, Cond.static yL_refusesAny] ++ (Cond.code yL_refusesAny cL_refusesAny 5 (some .boolean) :: ([Cond.constantLong RL 75 (32), Cond.constantLong RL 81 (127), Cond.constantLong RL 83 (11008), Cond.methodLink RL 26 yX6_set, Cond.instanceMethod yX6_set, Cond.selects RX6 yX6_set yX6_set, Cond.code yX6_set cX6_set 3 (some .int), Cond.methodLink RX6 57 yX3_changeSetting, Cond.instanceMethod yX3_changeSetting, Cond.selects RX3 yX3_changeSetting yX3_changeSetting] ++ []))))))), w ∈ lw_tbl
  exact (List.forall_mem_append.mpr ⟨x_in_wsL_law_r14_0, (List.forall_mem_cons.mpr ⟨x_in_wsL_law_r14_1, (List.forall_mem_append.mpr ⟨x_in_wsL_law_r14_2, (List.forall_mem_cons.mpr ⟨x_in_wsL_law_r14_3, (List.forall_mem_append.mpr ⟨x_in_wsL_law_r14_4, (List.forall_mem_cons.mpr ⟨x_in_wsL_law_r14_5, (List.forall_mem_append.mpr ⟨x_in_wsL_law_r14_6, fun _ h => absurd h List.not_mem_nil⟩)⟩)⟩)⟩)⟩)⟩)⟩)
set_option maxRecDepth 20000 in
theorem x_in_wsL_law_r15 : ∀ w ∈ wsL_law_r15, w ∈ lw_tbl := x_in_by [167, 171, 233, 234, 235, 236, 237, 238, 239, 240, 241, 242, 243, 244, 245, 246, 247, 248, 421, 422, 423, 424, 425, 426] (by decide +kernel)
set_option maxRecDepth 20000 in
theorem x_in_wsL_law_r16 : ∀ w ∈ wsL_law_r16, w ∈ lw_tbl := x_in_by [427, 428, 99, 429, 430, 431, 432, 433, 434, 435, 436, 97, 98, 437, 438, 439, 440, 441, 442, 443, 444, 445, 447, 7] (by decide +kernel)
set_option maxRecDepth 20000 in
theorem x_in_wsL_law_r17 : ∀ w ∈ wsL_law_r17, w ∈ lw_tbl := x_in_by [448, 449, 451, 8, 452, 453, 455, 9, 456, 458, 460, 10, 461, 462, 464, 11, 465, 466, 468, 12, 469, 470, 471, 472] (by decide +kernel)
