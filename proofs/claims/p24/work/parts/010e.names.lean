set_option maxRecDepth 20000 in
theorem x_in_wsL_law_r22_0 : ∀ w ∈ ([Cond.constantLong RL 133 (112361414475053), Cond.constantLong RL 135 (28764522105616689), Cond.constantLong RL 137 (8228409887054585652), Cond.constantLong RL 139 (976562742), Cond.constantLong RL 141 (3112598877877645612), Cond.constantLong RL 143 (3475419010561749036), Cond.constantLong RL 145 (3543256692012757039), Cond.constantLong RL 147 (3548889691773874986), Cond.constantLong RL 149 (3763714270717558061), Cond.constantLong RL 151 (4124009942001332539), Cond.constantLong RL 153 (27952), Cond.constantLong RL 155 (7868135364173196595), Cond.constantLong RL 157 (52), Cond.methodLink RL 101 yX6_fault, Cond.instanceMethod yX6_fault, Cond.selects RX6 yX6_fault yX6_fault, Cond.code yX6_fault cX6_fault 1 (some .int), Cond.methodLink RL 106 yX6_wipe, Cond.instanceMethod yX6_wipe, Cond.selects RX6 yX6_wipe yX6_wipe, Cond.code yX6_wipe cX6_wipe 1 (some .int), Cond.methodLink RL 169 yL_drawn, Cond.static yL_drawn] : List Cond), w ∈ lw_tbl := x_in_by [598, 599, 600, 601, 602, 603, 604, 605, 606, 607, 608, 609, 610, 577, 578, 579, 580, 582, 583, 584, 585, 376, 377] (by decide +kernel)
set_option maxRecDepth 20000 in
theorem x_in_wsL_law_r22_1 : (Cond.code yL_drawn cL_drawn 2 (some .int) : Cond) ∈ lw_tbl := List.mem_of_getElem? (i := 378) rfl
set_option maxRecDepth 20000 in
theorem x_in_wsL_law_r22 : ∀ w ∈ wsL_law_r22, w ∈ lw_tbl := by
  show ∀ w ∈ ([Cond.constantLong RL 133 (112361414475053), Cond.constantLong RL 135 (28764522105616689), Cond.constantLong RL 137 (8228409887054585652), Cond.constantLong RL 139 (976562742), Cond.constantLong RL 141 (3112598877877645612), Cond.constantLong RL 143 (3475419010561749036), Cond.constantLong RL 145 (3543256692012757039), Cond.constantLong RL 147 (3548889691773874986), Cond.constantLong RL 149 (3763714270717558061), Cond.constantLong RL 151 (4124009942001332539), Cond.constantLong RL 153 (27952), Cond.constantLong RL 155 (7868135364173196595), Cond.constantLong RL 157 (52), Cond.methodLink RL 101 yX6_fault, Cond.instanceMethod yX6_fault, Cond.selects RX6 yX6_fault yX6_fault, Cond.code yX6_fault cX6_fault 1 (some .int), Cond.methodLink RL 106 yX6_wipe, Cond.instanceMethod yX6_wipe, Cond.selects RX6 yX6_wipe yX6_wipe, Cond.code yX6_wipe cX6_wipe 1 (some .int), Cond.methodLink RL 169 yL_drawn, Cond.static yL_drawn] ++ (Cond.code yL_drawn cL_drawn 2 (some .int) :: [])), w ∈ lw_tbl
  exact (List.forall_mem_append.mpr ⟨x_in_wsL_law_r22_0, (List.forall_mem_cons.mpr ⟨x_in_wsL_law_r22_1, fun _ h => absurd h List.not_mem_nil⟩)⟩)
set_option maxRecDepth 20000 in
theorem x_in_wsL_law_r23_0 : ∀ w ∈ ([Cond.constant RL 8 (2654435), Cond.methodLink RL 173 yL_part, Cond.static yL_part] : List Cond), w ∈ lw_tbl := x_in_by [379, 372, 373] (by decide +kernel)
set_option maxRecDepth 20000 in
theorem x_in_wsL_law_r23_1 : (Cond.code yL_part cL_part 2 (some .int) : Cond) ∈ lw_tbl := List.mem_of_getElem? (i := 374) rfl
set_option maxRecDepth 20000 in
theorem x_in_wsL_law_r23_2 : ∀ w ∈ ([Cond.constant RL 7 (2147483647)] : List Cond), w ∈ lw_tbl := x_in_by [375] (by decide +kernel)
set_option maxRecDepth 20000 in
theorem x_in_wsL_law_r23 : ∀ w ∈ wsL_law_r23, w ∈ lw_tbl := by
  show ∀ w ∈ ([Cond.constant RL 8 (2654435), Cond.methodLink RL 173 yL_part, Cond.static yL_part] ++ (Cond.code yL_part cL_part 2 (some .int) :: ([Cond.constant RL 7 (2147483647)] ++ []))), w ∈ lw_tbl
  exact (List.forall_mem_append.mpr ⟨x_in_wsL_law_r23_0, (List.forall_mem_cons.mpr ⟨x_in_wsL_law_r23_1, (List.forall_mem_append.mpr ⟨x_in_wsL_law_r23_2, fun _ h => absurd h List.not_mem_nil⟩)⟩)⟩)
set_option maxRecDepth 20000 in
theorem x_in_wsX60 : ∀ w ∈ wsX60, w ∈ lw_tbl := by decide +kernel
set_option maxRecDepth 20000 in
theorem x_in_wsX30 : ∀ w ∈ wsX30, w ∈ lw_tbl := by decide +kernel
