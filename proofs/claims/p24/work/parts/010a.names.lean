theorem x_in_by {big ws : List Cond} (ps : List Nat) (h : ws = ps.filterMap (fun i => big[i]?)) : ∀ w ∈ ws, w ∈ big := by
  intro w hw
  rw [h] at hw
  obtain ⟨i, -, hi⟩ := List.mem_filterMap.mp hw
  exact List.mem_of_getElem? hi
set_option maxRecDepth 20000 in
theorem x_in_wsL_law_r1_0 : ∀ w ∈ ([Cond.classLink RL 14 RX6, Cond.instantiable RX6 6, Cond.initialized RX6, Cond.arrayClass .long, Cond.methodLink RL 159 yL_mesh, Cond.static yL_mesh, Cond.initialized RL] : List Cond), w ∈ lw_tbl := x_in_by [28, 29, 19, 611, 568, 569, 18] (by decide +kernel)
set_option maxRecDepth 20000 in
theorem x_in_wsL_law_r1_1 : (Cond.code yL_mesh cL_mesh 1 (some .boolean) : Cond) ∈ lw_tbl := List.mem_of_getElem? (i := 570) rfl
set_option maxRecDepth 20000 in
theorem x_in_wsL_law_r1_2 : ∀ w ∈ ([Cond.methodLink RL 93 yX6_init, Cond.instanceMethod yX6_init, Cond.code yX6_init cX6_init 1 none, Cond.methodLink RX6 1 objectInit, Cond.instanceMethod objectInit, Cond.code objectInit ⟨#[0xb1]⟩ 1 none, Cond.classLink RX6 7 RX3, Cond.instantiable RX3 1, Cond.initialized RX3, Cond.fieldLink RX6 10 "RollerMesh" "shop" "LRollerMesh$Shop;", Cond.classLink RX6 16 RX0, Cond.instantiable RX0 3, Cond.initialized RX0, Cond.fieldLink RX6 19 "RollerMesh" "history" "LRollerMesh$History;", Cond.classLink RX6 23 RX4, Cond.instantiable RX4 2] : List Cond), w ∈ lw_tbl := x_in_by [30, 31, 32, 33, 34, 35, 36, 37, 20, 130, 47, 48, 21, 131, 63, 64] (by decide +kernel)
set_option maxRecDepth 20000 in
theorem x_in_wsL_law_r1 : ∀ w ∈ wsL_law_r1, w ∈ lw_tbl := by
  show ∀ w ∈ ([Cond.classLink RL 14 RX6, Cond.instantiable RX6 6, Cond.initialized RX6, Cond.arrayClass .long, Cond.methodLink RL 159 yL_mesh, Cond.static yL_mesh, Cond.initialized RL] ++ (Cond.code yL_mesh cL_mesh 1 (some .boolean) :: ([Cond.methodLink RL 93 yX6_init, Cond.instanceMethod yX6_init, Cond.code yX6_init cX6_init 1 none, Cond.methodLink RX6 1 objectInit, Cond.instanceMethod objectInit, Cond.code objectInit ⟨#[0xb1]⟩ 1 none, Cond.classLink RX6 7 RX3, Cond.instantiable RX3 1, Cond.initialized RX3, Cond.fieldLink RX6 10 "RollerMesh" "shop" "LRollerMesh$Shop;", Cond.classLink RX6 16 RX0, Cond.instantiable RX0 3, Cond.initialized RX0, Cond.fieldLink RX6 19 "RollerMesh" "history" "LRollerMesh$History;", Cond.classLink RX6 23 RX4, Cond.instantiable RX4 2] ++ []))), w ∈ lw_tbl
  exact (List.forall_mem_append.mpr ⟨x_in_wsL_law_r1_0, (List.forall_mem_cons.mpr ⟨x_in_wsL_law_r1_1, (List.forall_mem_append.mpr ⟨x_in_wsL_law_r1_2, fun _ h => absurd h List.not_mem_nil⟩)⟩)⟩)
set_option maxRecDepth 20000 in
theorem x_in_wsL_law_r2 : ∀ w ∈ wsL_law_r2, w ∈ lw_tbl := x_in_by [22, 132, 76, 77, 23, 133, 89, 90, 24, 134, 111, 112, 25, 135, 38, 39, 40, 41, 46, 42, 50, 51, 52, 53] (by decide +kernel)
set_option maxRecDepth 20000 in
theorem x_in_wsL_law_r3 : ∀ w ∈ wsL_law_r3, w ∈ lw_tbl := x_in_by [66, 67, 68, 69, 79, 80, 81, 82, 91, 92, 93, 94, 96, 95, 114, 115, 116, 117, 340, 341, 342, 343, 344, 345] (by decide +kernel)
set_option maxRecDepth 20000 in
theorem x_in_wsL_law_r4 : ∀ w ∈ wsL_law_r4, w ∈ lw_tbl := x_in_by [346, 347, 55, 54, 348, 349, 350, 351, 161, 163, 162, 26, 363, 364, 365, 366, 153, 154, 155, 156, 157, 158, 159, 160] (by decide +kernel)
set_option maxRecDepth 20000 in
theorem x_in_wsL_law_r5 : ∀ w ∈ wsL_law_r5, w ∈ lw_tbl := x_in_by [367, 368, 369, 370, 70, 169, 170, 371, 362, 176, 177, 178, 183, 184, 185, 186, 187, 188, 27, 189, 328, 329, 330, 331] (by decide +kernel)
set_option maxRecDepth 20000 in
theorem x_in_wsL_law_r6 : ∀ w ∈ wsL_law_r6, w ∈ lw_tbl := x_in_by [262, 332, 333, 334, 335, 83, 336, 337, 338, 339, 300, 190, 191, 192, 193, 194, 195, 196, 197, 175, 198, 199, 200, 179] (by decide +kernel)
