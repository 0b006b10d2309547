set_option maxRecDepth 20000 in
theorem wsL_law_q15_7 : Cond.static yL_base ∈ lw_tbl := by decide +kernel
set_option maxRecDepth 20000 in
theorem wsL_law_q15_6 : Cond.methodLink RL 47 yL_base ∈ lw_tbl := by decide +kernel
set_option maxRecDepth 20000 in
theorem wsL_law_q15_5 : Cond.code yL_rate cL_rate 6 (some .double) ∈ lw_tbl := List.mem_of_getElem? (i := 601) (by decide +kernel)
set_option maxRecDepth 20000 in
theorem wsL_law_q15_4 : Cond.static yL_rate ∈ lw_tbl := by decide +kernel
set_option maxRecDepth 20000 in
theorem wsL_law_q15_3 : Cond.methodLink RL 43 yL_rate ∈ lw_tbl := by decide +kernel
set_option maxRecDepth 20000 in
theorem wsL_law_q15_2 : Cond.code yL_goes cL_goes 50 (some .double) ∈ lw_tbl := List.mem_of_getElem? (i := 598) rfl
