set_option maxRecDepth 20000 in
theorem wsL_law_q15_13 : Cond.constantDouble RL 41 (4613937818241073152) ∈ lw_tbl := by decide +kernel
set_option maxRecDepth 20000 in
theorem wsL_law_q15_12 : Cond.constantDouble RL 39 (4629137466983448576) ∈ lw_tbl := by decide +kernel
set_option maxRecDepth 20000 in
theorem wsL_law_q15_11 : Cond.code yL_matched cL_matched 8 (some .boolean) ∈ lw_tbl := List.mem_of_getElem? (i := 607) (by decide +kernel)
set_option maxRecDepth 20000 in
theorem wsL_law_q15_10 : Cond.static yL_matched ∈ lw_tbl := by decide +kernel
set_option maxRecDepth 20000 in
theorem wsL_law_q15_9 : Cond.methodLink RL 51 yL_matched ∈ lw_tbl := by decide +kernel
set_option maxRecDepth 20000 in
theorem wsL_law_q15_8 : Cond.code yL_base cL_base 5 (some .double) ∈ lw_tbl := List.mem_of_getElem? (i := 604) (by decide +kernel)
