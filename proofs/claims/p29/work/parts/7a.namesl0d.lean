set_option maxRecDepth 20000 in
theorem wsL_law_q15_19 : Cond.code yL_tied cL_tied 13 (some .long) ∈ lw_tbl := List.mem_of_getElem? (i := 621) (by decide +kernel)
set_option maxRecDepth 20000 in
theorem wsL_law_q15_18 : Cond.static yL_tied ∈ lw_tbl := by decide +kernel
set_option maxRecDepth 20000 in
theorem wsL_law_q15_17 : Cond.methodLink RL 95 yL_tied ∈ lw_tbl := by decide +kernel
set_option maxRecDepth 20000 in
theorem wsL_law_q15_16 : Cond.code yL_of cL_of 5 (some .double) ∈ lw_tbl := List.mem_of_getElem? (i := 612) (by decide +kernel)
set_option maxRecDepth 20000 in
theorem wsL_law_q15_15 : Cond.static yL_of ∈ lw_tbl := by decide +kernel
set_option maxRecDepth 20000 in
theorem wsL_law_q15_14 : Cond.methodLink RL 55 yL_of ∈ lw_tbl := by decide +kernel
