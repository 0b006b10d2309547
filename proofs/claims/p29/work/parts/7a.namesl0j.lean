set_option maxRecDepth 20000 in
theorem wsL_law_q21_13 : Cond.code yL_same cL_same 31 (some .boolean) ∈ lw_tbl := List.mem_of_getElem? (i := 753) rfl
set_option maxRecDepth 20000 in
theorem wsL_law_q21_12 : Cond.static yL_same ∈ lw_tbl := by decide +kernel
set_option maxRecDepth 20000 in
theorem wsL_law_q21_11 : Cond.methodLink RL 201 yL_same ∈ lw_tbl := by decide +kernel
set_option maxRecDepth 20000 in
theorem wsL_law_q21_10 : Cond.constantLong RX0 53 (1000) ∈ lw_tbl := by decide +kernel
set_option maxRecDepth 20000 in
theorem wsL_law_q21_9 : Cond.code yX0_isTriggeredBy cX0_isTriggeredBy 3 (some .boolean) ∈ lw_tbl := List.mem_of_getElem? (i := 745) (by decide +kernel)
set_option maxRecDepth 20000 in
theorem wsL_law_q21_8 : Cond.selects RX0 yX0_isTriggeredBy yX0_isTriggeredBy ∈ lw_tbl := by decide +kernel
