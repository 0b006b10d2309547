set_option maxRecDepth 20000 in
theorem wsL_law_q21_19 : Cond.code yX6_count cX6_count 2 (some .int) ∈ lw_tbl := List.mem_of_getElem? (i := 757) (by decide +kernel)
set_option maxRecDepth 20000 in
theorem wsL_law_q21_18 : Cond.selects RX6 yX6_count yX6_count ∈ lw_tbl := by decide +kernel
set_option maxRecDepth 20000 in
theorem wsL_law_q21_17 : Cond.instanceMethod yX6_count ∈ lw_tbl := by decide +kernel
set_option maxRecDepth 20000 in
theorem wsL_law_q21_16 : Cond.methodLink RL 103 yX6_count ∈ lw_tbl := by decide +kernel
set_option maxRecDepth 20000 in
theorem wsL_law_q21_15 : Cond.constantDouble RL 138 (4611686018427387904) ∈ lw_tbl := by decide +kernel
set_option maxRecDepth 20000 in
theorem wsL_law_q21_14 : Cond.constantDouble RL 129 (9094988921128908188) ∈ lw_tbl := by decide +kernel
