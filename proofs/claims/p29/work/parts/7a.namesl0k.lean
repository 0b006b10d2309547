set_option maxRecDepth 20000 in
theorem wsL_law_q21_7 : Cond.instanceMethod yX0_isTriggeredBy ∈ lw_tbl := by decide +kernel
set_option maxRecDepth 20000 in
theorem wsL_law_q21_6 : Cond.methodLink RX0 41 yX0_isTriggeredBy ∈ lw_tbl := by decide +kernel
set_option maxRecDepth 20000 in
theorem wsL_law_q21_5 : Cond.code Lib.MathLoose.min_long.x Lib.MathLoose.min_long.code 4 (some .long) ∈ lw_tbl := List.mem_of_getElem? (i := 750) (by decide +kernel)
set_option maxRecDepth 20000 in
theorem wsL_law_q21_4 : Cond.static Lib.MathLoose.min_long.x ∈ lw_tbl := by decide +kernel
set_option maxRecDepth 20000 in
theorem wsL_law_q21_3 : Cond.methodLink RX0 47 Lib.MathLoose.min_long.x ∈ lw_tbl := by decide +kernel
set_option maxRecDepth 20000 in
theorem wsL_law_q21_2 : Cond.constantLong RX0 45 (1000000000) ∈ lw_tbl := by decide +kernel
