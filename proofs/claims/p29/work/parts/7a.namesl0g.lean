set_option maxRecDepth 20000 in
theorem wsL_law_q15_1 : Cond.static yL_goes ∈ lw_tbl := by decide +kernel
set_option maxRecDepth 20000 in
theorem wsL_law_q15_0 : Cond.methodLink RL 59 yL_goes ∈ lw_tbl := by decide +kernel
theorem wsL_law_q15 : ∀ w ∈ wsL_law0_r15, w ∈ lw_tbl := by
  rw [wsL_law0_r15]
  exact List.forall_mem_cons.mpr ⟨wsL_law_q15_0, List.forall_mem_cons.mpr ⟨wsL_law_q15_1, List.forall_mem_cons.mpr ⟨wsL_law_q15_2, List.forall_mem_cons.mpr ⟨wsL_law_q15_3, List.forall_mem_cons.mpr ⟨wsL_law_q15_4, List.forall_mem_cons.mpr ⟨wsL_law_q15_5, List.forall_mem_cons.mpr ⟨wsL_law_q15_6, List.forall_mem_cons.mpr ⟨wsL_law_q15_7, List.forall_mem_cons.mpr ⟨wsL_law_q15_8, List.forall_mem_cons.mpr ⟨wsL_law_q15_9, List.forall_mem_cons.mpr ⟨wsL_law_q15_10, List.forall_mem_cons.mpr ⟨wsL_law_q15_11, List.forall_mem_cons.mpr ⟨wsL_law_q15_12, List.forall_mem_cons.mpr ⟨wsL_law_q15_13, List.forall_mem_cons.mpr ⟨wsL_law_q15_14, List.forall_mem_cons.mpr ⟨wsL_law_q15_15, List.forall_mem_cons.mpr ⟨wsL_law_q15_16, List.forall_mem_cons.mpr ⟨wsL_law_q15_17, List.forall_mem_cons.mpr ⟨wsL_law_q15_18, List.forall_mem_cons.mpr ⟨wsL_law_q15_19, List.forall_mem_cons.mpr ⟨wsL_law_q15_20, List.forall_mem_cons.mpr ⟨wsL_law_q15_21, List.forall_mem_cons.mpr ⟨wsL_law_q15_22, List.forall_mem_cons.mpr ⟨wsL_law_q15_23, fun _ h => absurd h List.not_mem_nil⟩⟩⟩⟩⟩⟩⟩⟩⟩⟩⟩⟩⟩⟩⟩⟩⟩⟩⟩⟩⟩⟩⟩⟩
set_option maxRecDepth 20000 in
theorem wsL_law_q16 : ∀ w ∈ wsL_law0_r16, w ∈ lw_tbl := fun w h => (goodIn_p wsL_law0_r16 [628, 632, 636, 640, 645] (by decide +kernel) (by decide +kernel) w h).1
set_option maxRecDepth 20000 in
theorem wsL_law_q17 : ∀ w ∈ wsL_law0_r17, w ∈ lw_tbl := fun w h => (goodIn_p wsL_law0_r17 [649, 653, 658, 662, 667] (by decide +kernel) (by decide +kernel) w h).1
set_option maxRecDepth 20000 in
theorem wsL_law_q18 : ∀ w ∈ wsL_law0_r18, w ∈ lw_tbl := fun w h => (goodIn_p wsL_law0_r18 [671, 675, 679, 684, 688] (by decide +kernel) (by decide +kernel) w h).1
