set_option maxRecDepth 20000 in
theorem wsL_law_q21_1 : Cond.code yX0_pay cX0_pay 4 none ∈ lw_tbl := List.mem_of_getElem? (i := 741) (by decide +kernel)
set_option maxRecDepth 20000 in
theorem wsL_law_q21_0 : Cond.selects RX0 yX0_pay yX0_pay ∈ lw_tbl := by decide +kernel
theorem wsL_law_q21 : ∀ w ∈ wsL_law0_r21, w ∈ lw_tbl := by
  rw [wsL_law0_r21]
  exact List.forall_mem_cons.mpr ⟨wsL_law_q21_0, List.forall_mem_cons.mpr ⟨wsL_law_q21_1, List.forall_mem_cons.mpr ⟨wsL_law_q21_2, List.forall_mem_cons.mpr ⟨wsL_law_q21_3, List.forall_mem_cons.mpr ⟨wsL_law_q21_4, List.forall_mem_cons.mpr ⟨wsL_law_q21_5, List.forall_mem_cons.mpr ⟨wsL_law_q21_6, List.forall_mem_cons.mpr ⟨wsL_law_q21_7, List.forall_mem_cons.mpr ⟨wsL_law_q21_8, List.forall_mem_cons.mpr ⟨wsL_law_q21_9, List.forall_mem_cons.mpr ⟨wsL_law_q21_10, List.forall_mem_cons.mpr ⟨wsL_law_q21_11, List.forall_mem_cons.mpr ⟨wsL_law_q21_12, List.forall_mem_cons.mpr ⟨wsL_law_q21_13, List.forall_mem_cons.mpr ⟨wsL_law_q21_14, List.forall_mem_cons.mpr ⟨wsL_law_q21_15, List.forall_mem_cons.mpr ⟨wsL_law_q21_16, List.forall_mem_cons.mpr ⟨wsL_law_q21_17, List.forall_mem_cons.mpr ⟨wsL_law_q21_18, List.forall_mem_cons.mpr ⟨wsL_law_q21_19, List.forall_mem_cons.mpr ⟨wsL_law_q21_20, List.forall_mem_cons.mpr ⟨wsL_law_q21_21, List.forall_mem_cons.mpr ⟨wsL_law_q21_22, List.forall_mem_cons.mpr ⟨wsL_law_q21_23, fun _ h => absurd h List.not_mem_nil⟩⟩⟩⟩⟩⟩⟩⟩⟩⟩⟩⟩⟩⟩⟩⟩⟩⟩⟩⟩⟩⟩⟩⟩
set_option maxRecDepth 20000 in
theorem wsL_law_q22 : ∀ w ∈ wsL_law0_r22, w ∈ lw_tbl := fun w h => (goodIn_p wsL_law0_r22 [765, 770, 774, 779, 783, 787] (by decide +kernel) (by decide +kernel) w h).1
set_option maxRecDepth 20000 in
theorem wsL_law_q23 : ∀ w ∈ wsL_law0_r23, w ∈ lw_tbl := fun w h => (goodIn_p wsL_law0_r23 [792, 798, 802, 806, 810] (by decide +kernel) (by decide +kernel) w h).1
set_option maxRecDepth 20000 in
theorem wsL_law_q24 : ∀ w ∈ wsL_law0_r24, w ∈ lw_tbl := fun w h => (goodIn_p wsL_law0_r24 [816, 821, 825, 829, 833, 837] (by decide +kernel) (by decide +kernel) w h).1
