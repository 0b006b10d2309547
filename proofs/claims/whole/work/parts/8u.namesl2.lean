set_option maxRecDepth 20000 in
theorem gL_index_X6_index : GoodIn wsL_index (wsV RL 66 RX6 yX6_index wsX6_index) := goodIn_app (goodIn_of _ (by decide +kernel)) ggL_index_X6_index
theorem dL_index_0 : decode cL_index 0 = .ok (.aload_n 3, 1) := by decide +kernel
theorem dL_index_1 : decode cL_index 1 = .ok (.iconst 0, 1) := by decide +kernel
theorem dL_index_2 : decode cL_index 2 = .ok (.aload_n 0, 1) := by decide +kernel
theorem dL_index_3 : decode cL_index 3 = .ok (.iload_n 1, 1) := by decide +kernel
theorem dL_index_4 : decode cL_index 4 = .ok (.iload_n 2, 1) := by decide +kernel
theorem dL_index_5 : decode cL_index 5 = .ok (.invokevirtual 66, 3) := by decide +kernel
theorem dL_index_8 : decode cL_index 8 = .ok (.dastore, 1) := by decide +kernel
theorem dL_index_9 : decode cL_index 9 = .ok (.goto 7, 3) := by decide +kernel
theorem dL_index_12 : decode cL_index 12 = .ok (.astore 4, 2) := by decide +kernel
theorem dL_index_14 : decode cL_index 14 = .ok (.iconst 1, 1) := by decide +kernel
theorem dL_index_15 : decode cL_index 15 = .ok (.ireturn, 1) := by decide +kernel
theorem dL_index_16 : decode cL_index 16 = .ok (.iconst 0, 1) := by decide +kernel
theorem dL_index_17 : decode cL_index 17 = .ok (.ireturn, 1) := by decide +kernel
set_option maxRecDepth 20000 in
theorem ggL_indexAnew_X6_indexAnew : GoodIn wsL_indexAnew wsX6_indexAnew := goodIn_ca (goodIn_r _ [6, 7, 8, 9, 5, 10, 11, 12, 13, 14, 15, 16, 17, 18, 19, 20, 21, 22, 23, 24, 25, 26, 27, 28, 29, 30, 31, 32, 33, 34, 35, 36, 37, 38, 39, 40, 41, 42, 43, 44, 45, 46, 47, 48, 49, 50, 51, 52, 53, 54, 55, 56, 57, 58, 59, 60, 61, 62, 63, 64, 65, 66, 67, 68, 69, 70, 71, 72, 73, 74, 75, 76, 77, 78, 79, 80, 81, 82, 83, 84, 85, 86, 87, 88, 89, 90, 91, 92, 93, 94, 95, 96, 97, 98, 99, 100, 101, 102, 103, 104, 105, 106, 107, 108, 109, 110, 111, 112, 113, 114, 115, 116, 117, 118, 119, 120, 121, 122, 123, 124, 125, 126, 127, 128, 129, 130, 131, 132, 133, 134, 135, 136, 137, 138, 139, 140, 141, 142, 143, 144, 145, 146, 147, 148, 149, 150, 151, 152, 153, 154, 155, 156, 157, 158, 159, 160, 161, 162, 163, 164, 165, 166, 167, 168, 169, 170, 171, 172, 173, 174, 175, 176, 177, 178, 179, 180, 181, 182, 183, 184, 185, 186, 187, 188, 189, 190] (by decide +kernel) (by decide +kernel)) (goodIn_sub (fun _ h => List.mem_cons_of_mem _ (List.mem_append_right _ h)) (by decide +kernel))
set_option maxRecDepth 20000 in
theorem gL_indexAnew_X6_indexAnew : GoodIn wsL_indexAnew (wsV RL 69 RX6 yX6_indexAnew wsX6_indexAnew) := goodIn_app (goodIn_of _ (by decide +kernel)) ggL_indexAnew_X6_indexAnew
theorem dL_indexAnew_0 : decode cL_indexAnew 0 = .ok (.aload_n 3, 1) := by decide +kernel
theorem dL_indexAnew_1 : decode cL_indexAnew 1 = .ok (.iconst 0, 1) := by decide +kernel
theorem dL_indexAnew_2 : decode cL_indexAnew 2 = .ok (.aload_n 0, 1) := by decide +kernel
theorem dL_indexAnew_3 : decode cL_indexAnew 3 = .ok (.iload_n 1, 1) := by decide +kernel
theorem dL_indexAnew_4 : decode cL_indexAnew 4 = .ok (.iload_n 2, 1) := by decide +kernel
theorem dL_indexAnew_5 : decode cL_indexAnew 5 = .ok (.invokevirtual 69, 3) := by decide +kernel
theorem dL_indexAnew_8 : decode cL_indexAnew 8 = .ok (.dastore, 1) := by decide +kernel
theorem dL_indexAnew_9 : decode cL_indexAnew 9 = .ok (.goto 7, 3) := by decide +kernel
theorem dL_indexAnew_12 : decode cL_indexAnew 12 = .ok (.astore 4, 2) := by decide +kernel
theorem dL_indexAnew_14 : decode cL_indexAnew 14 = .ok (.iconst 1, 1) := by decide +kernel
theorem dL_indexAnew_15 : decode cL_indexAnew 15 = .ok (.ireturn, 1) := by decide +kernel
theorem dL_indexAnew_16 : decode cL_indexAnew 16 = .ok (.iconst 0, 1) := by decide +kernel
theorem dL_indexAnew_17 : decode cL_indexAnew 17 = .ok (.ireturn, 1) := by decide +kernel
set_option maxRecDepth 20000 in
theorem ggL_corrected_X6_corrected : GoodIn wsL_corrected wsX6_corrected := goodIn_ca (goodIn_r _ [6, 7, 8, 9, 5, 10, 11, 12, 13, 14, 15, 16, 17, 18, 19, 20, 21, 22, 23, 24, 25, 26, 27, 28, 29, 30, 31, 32, 33, 34, 35, 36, 37, 38, 39, 40, 41, 42, 43, 44, 45, 46, 47, 48, 49, 50, 51, 52, 53, 54, 55, 56, 57, 58, 59, 60, 61, 62, 63, 64, 65, 66, 67, 68, 69, 70, 71, 72, 73, 74, 75, 76, 77, 78, 79, 80, 81, 82, 83, 84, 85, 86, 87, 88, 89, 90, 91, 92, 93, 94, 95, 96, 97, 98, 99, 100, 101, 102, 103, 104, 105, 106, 107, 108, 109, 110, 111, 112, 113, 114, 115, 116, 117, 118, 119, 120, 121, 122, 123, 124, 125, 126, 127, 128, 129, 130, 131, 132, 133, 134, 135, 136, 137, 138, 139, 140, 141, 142, 143, 144, 145, 146, 147, 148, 149, 150, 151, 152, 153, 154, 155, 156, 157, 158, 159, 160, 161, 162, 163, 164, 165, 166, 167, 168, 169, 170, 171, 172, 173, 174, 175, 176, 177, 178, 179, 180, 181, 182, 183, 184, 185, 186, 187, 188, 189, 190] (by decide +kernel) (by decide +kernel)) (goodIn_sub (fun _ h => List.mem_cons_of_mem _ (List.mem_append_right _ h)) (by decide +kernel))
set_option maxRecDepth 20000 in
theorem gL_corrected_X6_corrected : GoodIn wsL_corrected (wsV RL 72 RX6 yX6_corrected wsX6_corrected) := goodIn_app (goodIn_of _ (by decide +kernel)) ggL_corrected_X6_corrected
theorem dL_corrected_0 : decode cL_corrected 0 = .ok (.aload_n 3, 1) := by decide +kernel
theorem dL_corrected_1 : decode cL_corrected 1 = .ok (.iconst 0, 1) := by decide +kernel
theorem dL_corrected_2 : decode cL_corrected 2 = .ok (.aload_n 0, 1) := by decide +kernel
theorem dL_corrected_3 : decode cL_corrected 3 = .ok (.iload_n 1, 1) := by decide +kernel
theorem dL_corrected_4 : decode cL_corrected 4 = .ok (.iload_n 2, 1) := by decide +kernel
theorem dL_corrected_5 : decode cL_corrected 5 = .ok (.invokevirtual 72, 3) := by decide +kernel
theorem dL_corrected_8 : decode cL_corrected 8 = .ok (.dastore, 1) := by decide +kernel
theorem dL_corrected_9 : decode cL_corrected 9 = .ok (.goto 7, 3) := by decide +kernel
theorem dL_corrected_12 : decode cL_corrected 12 = .ok (.astore 4, 2) := by decide +kernel
theorem dL_corrected_14 : decode cL_corrected 14 = .ok (.iconst 1, 1) := by decide +kernel
theorem dL_corrected_15 : decode cL_corrected 15 = .ok (.ireturn, 1) := by decide +kernel
theorem dL_corrected_16 : decode cL_corrected 16 = .ok (.iconst 0, 1) := by decide +kernel
theorem dL_corrected_17 : decode cL_corrected 17 = .ok (.ireturn, 1) := by decide +kernel
set_option maxRecDepth 20000 in
theorem ggL_published_X6_published : GoodIn wsL_published wsX6_published := goodIn_ca (goodIn_r _ [6, 7, 8, 9, 10, 5, 11, 12, 13, 14, 15, 16, 17, 18, 19, 20, 21, 22] (by decide +kernel) (by decide +kernel)) (goodIn_sub (fun _ h => List.mem_cons_of_mem _ (List.mem_append_right _ h)) (by decide +kernel))
set_option maxRecDepth 20000 in
theorem gL_published_X6_published : GoodIn wsL_published (wsV RL 75 RX6 yX6_published wsX6_published) := goodIn_app (goodIn_of _ (by decide +kernel)) ggL_published_X6_published
theorem dL_published_0 : decode cL_published 0 = .ok (.aload_n 2, 1) := by decide +kernel
theorem dL_published_1 : decode cL_published 1 = .ok (.iconst 0, 1) := by decide +kernel
theorem dL_published_2 : decode cL_published 2 = .ok (.aload_n 0, 1) := by decide +kernel
theorem dL_published_3 : decode cL_published 3 = .ok (.iload_n 1, 1) := by decide +kernel
theorem dL_published_4 : decode cL_published 4 = .ok (.invokevirtual 75, 3) := by decide +kernel
theorem dL_published_7 : decode cL_published 7 = .ok (.i2l, 1) := by decide +kernel
theorem dL_published_8 : decode cL_published 8 = .ok (.lastore, 1) := by decide +kernel
theorem dL_published_9 : decode cL_published 9 = .ok (.goto 6, 3) := by decide +kernel
theorem dL_published_12 : decode cL_published 12 = .ok (.astore_n 3, 1) := by decide +kernel
theorem dL_published_13 : decode cL_published 13 = .ok (.iconst 1, 1) := by decide +kernel
theorem dL_published_14 : decode cL_published 14 = .ok (.ireturn, 1) := by decide +kernel
theorem dL_published_15 : decode cL_published 15 = .ok (.iconst 0, 1) := by decide +kernel
theorem dL_published_16 : decode cL_published 16 = .ok (.ireturn, 1) := by decide +kernel
set_option maxRecDepth 20000 in
theorem ggL_growth_X6_growth : GoodIn wsL_growth wsX6_growth := goodIn_ca (goodIn_r _ [6, 7, 8, 9, 10, 11, 12, 5, 13, 14, 15, 16, 17, 18, 19, 20, 21, 22, 23, 24, 25, 26, 27, 28, 29, 30, 31, 32, 33, 34, 35, 36] (by decide +kernel) (by decide +kernel)) (goodIn_sub (fun _ h => List.mem_cons_of_mem _ (List.mem_append_right _ h)) (by decide +kernel))
set_option maxRecDepth 20000 in
theorem gL_growth_X6_growth : GoodIn wsL_growth (wsV RL 79 RX6 yX6_growth wsX6_growth) := goodIn_app (goodIn_of _ (by decide +kernel)) ggL_growth_X6_growth
theorem dL_growth_0 : decode cL_growth 0 = .ok (.aload_n 2, 1) := by decide +kernel
theorem dL_growth_1 : decode cL_growth 1 = .ok (.iconst 0, 1) := by decide +kernel
theorem dL_growth_2 : decode cL_growth 2 = .ok (.aload_n 0, 1) := by decide +kernel
theorem dL_growth_3 : decode cL_growth 3 = .ok (.iload_n 1, 1) := by decide +kernel
theorem dL_growth_4 : decode cL_growth 4 = .ok (.invokevirtual 79, 3) := by decide +kernel
theorem dL_growth_7 : decode cL_growth 7 = .ok (.f2d, 1) := by decide +kernel
theorem dL_growth_8 : decode cL_growth 8 = .ok (.dastore, 1) := by decide +kernel
theorem dL_growth_9 : decode cL_growth 9 = .ok (.goto 6, 3) := by decide +kernel
theorem dL_growth_12 : decode cL_growth 12 = .ok (.astore_n 3, 1) := by decide +kernel
theorem dL_growth_13 : decode cL_growth 13 = .ok (.iconst 1, 1) := by decide +kernel
theorem dL_growth_14 : decode cL_growth 14 = .ok (.ireturn, 1) := by decide +kernel
theorem dL_growth_15 : decode cL_growth 15 = .ok (.iconst 0, 1) := by decide +kernel
theorem dL_growth_16 : decode cL_growth 16 = .ok (.ireturn, 1) := by decide +kernel
set_option maxRecDepth 20000 in
theorem ggL_core_X6_core : GoodIn wsL_core wsX6_core := goodIn_ca (goodIn_r _ [6, 7, 8, 9, 10, 5, 11, 12, 13, 14, 15, 16, 17, 18, 19, 20, 21, 22, 23, 24, 25, 26, 27, 28, 29, 30, 31, 32, 33, 34, 35, 36, 37, 38, 39, 40, 41] (by decide +kernel) (by decide +kernel)) (goodIn_sub (fun _ h => List.mem_cons_of_mem _ (List.mem_append_right _ h)) (by decide +kernel))
set_option maxRecDepth 20000 in
theorem gL_core_X6_core : GoodIn wsL_core (wsV RL 83 RX6 yX6_core wsX6_core) := goodIn_app (goodIn_of _ (by decide +kernel)) ggL_core_X6_core
theorem dL_core_0 : decode cL_core 0 = .ok (.aload_n 2, 1) := by decide +kernel
theorem dL_core_1 : decode cL_core 1 = .ok (.iconst 0, 1) := by decide +kernel
theorem dL_core_2 : decode cL_core 2 = .ok (.aload_n 0, 1) := by decide +kernel
theorem dL_core_3 : decode cL_core 3 = .ok (.iload_n 1, 1) := by decide +kernel
theorem dL_core_4 : decode cL_core 4 = .ok (.invokevirtual 83, 3) := by decide +kernel
theorem dL_core_7 : decode cL_core 7 = .ok (.dastore, 1) := by decide +kernel
theorem dL_core_8 : decode cL_core 8 = .ok (.goto 6, 3) := by decide +kernel
theorem dL_core_11 : decode cL_core 11 = .ok (.astore_n 3, 1) := by decide +kernel
theorem dL_core_12 : decode cL_core 12 = .ok (.iconst 1, 1) := by decide +kernel
theorem dL_core_13 : decode cL_core 13 = .ok (.ireturn, 1) := by decide +kernel
theorem dL_core_14 : decode cL_core 14 = .ok (.iconst 0, 1) := by decide +kernel
theorem dL_core_15 : decode cL_core 15 = .ok (.ireturn, 1) := by decide +kernel
set_option maxRecDepth 20000 in
theorem ggL_direct_X6_direct : GoodIn wsL_direct wsX6_direct := goodIn_ca (goodIn_r _ [6, 7, 8, 9, 10, 5, 11, 12, 13, 14, 15, 16, 17, 18, 19, 20, 21, 22, 23, 24, 25, 26, 27, 28, 29, 30, 31, 32, 33, 34, 35, 36, 37, 38, 39, 40, 41, 42, 43, 44, 45, 46, 47, 48, 49, 50, 51] (by decide +kernel) (by decide +kernel)) (goodIn_sub (fun _ h => List.mem_cons_of_mem _ (List.mem_append_right _ h)) (by decide +kernel))
set_option maxRecDepth 20000 in
theorem gL_direct_X6_direct : GoodIn wsL_direct (wsV RL 87 RX6 yX6_direct wsX6_direct) := goodIn_app (goodIn_of _ (by decide +kernel)) ggL_direct_X6_direct
theorem dL_direct_0 : decode cL_direct 0 = .ok (.aload_n 2, 1) := by decide +kernel
theorem dL_direct_1 : decode cL_direct 1 = .ok (.iconst 0, 1) := by decide +kernel
theorem dL_direct_2 : decode cL_direct 2 = .ok (.aload_n 0, 1) := by decide +kernel
theorem dL_direct_3 : decode cL_direct 3 = .ok (.iload_n 1, 1) := by decide +kernel
theorem dL_direct_4 : decode cL_direct 4 = .ok (.invokevirtual 87, 3) := by decide +kernel
theorem dL_direct_7 : decode cL_direct 7 = .ok (.dastore, 1) := by decide +kernel
theorem dL_direct_8 : decode cL_direct 8 = .ok (.goto 6, 3) := by decide +kernel
theorem dL_direct_11 : decode cL_direct 11 = .ok (.astore_n 3, 1) := by decide +kernel
theorem dL_direct_12 : decode cL_direct 12 = .ok (.iconst 1, 1) := by decide +kernel
theorem dL_direct_13 : decode cL_direct 13 = .ok (.ireturn, 1) := by decide +kernel
theorem dL_direct_14 : decode cL_direct 14 = .ok (.iconst 0, 1) := by decide +kernel
theorem dL_direct_15 : decode cL_direct 15 = .ok (.ireturn, 1) := by decide +kernel
set_option maxRecDepth 20000 in
theorem ggL_doubts_X6_doubts : GoodIn wsL_doubts wsX6_doubts := goodIn_ca (goodIn_r _ [6, 7, 8, 9, 10, 5, 11, 12, 13, 14, 15, 16, 17, 18, 19, 20, 21, 22, 23, 24, 25, 26, 27, 28, 29, 30, 31, 32, 33, 34, 35, 36, 37, 38, 39, 40, 41, 42, 43, 44, 45, 46, 47, 48, 49, 50, 51, 52, 53, 54, 55, 56, 57, 58, 59, 60, 61, 62, 63, 64, 65, 66, 67, 68, 69, 70, 71, 72, 73, 74, 75, 76, 77, 78, 79, 80, 81, 82, 83, 84, 85, 86, 87, 88] (by decide +kernel) (by decide +kernel)) (goodIn_sub (fun _ h => List.mem_cons_of_mem _ (List.mem_append_right _ h)) (by decide +kernel))
set_option maxRecDepth 20000 in
theorem gL_doubts_X6_doubts : GoodIn wsL_doubts (wsV RL 90 RX6 yX6_doubts wsX6_doubts) := goodIn_app (goodIn_of _ (by decide +kernel)) ggL_doubts_X6_doubts
theorem dL_doubts_0 : decode cL_doubts 0 = .ok (.aload_n 2, 1) := by decide +kernel
theorem dL_doubts_1 : decode cL_doubts 1 = .ok (.iconst 0, 1) := by decide +kernel
theorem dL_doubts_2 : decode cL_doubts 2 = .ok (.aload_n 0, 1) := by decide +kernel
theorem dL_doubts_3 : decode cL_doubts 3 = .ok (.iload_n 1, 1) := by decide +kernel
theorem dL_doubts_4 : decode cL_doubts 4 = .ok (.invokevirtual 90, 3) := by decide +kernel
theorem dL_doubts_7 : decode cL_doubts 7 = .ok (.i2l, 1) := by decide +kernel
theorem dL_doubts_8 : decode cL_doubts 8 = .ok (.lastore, 1) := by decide +kernel
theorem dL_doubts_9 : decode cL_doubts 9 = .ok (.goto 6, 3) := by decide +kernel
theorem dL_doubts_12 : decode cL_doubts 12 = .ok (.astore_n 3, 1) := by decide +kernel
theorem dL_doubts_13 : decode cL_doubts 13 = .ok (.iconst 1, 1) := by decide +kernel
theorem dL_doubts_14 : decode cL_doubts 14 = .ok (.ireturn, 1) := by decide +kernel
theorem dL_doubts_15 : decode cL_doubts 15 = .ok (.iconst 0, 1) := by decide +kernel
theorem dL_doubts_16 : decode cL_doubts 16 = .ok (.ireturn, 1) := by decide +kernel
set_option maxRecDepth 20000 in
theorem ggL_ofContract_X6_ofContract : GoodIn wsL_ofContract wsX6_ofContract := goodIn_ca (goodIn_r _ [6, 7, 8, 9, 10, 11, 12, 13, 5, 14, 15, 16, 17, 18, 19, 20, 21, 22, 23, 24, 25, 26, 27, 28, 29, 30, 31, 32, 33, 34, 35, 36, 37, 38, 39, 40, 41, 42, 43, 44, 45, 46, 47, 48, 49, 50, 51, 52, 53, 54, 55, 56, 57] (by decide +kernel) (by decide +kernel)) (goodIn_sub (fun _ h => List.mem_cons_of_mem _ (List.mem_append_right _ h)) (by decide +kernel))
set_option maxRecDepth 20000 in
theorem gL_ofContract_X6_ofContract : GoodIn wsL_ofContract (wsV RL 93 RX6 yX6_ofContract wsX6_ofContract) := goodIn_app (goodIn_of _ (by decide +kernel)) ggL_ofContract_X6_ofContract
theorem dL_ofContract_0 : decode cL_ofContract 0 = .ok (.aload_n 3, 1) := by decide +kernel
theorem dL_ofContract_1 : decode cL_ofContract 1 = .ok (.iconst 0, 1) := by decide +kernel
theorem dL_ofContract_2 : decode cL_ofContract 2 = .ok (.aload_n 0, 1) := by decide +kernel
theorem dL_ofContract_3 : decode cL_ofContract 3 = .ok (.iload_n 1, 1) := by decide +kernel
theorem dL_ofContract_4 : decode cL_ofContract 4 = .ok (.iload_n 2, 1) := by decide +kernel
theorem dL_ofContract_5 : decode cL_ofContract 5 = .ok (.invokevirtual 93, 3) := by decide +kernel
theorem dL_ofContract_8 : decode cL_ofContract 8 = .ok (.lastore, 1) := by decide +kernel
theorem dL_ofContract_9 : decode cL_ofContract 9 = .ok (.goto 7, 3) := by decide +kernel
theorem dL_ofContract_12 : decode cL_ofContract 12 = .ok (.astore 4, 2) := by decide +kernel
theorem dL_ofContract_14 : decode cL_ofContract 14 = .ok (.iconst 1, 1) := by decide +kernel
theorem dL_ofContract_15 : decode cL_ofContract 15 = .ok (.ireturn, 1) := by decide +kernel
theorem dL_ofContract_16 : decode cL_ofContract 16 = .ok (.iconst 0, 1) := by decide +kernel
theorem dL_ofContract_17 : decode cL_ofContract 17 = .ok (.ireturn, 1) := by decide +kernel
set_option maxRecDepth 20000 in
theorem ggL_owed_X6_owed : GoodIn wsL_owed wsX6_owed := goodIn_ca (goodIn_r _ [6, 7, 8, 9, 10, 11, 12, 13, 14, 5, 15, 16, 17, 18, 19, 20, 21, 22, 23, 24, 25, 26, 27, 28, 29, 30, 31, 32, 33, 34, 35, 36, 37, 38, 39, 40, 41, 42, 43, 44, 45, 46, 47, 48, 49, 50, 51, 52, 53, 54, 55, 56, 57, 58, 59, 60, 61, 62, 63, 64, 65, 66, 67, 68, 69, 70, 71, 72, 73, 74, 75, 76, 77, 78, 79, 80, 81, 82, 83, 84, 85, 86, 87, 88, 89, 90, 91, 92, 93, 94, 95, 96, 97, 98, 99, 100, 101, 102, 103, 104, 105, 106, 107, 108, 109, 110, 111, 112, 113, 114, 115, 116, 117, 118, 119, 120, 121, 122, 123, 124, 125, 126, 127, 128, 129, 130, 131, 132, 133, 134, 135, 136, 137, 138, 139, 140, 141, 142, 143, 144, 145, 146, 147, 148, 149, 150, 151, 152, 153, 154, 155, 156, 157, 158, 159, 160, 161, 162, 163, 164, 165, 166, 167, 168, 169, 170, 171, 172, 173, 174, 175, 176, 177, 178, 179, 180, 181, 182, 183, 184, 185, 186, 187, 188, 189, 190, 191, 192, 193, 194, 195, 196, 197, 198, 199, 200, 201, 202, 203, 204, 205, 206, 207, 208, 209, 210, 211, 212, 213, 214, 215, 216, 217, 218, 219, 220, 221, 222, 223, 224, 225, 226, 227, 228, 229, 230, 231, 232, 233, 234, 235, 236, 237, 238, 239, 240, 241, 242, 243, 244, 245, 246, 247, 248] (by decide +kernel) (by decide +kernel)) (goodIn_sub (fun _ h => List.mem_cons_of_mem _ (List.mem_append_right _ h)) (by decide +kernel))
set_option maxRecDepth 20000 in
theorem gL_owed_X6_owed : GoodIn wsL_owed (wsV RL 97 RX6 yX6_owed wsX6_owed) := goodIn_app (goodIn_of _ (by decide +kernel)) ggL_owed_X6_owed
theorem dL_owed_0 : decode cL_owed 0 = .ok (.aload_n 2, 1) := by decide +kernel
theorem dL_owed_1 : decode cL_owed 1 = .ok (.iconst 0, 1) := by decide +kernel
theorem dL_owed_2 : decode cL_owed 2 = .ok (.aload_n 0, 1) := by decide +kernel
theorem dL_owed_3 : decode cL_owed 3 = .ok (.iload_n 1, 1) := by decide +kernel
theorem dL_owed_4 : decode cL_owed 4 = .ok (.invokevirtual 97, 3) := by decide +kernel
theorem dL_owed_7 : decode cL_owed 7 = .ok (.lastore, 1) := by decide +kernel
theorem dL_owed_8 : decode cL_owed 8 = .ok (.goto 6, 3) := by decide +kernel
theorem dL_owed_11 : decode cL_owed 11 = .ok (.astore_n 3, 1) := by decide +kernel
theorem dL_owed_12 : decode cL_owed 12 = .ok (.iconst 1, 1) := by decide +kernel
theorem dL_owed_13 : decode cL_owed 13 = .ok (.ireturn, 1) := by decide +kernel
theorem dL_owed_14 : decode cL_owed 14 = .ok (.iconst 0, 1) := by decide +kernel
theorem dL_owed_15 : decode cL_owed 15 = .ok (.ireturn, 1) := by decide +kernel
set_option maxRecDepth 20000 in
theorem ggL_count_X6_count : GoodIn wsL_count wsX6_count := goodIn_ca (goodIn_r _ [6, 7, 8, 9, 10, 11, 12, 13, 14, 15, 16, 17, 18, 19, 20, 21, 22, 23, 24, 25, 26, 27, 28, 29, 30, 31, 32, 33, 34, 35, 36, 37, 38] (by decide +kernel) (by decide +kernel)) (goodIn_sub (fun _ h => List.mem_cons_of_mem _ (List.mem_append_right _ h)) (by decide +kernel))
set_option maxRecDepth 20000 in
theorem gL_count_X6_count : GoodIn wsL_count (wsV RL 101 RX6 yX6_count wsX6_count) := goodIn_app (goodIn_of _ (by decide +kernel)) ggL_count_X6_count
theorem dL_count_0 : decode cL_count 0 = .ok (.aload_n 2, 1) := by decide +kernel
theorem dL_count_1 : decode cL_count 1 = .ok (.iconst 0, 1) := by decide +kernel
theorem dL_count_2 : decode cL_count 2 = .ok (.aload_n 0, 1) := by decide +kernel
theorem dL_count_3 : decode cL_count 3 = .ok (.iload_n 1, 1) := by decide +kernel
theorem dL_count_4 : decode cL_count 4 = .ok (.invokevirtual 101, 3) := by decide +kernel
theorem dL_count_7 : decode cL_count 7 = .ok (.i2l, 1) := by decide +kernel
theorem dL_count_8 : decode cL_count 8 = .ok (.lastore, 1) := by decide +kernel
theorem dL_count_9 : decode cL_count 9 = .ok (.goto 6, 3) := by decide +kernel
theorem dL_count_12 : decode cL_count 12 = .ok (.astore_n 3, 1) := by decide +kernel
theorem dL_count_13 : decode cL_count 13 = .ok (.iconst 1, 1) := by decide +kernel
theorem dL_count_14 : decode cL_count 14 = .ok (.ireturn, 1) := by decide +kernel
theorem dL_count_15 : decode cL_count 15 = .ok (.iconst 0, 1) := by decide +kernel
theorem dL_count_16 : decode cL_count 16 = .ok (.ireturn, 1) := by decide +kernel
set_option maxRecDepth 20000 in
theorem ggL_law_X6_init : GoodIn wsL_law wsX6_init := goodIn_r _ [10, 11, 12, 13, 14, 15, 16, 17, 18, 19, 20, 21, 22, 23, 24, 25, 26, 27, 28, 29, 30, 31, 32, 33, 34, 35, 36, 37, 38, 39, 40, 41, 42, 43, 44, 45, 46, 47, 48, 49, 50, 51, 52, 53, 54, 55, 56, 57, 58, 59, 60, 61, 62, 63, 64, 65, 66, 67, 7, 68, 69, 70, 71, 72, 73, 74, 75, 76, 77, 78, 79, 80, 81, 82, 83, 84, 85, 86, 880, 881, 882, 883, 884, 885, 886, 887, 888, 889, 839, 840, 841, 842, 843, 844, 845, 846, 890, 891, 892, 893, 894, 895, 896, 897, 898, 899, 900, 901, 902, 903, 904, 905, 906, 907, 908] (by decide +kernel) (by decide +kernel)
set_option maxRecDepth 20000 in
theorem gL_law_X6_init : GoodIn wsL_law (wsX6_init) := ggL_law_X6_init
set_option maxRecDepth 20000 in
theorem ggL_law_X7_init : GoodIn wsL_law wsX7_init := goodIn_r _ [89, 90, 12, 13, 27, 91, 92, 93, 94, 95, 96, 42, 97, 98, 99, 100, 101, 102, 7, 103, 104, 105, 106, 107, 108, 109, 110, 111, 6, 112, 113, 114, 115, 116, 117, 847, 848, 849, 850, 851, 852, 853, 854, 855, 856, 857, 858, 859, 860, 861, 862, 863, 864, 865, 866, 867, 868, 869, 870, 871, 872, 873, 874, 875, 876, 877, 878, 879] (by decide +kernel) (by decide +kernel)
set_option maxRecDepth 20000 in
theorem gL_law_X7_init : GoodIn wsL_law (wsX7_init) := ggL_law_X7_init
set_option maxRecDepth 20000 in
theorem ggL_law_L_item : GoodIn wsL_law wsL_item := goodIn_ca (goodIn_ca (goodIn_ca (goodIn_r _ [121, 122, 123, 124, 125, 126, 127, 2, 128, 129, 130, 17, 131, 132, 133, 134, 135, 136, 137, 138, 139, 140, 141, 142, 143, 144, 145, 146, 32, 147, 148, 149, 150, 151, 152, 12, 13, 153, 154, 155, 156, 157, 158, 159, 160, 161, 52, 162, 163, 164, 165, 166, 167, 168, 169, 170, 171, 172, 173, 51, 174, 175, 176, 177, 178, 179, 180, 181, 182, 183, 184, 185, 186, 187, 188, 189, 190, 191, 192, 193, 194, 195, 196, 197, 198, 199, 200, 201, 202, 203, 204, 205, 206, 207, 839, 840, 841, 842, 843, 844, 845, 846, 880, 881, 882, 883, 884, 885, 886, 887, 888, 889, 909, 910, 911, 901, 902, 903] (by decide +kernel) (by decide +kernel)) (goodIn_sub (fun _ h => List.mem_append_left _ (List.mem_append_left _ (List.mem_append_right _ h))) (by decide +kernel))) (goodIn_sub (fun _ h => List.mem_append_left _ (List.mem_append_right _ h)) (by decide +kernel))) (goodIn_sub (fun _ h => List.mem_append_right _ h) (by decide +kernel))
set_option maxRecDepth 20000 in
theorem gL_law_L_item : GoodIn wsL_law (va_wsS RL 108 yL_item wsL_item) := goodIn_app (goodIn_of _ (by decide +kernel)) ggL_law_L_item
set_option maxRecDepth 20000 in
theorem ggL_law_X7_item : GoodIn wsL_law wsX7_item := goodIn_r _ [211, 212, 213, 91, 92, 93, 214, 215, 5, 216, 217, 218, 219, 847, 848, 849, 850, 851, 852, 853, 854, 855, 856, 857, 858, 859, 860, 861, 862, 863, 864, 865, 866, 867, 868, 869, 870, 871, 872, 873, 874, 875, 876, 877, 878, 879] (by decide +kernel) (by decide +kernel)
set_option maxRecDepth 20000 in
theorem gL_law_X7_item : GoodIn wsL_law (wsV RL 113 RX7 yX7_item wsX7_item) := goodIn_app (goodIn_of _ (by decide +kernel)) ggL_law_X7_item
set_option maxRecDepth 20000 in
theorem ggL_law_X7_thrown : GoodIn wsL_law wsX7_thrown := goodIn_r _ [223, 213, 847, 848, 849, 850, 851, 852, 853, 854, 855, 856, 857, 858, 859, 860, 861, 862, 863, 864, 865, 866, 867, 868, 869, 870, 871, 872, 873, 874, 875, 876, 877, 878, 879] (by decide +kernel) (by decide +kernel)
set_option maxRecDepth 20000 in
theorem gL_law_X7_thrown : GoodIn wsL_law (wsV RL 114 RX7 yX7_thrown wsX7_thrown) := goodIn_app (goodIn_of _ (by decide +kernel)) ggL_law_X7_thrown
set_option maxRecDepth 20000 in
theorem ggL_law_L_quote : GoodIn wsL_law wsL_quote := goodIn_ca (goodIn_ca (goodIn_ca (goodIn_r _ [226, 122, 123, 124, 227, 228, 229, 2, 230, 129, 130, 231, 17, 232, 34, 233, 234, 235, 236, 137, 138, 144, 145, 146, 32, 147, 148, 237, 238, 239, 139, 140, 141, 142, 143, 240, 241, 242, 243, 244, 245, 246, 247, 248, 249, 250, 251, 252, 253, 254, 255, 256, 257, 258, 259, 52, 260, 261, 262, 133, 263, 155, 264, 265, 266, 267, 268, 269, 16, 270, 40, 271, 272, 273, 274, 44, 41, 275, 839, 840, 841, 842, 843, 844, 845, 846, 880, 881, 882, 883, 884, 885, 886, 887, 888, 889, 901, 902, 903, 909, 910, 911] (by decide +kernel) (by decide +kernel)) (goodIn_sub (fun _ h => List.mem_append_left _ (List.mem_append_left _ (List.mem_append_right _ h))) (by decide +kernel))) (goodIn_sub (fun _ h => List.mem_append_left _ (List.mem_append_right _ h)) (by decide +kernel))) (goodIn_sub (fun _ h => List.mem_append_right _ h) (by decide +kernel))
set_option maxRecDepth 20000 in
theorem gL_law_L_quote : GoodIn wsL_law (va_wsS RL 117 yL_quote wsL_quote) := goodIn_app (goodIn_of _ (by decide +kernel)) ggL_law_L_quote
set_option maxRecDepth 20000 in
theorem ggL_law_X7_quote : GoodIn wsL_law wsX7_quote := goodIn_r _ [279, 280, 213, 281, 93, 94, 95, 282, 283, 284, 285, 5, 286, 212, 217, 218, 219, 287, 288, 289, 290, 291, 292, 847, 848, 849, 850, 851, 852, 853, 854, 855, 856, 857, 858, 859, 860, 861, 862, 863, 864, 865, 866, 867, 868, 869, 870, 871, 872, 873, 874, 875, 876, 877, 878, 879] (by decide +kernel) (by decide +kernel)
set_option maxRecDepth 20000 in
theorem gL_law_X7_quote : GoodIn wsL_law (wsV RL 120 RX7 yX7_quote wsX7_quote) := goodIn_app (goodIn_of _ (by decide +kernel)) ggL_law_X7_quote
set_option maxRecDepth 20000 in
theorem ggL_law_L_confirm : GoodIn wsL_law wsL_confirm := goodIn_ca (goodIn_ca (goodIn_r _ [295, 122, 124, 296, 297, 298, 2, 299, 34, 17, 233, 234, 235, 236, 137, 138, 144, 145, 146, 32, 147, 148, 237, 238, 239, 240, 241, 242, 243, 129, 130, 264, 265, 266, 300, 301, 302, 303, 267, 268, 269, 16, 270, 40, 839, 840, 841, 842, 843, 844, 845, 846, 880, 881, 882, 883, 884, 885, 886, 887, 888, 889, 901, 902, 903] (by decide +kernel) (by decide +kernel)) (goodIn_sub (fun _ h => List.mem_append_left _ (List.mem_append_right _ h)) (by decide +kernel))) (goodIn_sub (fun _ h => List.mem_append_left _ (List.mem_append_left _ (List.mem_append_right _ h))) (by decide +kernel))
set_option maxRecDepth 20000 in
theorem gL_law_L_confirm : GoodIn wsL_law (va_wsS RL 121 yL_confirm wsL_confirm) := goodIn_app (goodIn_of _ (by decide +kernel)) ggL_law_L_confirm
set_option maxRecDepth 20000 in
theorem ggL_law_X7_confirm : GoodIn wsL_law wsX7_confirm := goodIn_r _ [307, 281, 94, 213, 97, 283, 284, 285, 5, 286, 212, 217, 218, 219, 287, 288, 289, 290, 291, 292, 847, 848, 849, 850, 851, 852, 853, 854, 855, 856, 857, 858, 859, 860, 861, 862, 863, 864, 865, 866, 867, 868, 869, 870, 871, 872, 873, 874, 875, 876, 877, 878, 879] (by decide +kernel) (by decide +kernel)
set_option maxRecDepth 20000 in
theorem gL_law_X7_confirm : GoodIn wsL_law (wsV RL 124 RX7 yX7_confirm wsX7_confirm) := goodIn_app (goodIn_of _ (by decide +kernel)) ggL_law_X7_confirm
set_option maxRecDepth 20000 in
theorem ggL_law_L_link : GoodIn wsL_law wsL_link := goodIn_ca (goodIn_ca (goodIn_ca (goodIn_r _ [310, 122, 123, 124, 311, 312, 313, 2, 314, 129, 130, 231, 34, 17, 233, 234, 235, 236, 137, 138, 144, 145, 146, 32, 147, 148, 237, 238, 239, 139, 140, 141, 142, 143, 240, 241, 242, 243, 264, 265, 266, 315, 316, 317, 16, 318, 46, 319, 320, 321, 322, 47, 839, 840, 841, 842, 843, 844, 845, 846, 880, 881, 882, 883, 884, 885, 886, 887, 888, 889, 901, 902, 903] (by decide +kernel) (by decide +kernel)) (goodIn_sub (fun _ h => List.mem_append_left _ (List.mem_append_left _ (List.mem_append_right _ h))) (by decide +kernel))) (goodIn_sub (fun _ h => List.mem_append_left _ (List.mem_append_right _ h)) (by decide +kernel))) (goodIn_sub (fun _ h => List.mem_append_right _ h) (by decide +kernel))
set_option maxRecDepth 20000 in
theorem gL_law_L_link : GoodIn wsL_law (va_wsS RL 125 yL_link wsL_link) := goodIn_app (goodIn_of _ (by decide +kernel)) ggL_law_L_link
set_option maxRecDepth 20000 in
theorem ggL_law_X7_link : GoodIn wsL_law wsX7_link := goodIn_r _ [326, 280, 213, 281, 98, 99, 283, 284, 285, 5, 286, 212, 217, 218, 219, 287, 288, 289, 290, 291, 292, 847, 848, 849, 850, 851, 852, 853, 854, 855, 856, 857, 858, 859, 860, 861, 862, 863, 864, 865, 866, 867, 868, 869, 870, 871, 872, 873, 874, 875, 876, 877, 878, 879] (by decide +kernel) (by decide +kernel)
set_option maxRecDepth 20000 in
theorem gL_law_X7_link : GoodIn wsL_law (wsV RL 128 RX7 yX7_link wsX7_link) := goodIn_app (goodIn_of _ (by decide +kernel)) ggL_law_X7_link
set_option maxRecDepth 20000 in
theorem ggL_law_L_spend : GoodIn wsL_law wsL_spend := goodIn_ca (goodIn_ca (goodIn_r _ [329, 122, 123, 330, 331, 332, 2, 333, 137, 138, 334, 21, 134, 135, 136, 139, 140, 141, 142, 143, 335, 336, 337, 20, 338, 66, 839, 840, 841, 842, 843, 844, 845, 846, 890, 891, 892] (by decide +kernel) (by decide +kernel)) (goodIn_sub (fun _ h => List.mem_append_left _ (List.mem_append_right _ h)) (by decide +kernel))) (goodIn_sub (fun _ h => List.mem_append_right _ h) (by decide +kernel))
set_option maxRecDepth 20000 in
theorem gL_law_L_spend : GoodIn wsL_law (va_wsS RL 129 yL_spend wsL_spend) := goodIn_app (goodIn_of _ (by decide +kernel)) ggL_law_L_spend
set_option maxRecDepth 20000 in
theorem ggL_law_X7_spend : GoodIn wsL_law wsX7_spend := goodIn_r _ [342, 343, 213, 100, 217, 218, 5, 219, 214, 215, 216, 847, 848, 849, 850, 851, 852, 853, 854, 855, 856, 857, 858, 859, 860, 861, 862, 863, 864, 865, 866, 867, 868, 869, 870, 871, 872, 873, 874, 875, 876, 877, 878, 879] (by decide +kernel) (by decide +kernel)
set_option maxRecDepth 20000 in
theorem gL_law_X7_spend : GoodIn wsL_law (wsV RL 131 RX7 yX7_spend wsX7_spend) := goodIn_app (goodIn_of _ (by decide +kernel)) ggL_law_X7_spend
set_option maxRecDepth 20000 in
theorem ggL_law_X6_adopt : GoodIn wsL_law wsX6_adopt := goodIn_r _ [347, 21, 348, 349, 350, 20, 351, 67, 66, 839, 840, 841, 842, 843, 844, 845, 846, 890, 891, 892] (by decide +kernel) (by decide +kernel)
set_option maxRecDepth 20000 in
theorem gL_law_X6_adopt : GoodIn wsL_law (wsV RL 132 RX6 yX6_adopt wsX6_adopt) := goodIn_app (goodIn_of _ (by decide +kernel)) ggL_law_X6_adopt
set_option maxRecDepth 20000 in
theorem ggL_law_X7_adopt : GoodIn wsL_law wsX7_adopt := goodIn_r _ [355, 213, 101, 100, 847, 848, 849, 850, 851, 852, 853, 854, 855, 856, 857, 858, 859, 860, 861, 862, 863, 864, 865, 866, 867, 868, 869, 870, 871, 872, 873, 874, 875, 876, 877, 878, 879] (by decide +kernel) (by decide +kernel)
set_option maxRecDepth 20000 in
theorem gL_law_X7_adopt : GoodIn wsL_law (wsV RL 136 RX7 yX7_adopt wsX7_adopt) := goodIn_app (goodIn_of _ (by decide +kernel)) ggL_law_X7_adopt
set_option maxRecDepth 20000 in
theorem ggL_law_L_publish : GoodIn wsL_law wsL_publish := goodIn_ca (goodIn_r _ [358, 124, 359, 360, 361, 2, 362, 21, 34, 25, 28, 33, 363, 17, 240, 241, 242, 243, 129, 130, 364, 365, 366, 20, 367, 68, 368, 369, 370, 371, 67, 372, 373, 374, 375, 376, 377, 378, 379, 380, 381, 382, 383, 384, 385, 386, 387, 24, 388, 81, 79, 80, 389, 390, 145, 146, 32, 147, 148, 391, 392, 393, 394, 78, 77, 395, 396, 397, 398, 76, 399, 265, 266, 400, 401, 402, 75, 403, 404, 405, 406, 407, 408, 409, 410, 411, 412, 413, 414, 415, 416, 16, 417, 41, 44, 40, 418, 419, 420, 421, 422, 316, 317, 318, 46, 423, 424, 425, 426, 47, 427, 428, 429, 430, 431, 432, 433, 434, 435, 436, 437, 245, 246, 247, 248, 249, 250, 251, 252, 253, 254, 255, 256, 257, 258, 259, 52, 438, 439, 440, 441, 442, 443, 444, 445, 446, 447, 448, 449, 450, 451, 452, 453, 454, 455, 456, 457, 458, 459, 460, 461, 82, 462, 463, 464, 465, 466, 467, 468, 469, 470, 471, 472, 473, 474, 475, 476, 477, 144, 244, 478, 479, 480, 481, 482, 483, 484, 485, 486, 487, 488, 489, 176, 490, 491, 492, 493, 494, 495, 496, 497, 498, 839, 840, 841, 842, 843, 844, 845, 846, 880, 881, 882, 883, 884, 885, 886, 887, 888, 889, 890, 891, 892, 893, 894, 895, 896, 897, 898, 899, 900, 901, 902, 903, 909, 910, 911, 904, 905, 906, 907, 908, 912, 913, 914, 915, 916, 917, 918, 919, 920] (by decide +kernel) (by decide +kernel)) (goodIn_sub (fun _ h => List.mem_append_left _ (List.mem_append_left _ (List.mem_append_right _ h))) (by decide +kernel))
set_option maxRecDepth 20000 in
theorem gL_law_L_publish : GoodIn wsL_law (va_wsS RL 137 yL_publish wsL_publish) := goodIn_app (goodIn_of _ (by decide +kernel)) ggL_law_L_publish
set_option maxRecDepth 20000 in
theorem ggL_law_X7_publish : GoodIn wsL_law wsX7_publish := goodIn_r _ [502, 281, 213, 102, 101, 503, 109, 116, 108, 115, 114, 117, 282, 504, 505, 506, 5, 507, 212, 91, 105, 106, 107, 508, 509, 510, 511, 512, 513, 514, 515, 516, 104, 103, 290, 291, 292, 517, 518, 519, 520, 97, 521, 522, 523, 524, 525, 526, 96, 94, 95, 527, 528, 529, 530, 98, 99, 531, 532, 533, 534, 92, 535, 536, 537, 538, 539, 540, 541, 542, 543, 544, 110, 111, 545, 546, 547, 548, 847, 848, 849, 850, 851, 852, 853, 854, 855, 856, 857, 858, 859, 860, 861, 862, 863, 864, 865, 866, 867, 868, 869, 870, 871, 872, 873, 874, 875, 876, 877, 878, 879] (by decide +kernel) (by decide +kernel)
set_option maxRecDepth 20000 in
theorem gL_law_X7_publish : GoodIn wsL_law (wsV RL 140 RX7 yX7_publish wsX7_publish) := goodIn_app (goodIn_of _ (by decide +kernel)) ggL_law_X7_publish
set_option maxRecDepth 20000 in
theorem ggL_law_L_fix : GoodIn wsL_law wsL_fix := goodIn_ca (goodIn_ca (goodIn_ca (goodIn_r _ [551, 122, 123, 124, 552, 553, 554, 2, 555, 231, 17, 556, 557, 558, 559, 137, 138, 34, 233, 234, 235, 236, 144, 145, 146, 32, 147, 148, 237, 238, 239, 139, 140, 141, 142, 143, 264, 265, 266, 300, 301, 302, 303, 129, 130, 267, 268, 269, 16, 270, 40, 560, 561, 562, 563, 44, 45, 564, 839, 840, 841, 842, 843, 844, 845, 846, 880, 881, 882, 883, 884, 885, 886, 887, 888, 889, 901, 902, 903] (by decide +kernel) (by decide +kernel)) (goodIn_sub (fun _ h => List.mem_append_left _ (List.mem_append_right _ h)) (by decide +kernel))) (goodIn_sub (fun _ h => List.mem_append_right _ h) (by decide +kernel))) (goodIn_sub (fun _ h => List.mem_append_left _ (List.mem_append_left _ (List.mem_append_right _ h))) (by decide +kernel))
set_option maxRecDepth 20000 in
theorem gL_law_L_fix : GoodIn wsL_law (va_wsS RL 141 yL_fix wsL_fix) := goodIn_app (goodIn_of _ (by decide +kernel)) ggL_law_L_fix
set_option maxRecDepth 20000 in
theorem ggL_law_X7_fix : GoodIn wsL_law wsX7_fix := goodIn_r _ [568, 280, 94, 213, 96, 569, 570, 571, 572, 5, 573, 281, 217, 218, 219, 283, 284, 285, 286, 212, 287, 288, 289, 290, 291, 292, 847, 848, 849, 850, 851, 852, 853, 854, 855, 856, 857, 858, 859, 860, 861, 862, 863, 864, 865, 866, 867, 868, 869, 870, 871, 872, 873, 874, 875, 876, 877, 878, 879] (by decide +kernel) (by decide +kernel)
set_option maxRecDepth 20000 in
theorem gL_law_X7_fix : GoodIn wsL_law (wsV RL 143 RX7 yX7_fix wsX7_fix) := goodIn_app (goodIn_of _ (by decide +kernel)) ggL_law_X7_fix
set_option maxRecDepth 20000 in
theorem ggL_law_L_contract : GoodIn wsL_law wsL_contract := goodIn_ca (goodIn_ca (goodIn_r _ [576, 123, 124, 577, 578, 579, 2, 580, 129, 130, 334, 34, 33, 581, 582, 481, 28, 139, 140, 141, 142, 143, 144, 145, 146, 32, 147, 148, 583, 584, 585, 586, 12, 13, 587, 483, 497, 498, 588, 589, 590, 591, 592, 485, 486, 484, 491, 156, 157, 158, 159, 160, 161, 52, 162, 163, 164, 165, 166, 167, 168, 169, 170, 171, 172, 173, 51, 174, 175, 176, 177, 178, 179, 180, 181, 182, 183, 184, 185, 186, 187, 188, 189, 190, 191, 192, 193, 194, 195, 196, 197, 198, 199, 200, 201, 202, 203, 204, 205, 206, 207, 839, 840, 841, 842, 843, 844, 845, 846, 912, 913, 914, 915, 916, 917, 918, 919, 920, 901, 902, 903] (by decide +kernel) (by decide +kernel)) (goodIn_sub (fun _ h => List.mem_append_left _ (List.mem_append_left _ (List.mem_append_right _ h))) (by decide +kernel))) (goodIn_sub (fun _ h => List.mem_append_right _ h) (by decide +kernel))
set_option maxRecDepth 20000 in
theorem gL_law_L_contract : GoodIn wsL_law (va_wsS RL 144 yL_contract wsL_contract) := goodIn_app (goodIn_of _ (by decide +kernel)) ggL_law_L_contract
set_option maxRecDepth 20000 in
theorem ggL_law_X7_contract : GoodIn wsL_law wsX7_contract := goodIn_r _ [596, 343, 281, 503, 213, 112, 113, 114, 109, 110, 111, 115, 108, 116, 217, 218, 5, 219, 847, 848, 849, 850, 851, 852, 853, 854, 855, 856, 857, 858, 859, 860, 861, 862, 863, 864, 865, 866, 867, 868, 869, 870, 871, 872, 873, 874, 875, 876, 877, 878, 879] (by decide +kernel) (by decide +kernel)
set_option maxRecDepth 20000 in
theorem gL_law_X7_contract : GoodIn wsL_law (wsV RL 147 RX7 yX7_contract wsX7_contract) := goodIn_app (goodIn_of _ (by decide +kernel)) ggL_law_X7_contract
set_option maxRecDepth 20000 in
theorem ggL_law_L_price : GoodIn wsL_law wsL_price := goodIn_ca (goodIn_r _ [599, 122, 600, 601, 602, 2, 603, 25, 233, 234, 235, 236, 137, 138, 17, 144, 145, 146, 32, 147, 148, 237, 238, 239, 556, 557, 558, 559, 34, 264, 265, 266, 839, 840, 841, 842, 843, 844, 845, 846, 893, 894, 895, 896, 897, 898, 899, 900, 880, 881, 882, 883, 884, 885, 886, 887, 888, 889, 901, 902, 903] (by decide +kernel) (by decide +kernel)) (goodIn_sub (fun _ h => List.mem_append_left _ (List.mem_append_right _ h)) (by decide +kernel))
set_option maxRecDepth 20000 in
theorem gL_law_L_price : GoodIn wsL_law (va_wsS RL 148 yL_price wsL_price) := goodIn_app (goodIn_of _ (by decide +kernel)) ggL_law_L_price
set_option maxRecDepth 20000 in
theorem ggL_law_X7_price : GoodIn wsL_law wsX7_price := goodIn_r _ [607, 213, 103, 283, 284, 285, 5, 286, 212, 217, 218, 219, 287, 288, 289, 570, 571, 572, 573, 281, 290, 291, 292, 847, 848, 849, 850, 851, 852, 853, 854, 855, 856, 857, 858, 859, 860, 861, 862, 863, 864, 865, 866, 867, 868, 869, 870, 871, 872, 873, 874, 875, 876, 877, 878, 879] (by decide +kernel) (by decide +kernel)
set_option maxRecDepth 20000 in
theorem gL_law_X7_price : GoodIn wsL_law (wsV RL 151 RX7 yX7_price wsX7_price) := goodIn_app (goodIn_of _ (by decide +kernel)) ggL_law_X7_price
set_option maxRecDepth 20000 in
theorem ggL_law_L_isMatched : GoodIn wsL_law wsL_isMatched := goodIn_ca (goodIn_r _ [610, 122, 611, 612, 613, 2, 614, 25, 233, 234, 235, 236, 137, 138, 17, 144, 145, 146, 32, 147, 148, 237, 238, 239, 556, 557, 558, 559, 34, 264, 265, 266, 615, 616, 617, 24, 618, 409, 410, 411, 412, 81, 413, 414, 415, 416, 16, 417, 41, 44, 40, 418, 419, 420, 421, 77, 422, 316, 317, 318, 46, 423, 424, 425, 426, 47, 427, 428, 429, 430, 431, 432, 839, 840, 841, 842, 843, 844, 845, 846, 880, 881, 882, 883, 884, 885, 886, 887, 888, 889, 901, 902, 903, 893, 894, 895, 896, 897, 898, 899, 900] (by decide +kernel) (by decide +kernel)) (goodIn_sub (fun _ h => List.mem_append_left _ (List.mem_append_right _ h)) (by decide +kernel))
set_option maxRecDepth 20000 in
theorem gL_law_L_isMatched : GoodIn wsL_law (va_wsS RL 152 yL_isMatched wsL_isMatched) := goodIn_app (goodIn_of _ (by decide +kernel)) ggL_law_L_isMatched
set_option maxRecDepth 20000 in
theorem ggL_law_X7_isMatched : GoodIn wsL_law wsX7_isMatched := goodIn_r _ [622, 213, 104, 283, 284, 285, 5, 286, 212, 217, 218, 219, 287, 288, 289, 570, 571, 572, 573, 281, 290, 291, 292, 847, 848, 849, 850, 851, 852, 853, 854, 855, 856, 857, 858, 859, 860, 861, 862, 863, 864, 865, 866, 867, 868, 869, 870, 871, 872, 873, 874, 875, 876, 877, 878, 879] (by decide +kernel) (by decide +kernel)
set_option maxRecDepth 20000 in
theorem gL_law_X7_isMatched : GoodIn wsL_law (wsV RL 154 RX7 yX7_isMatched wsX7_isMatched) := goodIn_app (goodIn_of _ (by decide +kernel)) ggL_law_X7_isMatched
set_option maxRecDepth 20000 in
theorem ggL_law_L_relative : GoodIn wsL_law wsL_relative := goodIn_ca (goodIn_r _ [625, 122, 626, 627, 628, 2, 629, 25, 233, 234, 235, 236, 137, 138, 17, 144, 145, 146, 32, 147, 148, 556, 557, 558, 559, 34, 630, 451, 452, 24, 453, 78, 839, 840, 841, 842, 843, 844, 845, 846, 880, 881, 882, 883, 884, 885, 886, 887, 888, 889, 901, 902, 903, 893, 894, 895, 896, 897, 898, 899, 900] (by decide +kernel) (by decide +kernel)) (goodIn_sub (fun _ h => List.mem_append_left _ (List.mem_append_right _ h)) (by decide +kernel))
set_option maxRecDepth 20000 in
theorem gL_law_L_relative : GoodIn wsL_law (va_wsS RL 155 yL_relative wsL_relative) := goodIn_app (goodIn_of _ (by decide +kernel)) ggL_law_L_relative
set_option maxRecDepth 20000 in
theorem ggL_law_X7_relative : GoodIn wsL_law wsX7_relative := goodIn_r _ [634, 213, 105, 283, 284, 285, 5, 286, 212, 217, 218, 219, 570, 571, 572, 573, 281, 847, 848, 849, 850, 851, 852, 853, 854, 855, 856, 857, 858, 859, 860, 861, 862, 863, 864, 865, 866, 867, 868, 869, 870, 871, 872, 873, 874, 875, 876, 877, 878, 879] (by decide +kernel) (by decide +kernel)
set_option maxRecDepth 20000 in
theorem gL_law_X7_relative : GoodIn wsL_law (wsV RL 158 RX7 yX7_relative wsX7_relative) := goodIn_app (goodIn_of _ (by decide +kernel)) ggL_law_X7_relative
set_option maxRecDepth 20000 in
theorem ggL_law_L_bounce : GoodIn wsL_law wsL_bounce := goodIn_ca (goodIn_r _ [637, 122, 638, 639, 640, 2, 641, 25, 233, 234, 235, 236, 137, 138, 17, 144, 145, 146, 32, 147, 148, 556, 557, 558, 559, 34, 630, 451, 452, 24, 453, 78, 642, 643, 644, 645, 395, 396, 397, 398, 76, 81, 399, 265, 266, 400, 401, 402, 75, 403, 404, 405, 406, 407, 408, 409, 410, 411, 412, 413, 414, 415, 416, 16, 417, 41, 44, 40, 418, 419, 420, 421, 77, 422, 316, 317, 318, 46, 423, 424, 425, 426, 47, 427, 428, 429, 430, 431, 432, 433, 434, 435, 436, 437, 245, 246, 247, 248, 249, 250, 251, 252, 253, 254, 255, 256, 257, 258, 259, 52, 438, 439, 440, 441, 839, 840, 841, 842, 843, 844, 845, 846, 880, 881, 882, 883, 884, 885, 886, 887, 888, 889, 901, 902, 903, 893, 894, 895, 896, 897, 898, 899, 900, 909, 910, 911, 904, 905, 906, 907, 908] (by decide +kernel) (by decide +kernel)) (goodIn_sub (fun _ h => List.mem_append_left _ (List.mem_append_right _ h)) (by decide +kernel))
set_option maxRecDepth 20000 in
theorem gL_law_L_bounce : GoodIn wsL_law (va_wsS RL 159 yL_bounce wsL_bounce) := goodIn_app (goodIn_of _ (by decide +kernel)) ggL_law_L_bounce
set_option maxRecDepth 20000 in
theorem ggL_law_X7_bounce : GoodIn wsL_law wsX7_bounce := goodIn_r _ [649, 213, 105, 283, 284, 285, 5, 286, 212, 217, 218, 219, 570, 571, 572, 573, 281, 531, 532, 533, 534, 104, 92, 290, 291, 292, 527, 528, 529, 530, 98, 99, 103, 523, 524, 525, 526, 96, 94, 95, 847, 848, 849, 850, 851, 852, 853, 854, 855, 856, 857, 858, 859, 860, 861, 862, 863, 864, 865, 866, 867, 868, 869, 870, 871, 872, 873, 874, 875, 876, 877, 878, 879] (by decide +kernel) (by decide +kernel)
set_option maxRecDepth 20000 in
theorem gL_law_X7_bounce : GoodIn wsL_law (wsV RL 161 RX7 yX7_bounce wsX7_bounce) := goodIn_app (goodIn_of _ (by decide +kernel)) ggL_law_X7_bounce
set_option maxRecDepth 20000 in
theorem ggL_law_L_ofGroup : GoodIn wsL_law wsL_ofGroup := goodIn_ca (goodIn_r _ [652, 122, 653, 654, 655, 2, 656, 25, 134, 135, 136, 137, 138, 556, 557, 558, 559, 34, 657, 467, 468, 24, 469, 79, 839, 840, 841, 842, 843, 844, 845, 846, 893, 894, 895, 896, 897, 898, 899, 900] (by decide +kernel) (by decide +kernel)) (goodIn_sub (fun _ h => List.mem_append_left _ (List.mem_append_right _ h)) (by decide +kernel))
set_option maxRecDepth 20000 in
theorem gL_law_L_ofGroup : GoodIn wsL_law (va_wsS RL 162 yL_ofGroup wsL_ofGroup) := goodIn_app (goodIn_of _ (by decide +kernel)) ggL_law_L_ofGroup
set_option maxRecDepth 20000 in
theorem ggL_law_X7_ofGroup : GoodIn wsL_law wsX7_ofGroup := goodIn_r _ [661, 213, 106, 214, 215, 5, 216, 217, 218, 219, 570, 571, 572, 573, 281, 847, 848, 849, 850, 851, 852, 853, 854, 855, 856, 857, 858, 859, 860, 861, 862, 863, 864, 865, 866, 867, 868, 869, 870, 871, 872, 873, 874, 875, 876, 877, 878, 879] (by decide +kernel) (by decide +kernel)
set_option maxRecDepth 20000 in
theorem gL_law_X7_ofGroup : GoodIn wsL_law (wsV RL 164 RX7 yX7_ofGroup wsX7_ofGroup) := goodIn_app (goodIn_of _ (by decide +kernel)) ggL_law_X7_ofGroup
set_option maxRecDepth 20000 in
theorem ggL_law_L_share : GoodIn wsL_law wsL_share := goodIn_ca (goodIn_r _ [664, 122, 665, 666, 667, 2, 668, 21, 669, 670, 671, 137, 138, 134, 135, 136, 556, 557, 558, 559, 34, 672, 463, 464, 20, 465, 68, 839, 840, 841, 842, 843, 844, 845, 846, 890, 891, 892] (by decide +kernel) (by decide +kernel)) (goodIn_sub (fun _ h => List.mem_append_left _ (List.mem_append_right _ h)) (by decide +kernel))
set_option maxRecDepth 20000 in
theorem gL_law_L_share : GoodIn wsL_law (va_wsS RL 165 yL_share wsL_share) := goodIn_app (goodIn_of _ (by decide +kernel)) ggL_law_L_share
set_option maxRecDepth 20000 in
theorem ggL_law_X7_share : GoodIn wsL_law wsX7_share := goodIn_r _ [676, 213, 677, 678, 5, 679, 217, 218, 219, 214, 215, 216, 570, 571, 572, 573, 281, 535, 536, 537, 538, 102, 539, 847, 848, 849, 850, 851, 852, 853, 854, 855, 856, 857, 858, 859, 860, 861, 862, 863, 864, 865, 866, 867, 868, 869, 870, 871, 872, 873, 874, 875, 876, 877, 878, 879] (by decide +kernel) (by decide +kernel)
set_option maxRecDepth 20000 in
theorem gL_law_X7_share : GoodIn wsL_law (wsV RL 167 RX7 yX7_share wsX7_share) := goodIn_app (goodIn_of _ (by decide +kernel)) ggL_law_X7_share
set_option maxRecDepth 20000 in
theorem ggL_law_L_index : GoodIn wsL_law wsL_index := goodIn_ca (goodIn_r _ [682, 122, 683, 684, 685, 2, 686, 25, 669, 670, 671, 137, 138, 556, 557, 558, 559, 34, 470, 455, 456, 24, 457, 80, 839, 840, 841, 842, 843, 844, 845, 846, 893, 894, 895, 896, 897, 898, 899, 900] (by decide +kernel) (by decide +kernel)) (goodIn_sub (fun _ h => List.mem_append_left _ (List.mem_append_right _ h)) (by decide +kernel))
set_option maxRecDepth 20000 in
theorem gL_law_L_index : GoodIn wsL_law (va_wsS RL 168 yL_index wsL_index) := goodIn_app (goodIn_of _ (by decide +kernel)) ggL_law_L_index
set_option maxRecDepth 20000 in
theorem ggL_law_X7_index : GoodIn wsL_law wsX7_index := goodIn_r _ [690, 213, 107, 677, 678, 5, 679, 217, 218, 219, 570, 571, 572, 573, 281, 847, 848, 849, 850, 851, 852, 853, 854, 855, 856, 857, 858, 859, 860, 861, 862, 863, 864, 865, 866, 867, 868, 869, 870, 871, 872, 873, 874, 875, 876, 877, 878, 879] (by decide +kernel) (by decide +kernel)
set_option maxRecDepth 20000 in
theorem gL_law_X7_index : GoodIn wsL_law (wsV RL 170 RX7 yX7_index wsX7_index) := goodIn_app (goodIn_of _ (by decide +kernel)) ggL_law_X7_index
set_option maxRecDepth 20000 in
theorem ggL_law_L_indexAnew : GoodIn wsL_law wsL_indexAnew := goodIn_ca (goodIn_r _ [693, 122, 694, 695, 696, 2, 697, 26, 669, 670, 671, 137, 138, 556, 557, 558, 559, 34, 698, 699, 700, 24, 701, 413, 702, 386, 387, 388, 81, 79, 80, 389, 390, 145, 146, 32, 147, 148, 391, 392, 393, 394, 78, 77, 395, 396, 397, 398, 76, 399, 265, 266, 400, 401, 402, 75, 403, 404, 405, 406, 407, 408, 409, 410, 411, 412, 414, 415, 416, 16, 417, 41, 44, 40, 418, 419, 420, 421, 422, 316, 317, 318, 46, 423, 424, 425, 426, 47, 427, 428, 429, 430, 431, 432, 433, 434, 435, 436, 437, 245, 246, 247, 248, 249, 250, 251, 252, 253, 254, 255, 256, 257, 258, 259, 52, 438, 439, 440, 441, 442, 443, 444, 445, 446, 447, 448, 449, 450, 451, 452, 453, 454, 455, 456, 457, 458, 459, 460, 461, 82, 462, 463, 464, 20, 465, 68, 466, 467, 468, 469, 470, 839, 840, 841, 842, 843, 844, 845, 846, 893, 894, 895, 896, 897, 898, 899, 900, 880, 881, 882, 883, 884, 885, 886, 887, 888, 889, 901, 902, 903, 909, 910, 911, 904, 905, 906, 907, 908, 890, 891, 892] (by decide +kernel) (by decide +kernel)) (goodIn_sub (fun _ h => List.mem_append_left _ (List.mem_append_right _ h)) (by decide +kernel))
set_option maxRecDepth 20000 in
theorem gL_law_L_indexAnew : GoodIn wsL_law (va_wsS RL 171 yL_indexAnew wsL_indexAnew) := goodIn_app (goodIn_of _ (by decide +kernel)) ggL_law_L_indexAnew
set_option maxRecDepth 20000 in
theorem ggL_law_X7_indexAnew : GoodIn wsL_law wsX7_indexAnew := goodIn_r _ [706, 707, 688, 689, 5, 690, 213, 107, 677, 678, 679, 217, 218, 219, 570, 571, 572, 573, 281, 847, 848, 849, 850, 851, 852, 853, 854, 855, 856, 857, 858, 859, 860, 861, 862, 863, 864, 865, 866, 867, 868, 869, 870, 871, 872, 873, 874, 875, 876, 877, 878, 879] (by decide +kernel) (by decide +kernel)
set_option maxRecDepth 20000 in
theorem gL_law_X7_indexAnew : GoodIn wsL_law (wsV RL 173 RX7 yX7_indexAnew wsX7_indexAnew) := goodIn_app (goodIn_of _ (by decide +kernel)) ggL_law_X7_indexAnew
set_option maxRecDepth 20000 in
theorem ggL_law_L_corrected : GoodIn wsL_law wsL_corrected := goodIn_ca (goodIn_r _ [710, 122, 711, 712, 713, 2, 714, 26, 669, 670, 671, 137, 138, 556, 557, 558, 559, 34, 698, 699, 700, 24, 701, 413, 702, 386, 387, 388, 81, 79, 80, 389, 390, 145, 146, 32, 147, 148, 391, 392, 393, 394, 78, 77, 395, 396, 397, 398, 76, 399, 265, 266, 400, 401, 402, 75, 403, 404, 405, 406, 407, 408, 409, 410, 411, 412, 414, 415, 416, 16, 417, 41, 44, 40, 418, 419, 420, 421, 422, 316, 317, 318, 46, 423, 424, 425, 426, 47, 427, 428, 429, 430, 431, 432, 433, 434, 435, 436, 437, 245, 246, 247, 248, 249, 250, 251, 252, 253, 254, 255, 256, 257, 258, 259, 52, 438, 439, 440, 441, 442, 443, 444, 445, 446, 447, 448, 449, 450, 451, 452, 453, 454, 455, 456, 457, 458, 459, 460, 461, 82, 462, 463, 464, 20, 465, 68, 466, 467, 468, 469, 470, 839, 840, 841, 842, 843, 844, 845, 846, 893, 894, 895, 896, 897, 898, 899, 900, 880, 881, 882, 883, 884, 885, 886, 887, 888, 889, 901, 902, 903, 909, 910, 911, 904, 905, 906, 907, 908, 890, 891, 892] (by decide +kernel) (by decide +kernel)) (goodIn_sub (fun _ h => List.mem_append_left _ (List.mem_append_right _ h)) (by decide +kernel))
set_option maxRecDepth 20000 in
theorem gL_law_L_corrected : GoodIn wsL_law (va_wsS RL 174 yL_corrected wsL_corrected) := goodIn_app (goodIn_of _ (by decide +kernel)) ggL_law_L_corrected
set_option maxRecDepth 20000 in
theorem ggL_law_X7_corrected : GoodIn wsL_law wsX7_corrected := goodIn_r _ [718, 213, 107, 677, 678, 5, 679, 217, 218, 219, 570, 571, 572, 573, 281, 719, 720, 721, 722, 504, 505, 506, 507, 212, 91, 105, 106, 508, 509, 510, 108, 511, 512, 513, 514, 515, 516, 104, 103, 290, 291, 292, 517, 518, 519, 520, 97, 521, 522, 523, 524, 525, 526, 96, 94, 95, 527, 528, 529, 530, 98, 99, 531, 532, 533, 534, 92, 535, 536, 537, 538, 102, 539, 847, 848, 849, 850, 851, 852, 853, 854, 855, 856, 857, 858, 859, 860, 861, 862, 863, 864, 865, 866, 867, 868, 869, 870, 871, 872, 873, 874, 875, 876, 877, 878, 879] (by decide +kernel) (by decide +kernel)
set_option maxRecDepth 20000 in
theorem gL_law_X7_corrected : GoodIn wsL_law (wsV RL 176 RX7 yX7_corrected wsX7_corrected) := goodIn_app (goodIn_of _ (by decide +kernel)) ggL_law_X7_corrected
set_option maxRecDepth 20000 in
theorem ggL_law_L_published : GoodIn wsL_law wsL_published := goodIn_ca (goodIn_r _ [725, 122, 726, 727, 728, 2, 729, 28, 556, 557, 558, 559, 137, 138, 34, 839, 840, 841, 842, 843, 844, 845, 846] (by decide +kernel) (by decide +kernel)) (goodIn_sub (fun _ h => List.mem_append_left _ (List.mem_append_right _ h)) (by decide +kernel))
set_option maxRecDepth 20000 in
theorem gL_law_L_published : GoodIn wsL_law (va_wsS RL 177 yL_published wsL_published) := goodIn_app (goodIn_of _ (by decide +kernel)) ggL_law_L_published
set_option maxRecDepth 20000 in
theorem ggL_law_X7_published : GoodIn wsL_law wsX7_published := goodIn_r _ [733, 213, 108, 570, 571, 572, 5, 573, 281, 217, 218, 219, 847, 848, 849, 850, 851, 852, 853, 854, 855, 856, 857, 858, 859, 860, 861, 862, 863, 864, 865, 866, 867, 868, 869, 870, 871, 872, 873, 874, 875, 876, 877, 878, 879] (by decide +kernel) (by decide +kernel)
set_option maxRecDepth 20000 in
theorem gL_law_X7_published : GoodIn wsL_law (wsV RL 180 RX7 yX7_published wsX7_published) := goodIn_app (goodIn_of _ (by decide +kernel)) ggL_law_X7_published
set_option maxRecDepth 20000 in
theorem ggL_law_L_growth : GoodIn wsL_law wsL_growth := goodIn_ca (goodIn_r _ [736, 122, 737, 738, 739, 2, 740, 137, 138, 25, 556, 557, 558, 559, 34, 470, 455, 456, 24, 457, 80, 839, 840, 841, 842, 843, 844, 845, 846, 893, 894, 895, 896, 897, 898, 899, 900] (by decide +kernel) (by decide +kernel)) (goodIn_sub (fun _ h => List.mem_append_left _ (List.mem_append_right _ h)) (by decide +kernel))
set_option maxRecDepth 20000 in
theorem gL_law_L_growth : GoodIn wsL_law (va_wsS RL 181 yL_growth wsL_growth) := goodIn_app (goodIn_of _ (by decide +kernel)) ggL_law_L_growth
set_option maxRecDepth 20000 in
theorem ggL_law_X7_growth : GoodIn wsL_law wsX7_growth := goodIn_r _ [744, 213, 107, 570, 571, 572, 5, 573, 281, 217, 218, 219, 847, 848, 849, 850, 851, 852, 853, 854, 855, 856, 857, 858, 859, 860, 861, 862, 863, 864, 865, 866, 867, 868, 869, 870, 871, 872, 873, 874, 875, 876, 877, 878, 879] (by decide +kernel) (by decide +kernel)
set_option maxRecDepth 20000 in
theorem gL_law_X7_growth : GoodIn wsL_law (wsV RL 184 RX7 yX7_growth wsX7_growth) := goodIn_app (goodIn_of _ (by decide +kernel)) ggL_law_X7_growth
set_option maxRecDepth 20000 in
theorem ggL_law_L_core : GoodIn wsL_law wsL_core := goodIn_ca (goodIn_r _ [747, 122, 748, 749, 750, 2, 751, 25, 556, 557, 558, 559, 137, 138, 34, 752, 753, 754, 24, 755, 756, 466, 467, 468, 469, 79, 839, 840, 841, 842, 843, 844, 845, 846, 893, 894, 895, 896, 897, 898, 899, 900] (by decide +kernel) (by decide +kernel)) (goodIn_sub (fun _ h => List.mem_append_left _ (List.mem_append_right _ h)) (by decide +kernel))
set_option maxRecDepth 20000 in
theorem gL_law_L_core : GoodIn wsL_law (va_wsS RL 185 yL_core wsL_core) := goodIn_app (goodIn_of _ (by decide +kernel)) ggL_law_L_core
set_option maxRecDepth 20000 in
theorem ggL_law_X7_core : GoodIn wsL_law wsX7_core := goodIn_r _ [760, 213, 106, 761, 570, 571, 572, 5, 573, 281, 217, 218, 219, 847, 848, 849, 850, 851, 852, 853, 854, 855, 856, 857, 858, 859, 860, 861, 862, 863, 864, 865, 866, 867, 868, 869, 870, 871, 872, 873, 874, 875, 876, 877, 878, 879] (by decide +kernel) (by decide +kernel)
set_option maxRecDepth 20000 in
theorem gL_law_X7_core : GoodIn wsL_law (wsV RL 187 RX7 yX7_core wsX7_core) := goodIn_app (goodIn_of _ (by decide +kernel)) ggL_law_X7_core
set_option maxRecDepth 20000 in
theorem ggL_law_L_direct : GoodIn wsL_law wsL_direct := goodIn_ca (goodIn_r _ [764, 122, 765, 766, 767, 2, 768, 25, 556, 557, 558, 559, 137, 138, 34, 769, 770, 771, 24, 772, 82, 389, 466, 467, 468, 469, 79, 462, 463, 464, 20, 465, 68, 839, 840, 841, 842, 843, 844, 845, 846, 893, 894, 895, 896, 897, 898, 899, 900, 890, 891, 892] (by decide +kernel) (by decide +kernel)) (goodIn_sub (fun _ h => List.mem_append_left _ (List.mem_append_right _ h)) (by decide +kernel))
set_option maxRecDepth 20000 in
theorem gL_law_L_direct : GoodIn wsL_law (va_wsS RL 188 yL_direct wsL_direct) := goodIn_app (goodIn_of _ (by decide +kernel)) ggL_law_L_direct
set_option maxRecDepth 20000 in
theorem ggL_law_X7_direct : GoodIn wsL_law wsX7_direct := goodIn_r _ [776, 213, 106, 508, 570, 571, 572, 5, 573, 281, 217, 218, 219, 535, 536, 537, 538, 102, 539, 847, 848, 849, 850, 851, 852, 853, 854, 855, 856, 857, 858, 859, 860, 861, 862, 863, 864, 865, 866, 867, 868, 869, 870, 871, 872, 873, 874, 875, 876, 877, 878, 879] (by decide +kernel) (by decide +kernel)
set_option maxRecDepth 20000 in
theorem gL_law_X7_direct : GoodIn wsL_law (wsV RL 190 RX7 yX7_direct wsX7_direct) := goodIn_app (goodIn_of _ (by decide +kernel)) ggL_law_X7_direct
set_option maxRecDepth 20000 in
theorem ggL_law_L_doubts : GoodIn wsL_law wsL_doubts := goodIn_ca (goodIn_r _ [779, 122, 780, 781, 782, 2, 783, 25, 556, 557, 558, 559, 137, 138, 34, 784, 785, 786, 24, 787, 81, 788, 268, 269, 16, 270, 40, 418, 419, 420, 421, 77, 422, 316, 317, 318, 46, 423, 424, 425, 426, 47, 789, 616, 617, 618, 409, 410, 411, 412, 413, 414, 415, 416, 417, 41, 44, 427, 428, 429, 430, 431, 432, 839, 840, 841, 842, 843, 844, 845, 846, 893, 894, 895, 896, 897, 898, 899, 900, 880, 881, 882, 883, 884, 885, 886, 887, 888, 889] (by decide +kernel) (by decide +kernel)) (goodIn_sub (fun _ h => List.mem_append_left _ (List.mem_append_right _ h)) (by decide +kernel))
set_option maxRecDepth 20000 in
theorem gL_law_L_doubts : GoodIn wsL_law (va_wsS RL 191 yL_doubts wsL_doubts) := goodIn_app (goodIn_of _ (by decide +kernel)) ggL_law_L_doubts
set_option maxRecDepth 20000 in
theorem ggL_law_X7_doubts : GoodIn wsL_law wsX7_doubts := goodIn_r _ [793, 213, 212, 94, 104, 570, 571, 572, 5, 573, 281, 217, 218, 219, 527, 528, 529, 530, 98, 99, 103, 290, 291, 292, 847, 848, 849, 850, 851, 852, 853, 854, 855, 856, 857, 858, 859, 860, 861, 862, 863, 864, 865, 866, 867, 868, 869, 870, 871, 872, 873, 874, 875, 876, 877, 878, 879] (by decide +kernel) (by decide +kernel)
set_option maxRecDepth 20000 in
theorem gL_law_X7_doubts : GoodIn wsL_law (wsV RL 193 RX7 yX7_doubts wsX7_doubts) := goodIn_app (goodIn_of _ (by decide +kernel)) ggL_law_X7_doubts
set_option maxRecDepth 20000 in
theorem ggL_law_L_ofContract : GoodIn wsL_law wsL_ofContract := goodIn_ca (goodIn_r _ [796, 122, 797, 798, 799, 2, 800, 137, 138, 33, 363, 801, 802, 803, 804, 144, 145, 146, 32, 147, 148, 244, 245, 246, 247, 248, 249, 250, 251, 252, 253, 254, 255, 256, 257, 258, 259, 52, 839, 840, 841, 842, 843, 844, 845, 846, 912, 913, 914, 915, 916, 917, 918, 919, 920, 901, 902, 903] (by decide +kernel) (by decide +kernel)) (goodIn_sub (fun _ h => List.mem_append_left _ (List.mem_append_right _ h)) (by decide +kernel))
set_option maxRecDepth 20000 in
theorem gL_law_L_ofContract : GoodIn wsL_law (va_wsS RL 194 yL_ofContract wsL_ofContract) := goodIn_app (goodIn_of _ (by decide +kernel)) ggL_law_L_ofContract
set_option maxRecDepth 20000 in
theorem ggL_law_X7_ofContract : GoodIn wsL_law wsX7_ofContract := goodIn_r _ [808, 503, 213, 114, 115, 116, 117, 217, 218, 5, 219, 847, 848, 849, 850, 851, 852, 853, 854, 855, 856, 857, 858, 859, 860, 861, 862, 863, 864, 865, 866, 867, 868, 869, 870, 871, 872, 873, 874, 875, 876, 877, 878, 879] (by decide +kernel) (by decide +kernel)
set_option maxRecDepth 20000 in
theorem gL_law_X7_ofContract : GoodIn wsL_law (wsV RL 196 RX7 yX7_ofContract wsX7_ofContract) := goodIn_app (goodIn_of _ (by decide +kernel)) ggL_law_X7_ofContract
set_option maxRecDepth 20000 in
theorem ggL_law_L_owed : GoodIn wsL_law wsL_owed := goodIn_ca (goodIn_r _ [811, 122, 812, 813, 814, 2, 815, 26, 34, 29, 33, 363, 801, 802, 803, 804, 137, 138, 144, 145, 146, 32, 147, 148, 698, 699, 700, 24, 701, 413, 702, 386, 387, 388, 81, 79, 80, 389, 390, 391, 392, 393, 394, 78, 77, 395, 396, 397, 398, 76, 399, 265, 266, 400, 401, 402, 75, 403, 404, 405, 406, 407, 408, 409, 410, 411, 412, 414, 415, 416, 16, 417, 41, 44, 40, 418, 419, 420, 421, 422, 316, 317, 318, 46, 423, 424, 425, 426, 47, 427, 428, 429, 430, 431, 432, 433, 434, 435, 436, 437, 245, 246, 247, 248, 249, 250, 251, 252, 253, 254, 255, 256, 257, 258, 259, 52, 438, 439, 440, 441, 442, 443, 444, 445, 446, 447, 448, 449, 450, 451, 452, 453, 454, 455, 456, 457, 458, 459, 460, 461, 82, 462, 463, 464, 20, 465, 68, 466, 467, 468, 469, 470, 471, 472, 473, 474, 475, 476, 477, 244, 816, 817, 818, 481, 819, 820, 582, 587, 483, 497, 498, 592, 491, 821, 584, 585, 586, 12, 13, 822, 589, 590, 591, 485, 486, 484, 823, 479, 480, 482, 487, 488, 489, 176, 490, 492, 493, 494, 495, 496, 839, 840, 841, 842, 843, 844, 845, 846, 912, 913, 914, 915, 916, 917, 918, 919, 920, 901, 902, 903, 893, 894, 895, 896, 897, 898, 899, 900, 880, 881, 882, 883, 884, 885, 886, 887, 888, 889, 909, 910, 911, 904, 905, 906, 907, 908, 890, 891, 892] (by decide +kernel) (by decide +kernel)) (goodIn_sub (fun _ h => List.mem_append_left _ (List.mem_append_right _ h)) (by decide +kernel))
set_option maxRecDepth 20000 in
theorem gL_law_L_owed : GoodIn wsL_law (va_wsS RL 197 yL_owed wsL_owed) := goodIn_app (goodIn_of _ (by decide +kernel)) ggL_law_L_owed
set_option maxRecDepth 20000 in
theorem ggL_law_X7_owed : GoodIn wsL_law wsX7_owed := goodIn_r _ [827, 503, 213, 281, 112, 113, 108, 109, 117, 217, 218, 5, 219, 719, 720, 721, 722, 504, 505, 506, 507, 212, 91, 105, 106, 107, 508, 509, 510, 511, 512, 513, 514, 515, 516, 104, 103, 290, 291, 292, 517, 518, 519, 520, 97, 521, 522, 523, 524, 525, 526, 96, 94, 95, 527, 528, 529, 530, 98, 99, 531, 532, 533, 534, 92, 535, 536, 537, 538, 102, 539, 540, 541, 542, 543, 544, 110, 111, 545, 546, 547, 548, 847, 848, 849, 850, 851, 852, 853, 854, 855, 856, 857, 858, 859, 860, 861, 862, 863, 864, 865, 866, 867, 868, 869, 870, 871, 872, 873, 874, 875, 876, 877, 878, 879] (by decide +kernel) (by decide +kernel)
