set_option maxRecDepth 20000 in
theorem ggL_item_X6_item : GoodIn wsL_item wsX6_item := goodIn_ca (goodIn_ca (goodIn_ca (goodIn_r _ [8, 9, 10, 11, 12, 13, 14, 15, 16, 7, 17, 18, 19, 20, 21, 22, 23, 24, 25, 26, 27, 28, 29, 30, 31, 32, 33, 34, 35, 36, 37, 38, 39, 40, 41, 42, 43, 44, 45, 46, 47, 48, 49, 50, 51, 52, 53, 54, 55, 56, 57, 58, 59, 60, 61, 62, 63, 64, 65, 66, 67, 68, 69, 70, 71, 72, 73, 74, 75, 76, 77, 78, 79, 80, 81, 82, 83, 84, 85, 86, 87, 88, 89, 90, 91, 92, 93, 94, 95, 96, 97, 98, 99, 100, 101, 102, 103, 104, 105, 106, 107, 108, 109, 110, 111, 112, 113, 114, 115, 116, 117] (by decide +kernel) (by decide +kernel)) (goodIn_sub (fun _ h => List.mem_cons_of_mem _ (List.mem_append_left _ (List.mem_append_left _ (List.mem_append_right _ h)))) (by decide +kernel))) (goodIn_sub (fun _ h => List.mem_cons_of_mem _ (List.mem_append_left _ (List.mem_append_right _ h))) (by decide +kernel))) (goodIn_sub (fun _ h => List.mem_cons_of_mem _ (List.mem_append_right _ h)) (by decide +kernel))
set_option maxRecDepth 20000 in
theorem gL_item_X6_item : GoodIn wsL_item (wsV RL 7 RX6 yX6_item wsX6_item) := goodIn_app (goodIn_of _ (by decide +kernel)) ggL_item_X6_item
theorem dL_item_0 : decode cL_item 0 = .ok (.aload 4, 2) := by decide +kernel
theorem dL_item_2 : decode cL_item 2 = .ok (.iconst 0, 1) := by decide +kernel
theorem dL_item_3 : decode cL_item 3 = .ok (.aload_n 0, 1) := by decide +kernel
theorem dL_item_4 : decode cL_item 4 = .ok (.iload_n 1, 1) := by decide +kernel
theorem dL_item_5 : decode cL_item 5 = .ok (.iload_n 2, 1) := by decide +kernel
theorem dL_item_6 : decode cL_item 6 = .ok (.iload_n 3, 1) := by decide +kernel
theorem dL_item_7 : decode cL_item 7 = .ok (.invokevirtual 7, 3) := by decide +kernel
theorem dL_item_10 : decode cL_item 10 = .ok (.i2l, 1) := by decide +kernel
theorem dL_item_11 : decode cL_item 11 = .ok (.lastore, 1) := by decide +kernel
theorem dL_item_12 : decode cL_item 12 = .ok (.goto 15, 3) := by decide +kernel
theorem dL_item_15 : decode cL_item 15 = .ok (.astore 5, 2) := by decide +kernel
theorem dL_item_17 : decode cL_item 17 = .ok (.iconst 1, 1) := by decide +kernel
theorem dL_item_18 : decode cL_item 18 = .ok (.ireturn, 1) := by decide +kernel
theorem dL_item_19 : decode cL_item 19 = .ok (.astore 5, 2) := by decide +kernel
theorem dL_item_21 : decode cL_item 21 = .ok (.iconst 2, 1) := by decide +kernel
theorem dL_item_22 : decode cL_item 22 = .ok (.ireturn, 1) := by decide +kernel
theorem dL_item_23 : decode cL_item 23 = .ok (.astore 5, 2) := by decide +kernel
theorem dL_item_25 : decode cL_item 25 = .ok (.iconst 3, 1) := by decide +kernel
theorem dL_item_26 : decode cL_item 26 = .ok (.ireturn, 1) := by decide +kernel
theorem dL_item_27 : decode cL_item 27 = .ok (.iconst 0, 1) := by decide +kernel
theorem dL_item_28 : decode cL_item 28 = .ok (.ireturn, 1) := by decide +kernel
set_option maxRecDepth 20000 in
theorem ggL_quote_X6_quote : GoodIn wsL_quote wsX6_quote := goodIn_ca (goodIn_ca (goodIn_ca (goodIn_r _ [8, 9, 10, 11, 12, 13, 14, 15, 16, 17, 7, 18, 19, 20, 21, 22, 23, 24, 25, 26, 27, 28, 29, 30, 31, 32, 33, 34, 35, 36, 37, 38, 39, 40, 41, 42, 43, 44, 45, 46, 47, 48, 49, 50, 51, 52, 53, 54, 55, 56, 57, 58, 59, 60, 61, 62, 63, 64, 65, 66, 67, 68, 69, 70, 71, 72, 73, 74, 75, 76, 77, 78, 79, 80, 81, 82, 83, 84, 85, 86, 87, 88, 89, 90, 91, 92, 93, 94, 95, 96, 97, 98, 99, 100, 101] (by decide +kernel) (by decide +kernel)) (goodIn_sub (fun _ h => List.mem_cons_of_mem _ (List.mem_append_left _ (List.mem_append_left _ (List.mem_append_right _ h)))) (by decide +kernel))) (goodIn_sub (fun _ h => List.mem_cons_of_mem _ (List.mem_append_left _ (List.mem_append_right _ h))) (by decide +kernel))) (goodIn_sub (fun _ h => List.mem_cons_of_mem _ (List.mem_append_right _ h)) (by decide +kernel))
set_option maxRecDepth 20000 in
theorem gL_quote_X6_quote : GoodIn wsL_quote (wsV RL 19 RX6 yX6_quote wsX6_quote) := goodIn_app (goodIn_of _ (by decide +kernel)) ggL_quote_X6_quote
theorem dL_quote_0 : decode cL_quote 0 = .ok (.aload 5, 2) := by decide +kernel
theorem dL_quote_2 : decode cL_quote 2 = .ok (.iconst 0, 1) := by decide +kernel
theorem dL_quote_3 : decode cL_quote 3 = .ok (.aload_n 0, 1) := by decide +kernel
theorem dL_quote_4 : decode cL_quote 4 = .ok (.iload_n 1, 1) := by decide +kernel
theorem dL_quote_5 : decode cL_quote 5 = .ok (.iload_n 2, 1) := by decide +kernel
theorem dL_quote_6 : decode cL_quote 6 = .ok (.iload_n 3, 1) := by decide +kernel
theorem dL_quote_7 : decode cL_quote 7 = .ok (.iload 4, 2) := by decide +kernel
theorem dL_quote_9 : decode cL_quote 9 = .ok (.invokevirtual 19, 3) := by decide +kernel
theorem dL_quote_12 : decode cL_quote 12 = .ok (.i2l, 1) := by decide +kernel
theorem dL_quote_13 : decode cL_quote 13 = .ok (.lastore, 1) := by decide +kernel
theorem dL_quote_14 : decode cL_quote 14 = .ok (.goto 15, 3) := by decide +kernel
theorem dL_quote_17 : decode cL_quote 17 = .ok (.astore 6, 2) := by decide +kernel
theorem dL_quote_19 : decode cL_quote 19 = .ok (.iconst 1, 1) := by decide +kernel
theorem dL_quote_20 : decode cL_quote 20 = .ok (.ireturn, 1) := by decide +kernel
theorem dL_quote_21 : decode cL_quote 21 = .ok (.astore 6, 2) := by decide +kernel
theorem dL_quote_23 : decode cL_quote 23 = .ok (.iconst 2, 1) := by decide +kernel
theorem dL_quote_24 : decode cL_quote 24 = .ok (.ireturn, 1) := by decide +kernel
theorem dL_quote_25 : decode cL_quote 25 = .ok (.astore 6, 2) := by decide +kernel
theorem dL_quote_27 : decode cL_quote 27 = .ok (.iconst 3, 1) := by decide +kernel
theorem dL_quote_28 : decode cL_quote 28 = .ok (.ireturn, 1) := by decide +kernel
theorem dL_quote_29 : decode cL_quote 29 = .ok (.iconst 0, 1) := by decide +kernel
theorem dL_quote_30 : decode cL_quote 30 = .ok (.ireturn, 1) := by decide +kernel
set_option maxRecDepth 20000 in
theorem ggL_confirm_X6_confirm : GoodIn wsL_confirm wsX6_confirm := goodIn_ca (goodIn_ca (goodIn_r _ [7, 8, 9, 10, 11, 12, 6, 13, 14, 15, 16, 17, 18, 19, 20, 21, 22, 23, 24, 25, 26, 27, 28, 29, 30, 31, 32, 33, 34, 35, 36, 37, 38, 39, 40, 41, 42, 43, 44, 45, 46, 47, 48, 49, 50, 51, 52, 53, 54, 55, 56, 57, 58, 59, 60, 61, 62, 63, 64] (by decide +kernel) (by decide +kernel)) (goodIn_sub (fun _ h => List.mem_cons_of_mem _ (List.mem_append_left _ (List.mem_append_right _ h))) (by decide +kernel))) (goodIn_sub (fun _ h => List.mem_cons_of_mem _ (List.mem_append_right _ h)) (by decide +kernel))
set_option maxRecDepth 20000 in
theorem gL_confirm_X6_confirm : GoodIn wsL_confirm (wsV RL 23 RX6 yX6_confirm wsX6_confirm) := goodIn_app (goodIn_of _ (by decide +kernel)) ggL_confirm_X6_confirm
theorem dL_confirm_0 : decode cL_confirm 0 = .ok (.aload_n 3, 1) := by decide +kernel
theorem dL_confirm_1 : decode cL_confirm 1 = .ok (.iconst 0, 1) := by decide +kernel
theorem dL_confirm_2 : decode cL_confirm 2 = .ok (.aload_n 0, 1) := by decide +kernel
theorem dL_confirm_3 : decode cL_confirm 3 = .ok (.iload_n 1, 1) := by decide +kernel
theorem dL_confirm_4 : decode cL_confirm 4 = .ok (.iload_n 2, 1) := by decide +kernel
theorem dL_confirm_5 : decode cL_confirm 5 = .ok (.invokevirtual 23, 3) := by decide +kernel
theorem dL_confirm_8 : decode cL_confirm 8 = .ok (.ifCond .eq 7, 3) := by decide +kernel
theorem dL_confirm_11 : decode cL_confirm 11 = .ok (.lconst 1, 1) := by decide +kernel
theorem dL_confirm_12 : decode cL_confirm 12 = .ok (.goto 4, 3) := by decide +kernel
theorem dL_confirm_15 : decode cL_confirm 15 = .ok (.lconst 0, 1) := by decide +kernel
theorem dL_confirm_16 : decode cL_confirm 16 = .ok (.lastore, 1) := by decide +kernel
theorem dL_confirm_17 : decode cL_confirm 17 = .ok (.goto 11, 3) := by decide +kernel
theorem dL_confirm_20 : decode cL_confirm 20 = .ok (.astore 4, 2) := by decide +kernel
theorem dL_confirm_22 : decode cL_confirm 22 = .ok (.iconst 1, 1) := by decide +kernel
theorem dL_confirm_23 : decode cL_confirm 23 = .ok (.ireturn, 1) := by decide +kernel
theorem dL_confirm_24 : decode cL_confirm 24 = .ok (.astore 4, 2) := by decide +kernel
theorem dL_confirm_26 : decode cL_confirm 26 = .ok (.iconst 2, 1) := by decide +kernel
theorem dL_confirm_27 : decode cL_confirm 27 = .ok (.ireturn, 1) := by decide +kernel
theorem dL_confirm_28 : decode cL_confirm 28 = .ok (.iconst 0, 1) := by decide +kernel
theorem dL_confirm_29 : decode cL_confirm 29 = .ok (.ireturn, 1) := by decide +kernel
set_option maxRecDepth 20000 in
theorem ggL_link_X6_link : GoodIn wsL_link wsX6_link := goodIn_ca (goodIn_ca (goodIn_ca (goodIn_r _ [8, 9, 10, 11, 12, 13, 14, 15, 16, 7, 17, 18, 19, 20, 21, 22, 23, 24, 25, 26, 27, 28, 29, 30, 31, 32, 33, 34, 35, 36, 37, 38, 39, 40, 41, 42, 43, 44, 45, 46, 47, 48, 49, 50, 51, 52, 53, 54, 55, 56, 57, 58, 59, 60, 61, 62, 63, 64, 65, 66, 67, 68, 69, 70, 71, 72] (by decide +kernel) (by decide +kernel)) (goodIn_sub (fun _ h => List.mem_cons_of_mem _ (List.mem_append_left _ (List.mem_append_left _ (List.mem_append_right _ h)))) (by decide +kernel))) (goodIn_sub (fun _ h => List.mem_cons_of_mem _ (List.mem_append_left _ (List.mem_append_right _ h))) (by decide +kernel))) (goodIn_sub (fun _ h => List.mem_cons_of_mem _ (List.mem_append_right _ h)) (by decide +kernel))
set_option maxRecDepth 20000 in
theorem gL_link_X6_link : GoodIn wsL_link (wsV RL 27 RX6 yX6_link wsX6_link) := goodIn_app (goodIn_of _ (by decide +kernel)) ggL_link_X6_link
theorem dL_link_0 : decode cL_link 0 = .ok (.aload_n 0, 1) := by decide +kernel
theorem dL_link_1 : decode cL_link 1 = .ok (.iload_n 1, 1) := by decide +kernel
theorem dL_link_2 : decode cL_link 2 = .ok (.iload_n 2, 1) := by decide +kernel
theorem dL_link_3 : decode cL_link 3 = .ok (.iload_n 3, 1) := by decide +kernel
theorem dL_link_4 : decode cL_link 4 = .ok (.iload 4, 2) := by decide +kernel
theorem dL_link_6 : decode cL_link 6 = .ok (.invokevirtual 27, 3) := by decide +kernel
theorem dL_link_9 : decode cL_link 9 = .ok (.goto 15, 3) := by decide +kernel
theorem dL_link_12 : decode cL_link 12 = .ok (.astore 5, 2) := by decide +kernel
theorem dL_link_14 : decode cL_link 14 = .ok (.iconst 1, 1) := by decide +kernel
theorem dL_link_15 : decode cL_link 15 = .ok (.ireturn, 1) := by decide +kernel
theorem dL_link_16 : decode cL_link 16 = .ok (.astore 5, 2) := by decide +kernel
theorem dL_link_18 : decode cL_link 18 = .ok (.iconst 2, 1) := by decide +kernel
theorem dL_link_19 : decode cL_link 19 = .ok (.ireturn, 1) := by decide +kernel
theorem dL_link_20 : decode cL_link 20 = .ok (.astore 5, 2) := by decide +kernel
theorem dL_link_22 : decode cL_link 22 = .ok (.iconst 3, 1) := by decide +kernel
theorem dL_link_23 : decode cL_link 23 = .ok (.ireturn, 1) := by decide +kernel
theorem dL_link_24 : decode cL_link 24 = .ok (.iconst 0, 1) := by decide +kernel
theorem dL_link_25 : decode cL_link 25 = .ok (.ireturn, 1) := by decide +kernel
set_option maxRecDepth 20000 in
theorem ggL_spend_X6_spend : GoodIn wsL_spend wsX6_spend := goodIn_ca (goodIn_ca (goodIn_r _ [7, 8, 9, 10, 11, 12, 13, 6, 14, 15, 16, 17, 18, 19, 20, 21, 22, 23, 24, 25, 26, 27, 28, 29, 30, 31, 32, 33, 34, 35, 36] (by decide +kernel) (by decide +kernel)) (goodIn_sub (fun _ h => List.mem_cons_of_mem _ (List.mem_append_left _ (List.mem_append_right _ h))) (by decide +kernel))) (goodIn_sub (fun _ h => List.mem_cons_of_mem _ (List.mem_append_right _ h)) (by decide +kernel))
set_option maxRecDepth 20000 in
theorem gL_spend_X6_spend : GoodIn wsL_spend (wsV RL 31 RX6 yX6_spend wsX6_spend) := goodIn_app (goodIn_of _ (by decide +kernel)) ggL_spend_X6_spend
theorem dL_spend_0 : decode cL_spend 0 = .ok (.aload 4, 2) := by decide +kernel
theorem dL_spend_2 : decode cL_spend 2 = .ok (.iconst 0, 1) := by decide +kernel
theorem dL_spend_3 : decode cL_spend 3 = .ok (.aload_n 0, 1) := by decide +kernel
theorem dL_spend_4 : decode cL_spend 4 = .ok (.iload_n 1, 1) := by decide +kernel
theorem dL_spend_5 : decode cL_spend 5 = .ok (.iload_n 2, 1) := by decide +kernel
theorem dL_spend_6 : decode cL_spend 6 = .ok (.iload_n 3, 1) := by decide +kernel
theorem dL_spend_7 : decode cL_spend 7 = .ok (.invokevirtual 31, 3) := by decide +kernel
theorem dL_spend_10 : decode cL_spend 10 = .ok (.i2l, 1) := by decide +kernel
theorem dL_spend_11 : decode cL_spend 11 = .ok (.lastore, 1) := by decide +kernel
theorem dL_spend_12 : decode cL_spend 12 = .ok (.goto 11, 3) := by decide +kernel
theorem dL_spend_15 : decode cL_spend 15 = .ok (.astore 5, 2) := by decide +kernel
theorem dL_spend_17 : decode cL_spend 17 = .ok (.iconst 1, 1) := by decide +kernel
theorem dL_spend_18 : decode cL_spend 18 = .ok (.ireturn, 1) := by decide +kernel
theorem dL_spend_19 : decode cL_spend 19 = .ok (.astore 5, 2) := by decide +kernel
theorem dL_spend_21 : decode cL_spend 21 = .ok (.iconst 2, 1) := by decide +kernel
theorem dL_spend_22 : decode cL_spend 22 = .ok (.ireturn, 1) := by decide +kernel
theorem dL_spend_23 : decode cL_spend 23 = .ok (.iconst 0, 1) := by decide +kernel
theorem dL_spend_24 : decode cL_spend 24 = .ok (.ireturn, 1) := by decide +kernel
set_option maxRecDepth 20000 in
theorem ggL_publish_X6_publish : GoodIn wsL_publish wsX6_publish := goodIn_ca (goodIn_r _ [6, 7, 8, 9, 10, 11, 12, 13, 14, 15, 16, 5, 17, 18, 19, 20, 21, 22, 23, 24, 25, 26, 27, 28, 29, 30, 31, 32, 33, 34, 35, 36, 37, 38, 39, 40, 41, 42, 43, 44, 45, 46, 47, 48, 49, 50, 51, 52, 53, 54, 55, 56, 57, 58, 59, 60, 61, 62, 63, 64, 65, 66, 67, 68, 69, 70, 71, 72, 73, 74, 75, 76, 77, 78, 79, 80, 81, 82, 83, 84, 85, 86, 87, 88, 89, 90, 91, 92, 93, 94, 95, 96, 97, 98, 99, 100, 101, 102, 103, 104, 105, 106, 107, 108, 109, 110, 111, 112, 113, 114, 115, 116, 117, 118, 119, 120, 121, 122, 123, 124, 125, 126, 127, 128, 129, 130, 131, 132, 133, 134, 135, 136, 137, 138, 139, 140, 141, 142, 143, 144, 145, 146, 147, 148, 149, 150, 151, 152, 153, 154, 155, 156, 157, 158, 159, 160, 161, 162, 163, 164, 165, 166, 167, 168, 169, 170, 171, 172, 173, 174, 175, 176, 177, 178, 179, 180, 181, 182, 183, 184, 185, 186, 187, 188, 189, 190, 191, 192, 193, 194, 195, 196, 197, 198, 199, 200, 201, 202, 203, 204, 205, 206, 207, 208, 209, 210, 211, 212, 213, 214, 215, 216, 217, 218, 219, 220, 221, 222, 223, 224, 225, 226, 227, 228, 229, 230, 231, 232, 233, 234, 235, 236, 237, 238, 239, 240, 241, 242, 243, 244, 245, 246, 247, 248, 249, 250] (by decide +kernel) (by decide +kernel)) (goodIn_sub (fun _ h => List.mem_cons_of_mem _ (List.mem_append_right _ h)) (by decide +kernel))
set_option maxRecDepth 20000 in
theorem gL_publish_X6_publish : GoodIn wsL_publish (wsV RL 34 RX6 yX6_publish wsX6_publish) := goodIn_app (goodIn_of _ (by decide +kernel)) ggL_publish_X6_publish
theorem dL_publish_0 : decode cL_publish 0 = .ok (.aload_n 1, 1) := by decide +kernel
theorem dL_publish_1 : decode cL_publish 1 = .ok (.iconst 0, 1) := by decide +kernel
theorem dL_publish_2 : decode cL_publish 2 = .ok (.aload_n 0, 1) := by decide +kernel
theorem dL_publish_3 : decode cL_publish 3 = .ok (.invokevirtual 34, 3) := by decide +kernel
theorem dL_publish_6 : decode cL_publish 6 = .ok (.i2l, 1) := by decide +kernel
theorem dL_publish_7 : decode cL_publish 7 = .ok (.lastore, 1) := by decide +kernel
theorem dL_publish_8 : decode cL_publish 8 = .ok (.goto 6, 3) := by decide +kernel
theorem dL_publish_11 : decode cL_publish 11 = .ok (.astore_n 2, 1) := by decide +kernel
theorem dL_publish_12 : decode cL_publish 12 = .ok (.iconst 1, 1) := by decide +kernel
theorem dL_publish_13 : decode cL_publish 13 = .ok (.ireturn, 1) := by decide +kernel
theorem dL_publish_14 : decode cL_publish 14 = .ok (.iconst 0, 1) := by decide +kernel
theorem dL_publish_15 : decode cL_publish 15 = .ok (.ireturn, 1) := by decide +kernel
set_option maxRecDepth 20000 in
theorem ggL_fix_X6_fix : GoodIn wsL_fix wsX6_fix := goodIn_ca (goodIn_ca (goodIn_ca (goodIn_r _ [8, 9, 10, 11, 12, 13, 7, 14, 15, 16, 17, 18, 19, 20, 21, 22, 23, 24, 25, 26, 27, 28, 29, 30, 31, 32, 33, 34, 35, 36, 37, 38, 39, 40, 41, 42, 43, 44, 45, 46, 47, 48, 49, 50, 51, 52, 53, 54, 55, 56, 57, 58, 59, 60, 61, 62, 63, 64, 65, 66, 67, 68, 69, 70, 71, 72, 73, 74, 75, 76, 77, 78] (by decide +kernel) (by decide +kernel)) (goodIn_sub (fun _ h => List.mem_cons_of_mem _ (List.mem_append_left _ (List.mem_append_left _ (List.mem_append_right _ h)))) (by decide +kernel))) (goodIn_sub (fun _ h => List.mem_cons_of_mem _ (List.mem_append_left _ (List.mem_append_right _ h))) (by decide +kernel))) (goodIn_sub (fun _ h => List.mem_cons_of_mem _ (List.mem_append_right _ h)) (by decide +kernel))
set_option maxRecDepth 20000 in
theorem gL_fix_X6_fix : GoodIn wsL_fix (wsV RL 38 RX6 yX6_fix wsX6_fix) := goodIn_app (goodIn_of _ (by decide +kernel)) ggL_fix_X6_fix
theorem dL_fix_0 : decode cL_fix 0 = .ok (.aload 5, 2) := by decide +kernel
theorem dL_fix_2 : decode cL_fix 2 = .ok (.iconst 0, 1) := by decide +kernel
theorem dL_fix_3 : decode cL_fix 3 = .ok (.aload_n 0, 1) := by decide +kernel
theorem dL_fix_4 : decode cL_fix 4 = .ok (.iload_n 1, 1) := by decide +kernel
theorem dL_fix_5 : decode cL_fix 5 = .ok (.iload_n 2, 1) := by decide +kernel
theorem dL_fix_6 : decode cL_fix 6 = .ok (.iload_n 3, 1) := by decide +kernel
theorem dL_fix_7 : decode cL_fix 7 = .ok (.iload 4, 2) := by decide +kernel
theorem dL_fix_9 : decode cL_fix 9 = .ok (.invokevirtual 38, 3) := by decide +kernel
theorem dL_fix_12 : decode cL_fix 12 = .ok (.i2l, 1) := by decide +kernel
theorem dL_fix_13 : decode cL_fix 13 = .ok (.lastore, 1) := by decide +kernel
theorem dL_fix_14 : decode cL_fix 14 = .ok (.goto 15, 3) := by decide +kernel
theorem dL_fix_17 : decode cL_fix 17 = .ok (.astore 6, 2) := by decide +kernel
theorem dL_fix_19 : decode cL_fix 19 = .ok (.iconst 1, 1) := by decide +kernel
theorem dL_fix_20 : decode cL_fix 20 = .ok (.ireturn, 1) := by decide +kernel
theorem dL_fix_21 : decode cL_fix 21 = .ok (.astore 6, 2) := by decide +kernel
theorem dL_fix_23 : decode cL_fix 23 = .ok (.iconst 2, 1) := by decide +kernel
theorem dL_fix_24 : decode cL_fix 24 = .ok (.ireturn, 1) := by decide +kernel
theorem dL_fix_25 : decode cL_fix 25 = .ok (.astore 6, 2) := by decide +kernel
theorem dL_fix_27 : decode cL_fix 27 = .ok (.iconst 3, 1) := by decide +kernel
theorem dL_fix_28 : decode cL_fix 28 = .ok (.ireturn, 1) := by decide +kernel
theorem dL_fix_29 : decode cL_fix 29 = .ok (.iconst 0, 1) := by decide +kernel
theorem dL_fix_30 : decode cL_fix 30 = .ok (.ireturn, 1) := by decide +kernel
set_option maxRecDepth 20000 in
theorem ggL_contract_X6_contract : GoodIn wsL_contract wsX6_contract := goodIn_ca (goodIn_ca (goodIn_r _ [7, 8, 9, 10, 11, 12, 13, 14, 15, 16, 17, 18, 6, 19, 20, 21, 22, 23, 24, 25, 26, 27, 28, 29, 30, 31, 32, 33, 34, 35, 36, 37, 38, 39, 40, 41, 42, 43, 44, 45, 46, 47, 48, 49, 50, 51, 52, 53, 54, 55, 56, 57, 58, 59, 60, 61, 62, 63, 64, 65, 66, 67, 68, 69, 70, 71, 72, 73, 74, 75, 76, 77, 78, 79, 80, 81, 82, 83, 84, 85, 86, 87, 88, 89, 90, 91, 92, 93, 94, 95, 96, 97, 98, 99, 100, 101, 102, 103, 104, 105, 106, 107, 108, 109, 110, 111, 112, 113, 114, 115, 116, 117, 118, 119, 120] (by decide +kernel) (by decide +kernel)) (goodIn_sub (fun _ h => List.mem_cons_of_mem _ (List.mem_append_left _ (List.mem_append_right _ h))) (by decide +kernel))) (goodIn_sub (fun _ h => List.mem_cons_of_mem _ (List.mem_append_right _ h)) (by decide +kernel))
set_option maxRecDepth 20000 in
theorem gL_contract_X6_contract : GoodIn wsL_contract (wsV RL 41 RX6 yX6_contract wsX6_contract) := goodIn_app (goodIn_of _ (by decide +kernel)) ggL_contract_X6_contract
theorem dL_contract_0 : decode cL_contract 0 = .ok (.aload 5, 2) := by decide +kernel
theorem dL_contract_2 : decode cL_contract 2 = .ok (.iconst 0, 1) := by decide +kernel
theorem dL_contract_3 : decode cL_contract 3 = .ok (.aload_n 0, 1) := by decide +kernel
theorem dL_contract_4 : decode cL_contract 4 = .ok (.iload_n 1, 1) := by decide +kernel
theorem dL_contract_5 : decode cL_contract 5 = .ok (.iload_n 2, 1) := by decide +kernel
theorem dL_contract_6 : decode cL_contract 6 = .ok (.iload_n 3, 1) := by decide +kernel
theorem dL_contract_7 : decode cL_contract 7 = .ok (.iload 4, 2) := by decide +kernel
theorem dL_contract_9 : decode cL_contract 9 = .ok (.invokevirtual 41, 3) := by decide +kernel
theorem dL_contract_12 : decode cL_contract 12 = .ok (.i2l, 1) := by decide +kernel
theorem dL_contract_13 : decode cL_contract 13 = .ok (.lastore, 1) := by decide +kernel
theorem dL_contract_14 : decode cL_contract 14 = .ok (.goto 11, 3) := by decide +kernel
theorem dL_contract_17 : decode cL_contract 17 = .ok (.astore 6, 2) := by decide +kernel
theorem dL_contract_19 : decode cL_contract 19 = .ok (.iconst 1, 1) := by decide +kernel
theorem dL_contract_20 : decode cL_contract 20 = .ok (.ireturn, 1) := by decide +kernel
theorem dL_contract_21 : decode cL_contract 21 = .ok (.astore 6, 2) := by decide +kernel
theorem dL_contract_23 : decode cL_contract 23 = .ok (.iconst 2, 1) := by decide +kernel
theorem dL_contract_24 : decode cL_contract 24 = .ok (.ireturn, 1) := by decide +kernel
theorem dL_contract_25 : decode cL_contract 25 = .ok (.iconst 0, 1) := by decide +kernel
theorem dL_contract_26 : decode cL_contract 26 = .ok (.ireturn, 1) := by decide +kernel
set_option maxRecDepth 20000 in
theorem ggL_price_X6_price : GoodIn wsL_price wsX6_price := goodIn_ca (goodIn_r _ [6, 7, 8, 9, 10, 5, 11, 12, 13, 14, 15, 16, 17, 18, 19, 20, 21, 22, 23, 24, 25, 26, 27, 28, 29, 30, 31, 32, 33, 34, 35, 36, 37, 38, 39, 40, 41, 42, 43, 44, 45, 46, 47, 48, 49, 50, 51, 52, 53, 54, 55, 56, 57, 58, 59, 60] (by decide +kernel) (by decide +kernel)) (goodIn_sub (fun _ h => List.mem_cons_of_mem _ (List.mem_append_right _ h)) (by decide +kernel))
set_option maxRecDepth 20000 in
theorem gL_price_X6_price : GoodIn wsL_price (wsV RL 45 RX6 yX6_price wsX6_price) := goodIn_app (goodIn_of _ (by decide +kernel)) ggL_price_X6_price
theorem dL_price_0 : decode cL_price 0 = .ok (.aload 4, 2) := by decide +kernel
theorem dL_price_2 : decode cL_price 2 = .ok (.iconst 0, 1) := by decide +kernel
theorem dL_price_3 : decode cL_price 3 = .ok (.aload_n 0, 1) := by decide +kernel
theorem dL_price_4 : decode cL_price 4 = .ok (.iload_n 1, 1) := by decide +kernel
theorem dL_price_5 : decode cL_price 5 = .ok (.iload_n 2, 1) := by decide +kernel
theorem dL_price_6 : decode cL_price 6 = .ok (.iload_n 3, 1) := by decide +kernel
theorem dL_price_7 : decode cL_price 7 = .ok (.invokevirtual 45, 3) := by decide +kernel
theorem dL_price_10 : decode cL_price 10 = .ok (.dastore, 1) := by decide +kernel
theorem dL_price_11 : decode cL_price 11 = .ok (.goto 7, 3) := by decide +kernel
theorem dL_price_14 : decode cL_price 14 = .ok (.astore 5, 2) := by decide +kernel
theorem dL_price_16 : decode cL_price 16 = .ok (.iconst 1, 1) := by decide +kernel
theorem dL_price_17 : decode cL_price 17 = .ok (.ireturn, 1) := by decide +kernel
theorem dL_price_18 : decode cL_price 18 = .ok (.iconst 0, 1) := by decide +kernel
theorem dL_price_19 : decode cL_price 19 = .ok (.ireturn, 1) := by decide +kernel
set_option maxRecDepth 20000 in
theorem ggL_isMatched_X6_isMatched : GoodIn wsL_isMatched wsX6_isMatched := goodIn_ca (goodIn_r _ [6, 7, 8, 9, 10, 5, 11, 12, 13, 14, 15, 16, 17, 18, 19, 20, 21, 22, 23, 24, 25, 26, 27, 28, 29, 30, 31, 32, 33, 34, 35, 36, 37, 38, 39, 40, 41, 42, 43, 44, 45, 46, 47, 48, 49, 50, 51, 52, 53, 54, 55, 56, 57, 58, 59, 60, 61, 62, 63, 64, 65, 66, 67, 68, 69, 70, 71, 72, 73, 74, 75, 76, 77, 78, 79, 80, 81, 82, 83, 84, 85, 86, 87, 88, 89, 90, 91, 92, 93, 94, 95, 96, 97, 98, 99, 100] (by decide +kernel) (by decide +kernel)) (goodIn_sub (fun _ h => List.mem_cons_of_mem _ (List.mem_append_right _ h)) (by decide +kernel))
set_option maxRecDepth 20000 in
theorem gL_isMatched_X6_isMatched : GoodIn wsL_isMatched (wsV RL 49 RX6 yX6_isMatched wsX6_isMatched) := goodIn_app (goodIn_of _ (by decide +kernel)) ggL_isMatched_X6_isMatched
theorem dL_isMatched_0 : decode cL_isMatched 0 = .ok (.aload 4, 2) := by decide +kernel
theorem dL_isMatched_2 : decode cL_isMatched 2 = .ok (.iconst 0, 1) := by decide +kernel
theorem dL_isMatched_3 : decode cL_isMatched 3 = .ok (.aload_n 0, 1) := by decide +kernel
theorem dL_isMatched_4 : decode cL_isMatched 4 = .ok (.iload_n 1, 1) := by decide +kernel
theorem dL_isMatched_5 : decode cL_isMatched 5 = .ok (.iload_n 2, 1) := by decide +kernel
theorem dL_isMatched_6 : decode cL_isMatched 6 = .ok (.iload_n 3, 1) := by decide +kernel
theorem dL_isMatched_7 : decode cL_isMatched 7 = .ok (.invokevirtual 49, 3) := by decide +kernel
theorem dL_isMatched_10 : decode cL_isMatched 10 = .ok (.ifCond .eq 7, 3) := by decide +kernel
theorem dL_isMatched_13 : decode cL_isMatched 13 = .ok (.lconst 1, 1) := by decide +kernel
theorem dL_isMatched_14 : decode cL_isMatched 14 = .ok (.goto 4, 3) := by decide +kernel
theorem dL_isMatched_17 : decode cL_isMatched 17 = .ok (.lconst 0, 1) := by decide +kernel
theorem dL_isMatched_18 : decode cL_isMatched 18 = .ok (.lastore, 1) := by decide +kernel
theorem dL_isMatched_19 : decode cL_isMatched 19 = .ok (.goto 7, 3) := by decide +kernel
theorem dL_isMatched_22 : decode cL_isMatched 22 = .ok (.astore 5, 2) := by decide +kernel
theorem dL_isMatched_24 : decode cL_isMatched 24 = .ok (.iconst 1, 1) := by decide +kernel
theorem dL_isMatched_25 : decode cL_isMatched 25 = .ok (.ireturn, 1) := by decide +kernel
theorem dL_isMatched_26 : decode cL_isMatched 26 = .ok (.iconst 0, 1) := by decide +kernel
theorem dL_isMatched_27 : decode cL_isMatched 27 = .ok (.ireturn, 1) := by decide +kernel
set_option maxRecDepth 20000 in
theorem ggL_relative_X6_relative : GoodIn wsL_relative wsX6_relative := goodIn_ca (goodIn_r _ [6, 7, 8, 9, 10, 5, 11, 12, 13, 14, 15, 16, 17, 18, 19, 20, 21, 22, 23, 24, 25, 26, 27, 28, 29, 30, 31, 32, 33, 34, 35, 36, 37, 38, 39, 40, 41, 42, 43, 44, 45, 46, 47, 48, 49, 50, 51, 52, 53, 54, 55, 56, 57, 58, 59, 60] (by decide +kernel) (by decide +kernel)) (goodIn_sub (fun _ h => List.mem_cons_of_mem _ (List.mem_append_right _ h)) (by decide +kernel))
set_option maxRecDepth 20000 in
theorem gL_relative_X6_relative : GoodIn wsL_relative (wsV RL 53 RX6 yX6_relative wsX6_relative) := goodIn_app (goodIn_of _ (by decide +kernel)) ggL_relative_X6_relative
theorem dL_relative_0 : decode cL_relative 0 = .ok (.aload_n 3, 1) := by decide +kernel
theorem dL_relative_1 : decode cL_relative 1 = .ok (.iconst 0, 1) := by decide +kernel
theorem dL_relative_2 : decode cL_relative 2 = .ok (.aload_n 0, 1) := by decide +kernel
theorem dL_relative_3 : decode cL_relative 3 = .ok (.iload_n 1, 1) := by decide +kernel
theorem dL_relative_4 : decode cL_relative 4 = .ok (.iload_n 2, 1) := by decide +kernel
theorem dL_relative_5 : decode cL_relative 5 = .ok (.invokevirtual 53, 3) := by decide +kernel
theorem dL_relative_8 : decode cL_relative 8 = .ok (.dastore, 1) := by decide +kernel
theorem dL_relative_9 : decode cL_relative 9 = .ok (.goto 7, 3) := by decide +kernel
theorem dL_relative_12 : decode cL_relative 12 = .ok (.astore 4, 2) := by decide +kernel
theorem dL_relative_14 : decode cL_relative 14 = .ok (.iconst 1, 1) := by decide +kernel
theorem dL_relative_15 : decode cL_relative 15 = .ok (.ireturn, 1) := by decide +kernel
theorem dL_relative_16 : decode cL_relative 16 = .ok (.iconst 0, 1) := by decide +kernel
theorem dL_relative_17 : decode cL_relative 17 = .ok (.ireturn, 1) := by decide +kernel
set_option maxRecDepth 20000 in
theorem ggL_bounce_X6_bounce : GoodIn wsL_bounce wsX6_bounce := goodIn_ca (goodIn_r _ [6, 7, 8, 9, 10, 5, 11, 12, 13, 14, 15, 16, 17, 18, 19, 20, 21, 22, 23, 24, 25, 26, 27, 28, 29, 30, 31, 32, 33, 34, 35, 36, 37, 38, 39, 40, 41, 42, 43, 44, 45, 46, 47, 48, 49, 50, 51, 52, 53, 54, 55, 56, 57, 58, 59, 60, 61, 62, 63, 64, 65, 66, 67, 68, 69, 70, 71, 72, 73, 74, 75, 76, 77, 78, 79, 80, 81, 82, 83, 84, 85, 86, 87, 88, 89, 90, 91, 92, 93, 94, 95, 96, 97, 98, 99, 100, 101, 102, 103, 104, 105, 106, 107, 108, 109, 110, 111, 112, 113, 114, 115, 116, 117, 118, 119, 120, 121, 122, 123, 124, 125, 126, 127, 128, 129, 130, 131, 132, 133, 134, 135, 136, 137, 138, 139, 140, 141, 142, 143, 144, 145, 146, 147, 148, 149, 150] (by decide +kernel) (by decide +kernel)) (goodIn_sub (fun _ h => List.mem_cons_of_mem _ (List.mem_append_right _ h)) (by decide +kernel))
set_option maxRecDepth 20000 in
theorem gL_bounce_X6_bounce : GoodIn wsL_bounce (wsV RL 57 RX6 yX6_bounce wsX6_bounce) := goodIn_app (goodIn_of _ (by decide +kernel)) ggL_bounce_X6_bounce
theorem dL_bounce_0 : decode cL_bounce 0 = .ok (.aload_n 3, 1) := by decide +kernel
theorem dL_bounce_1 : decode cL_bounce 1 = .ok (.iconst 0, 1) := by decide +kernel
theorem dL_bounce_2 : decode cL_bounce 2 = .ok (.aload_n 0, 1) := by decide +kernel
theorem dL_bounce_3 : decode cL_bounce 3 = .ok (.iload_n 1, 1) := by decide +kernel
theorem dL_bounce_4 : decode cL_bounce 4 = .ok (.iload_n 2, 1) := by decide +kernel
theorem dL_bounce_5 : decode cL_bounce 5 = .ok (.invokevirtual 57, 3) := by decide +kernel
theorem dL_bounce_8 : decode cL_bounce 8 = .ok (.dastore, 1) := by decide +kernel
theorem dL_bounce_9 : decode cL_bounce 9 = .ok (.goto 7, 3) := by decide +kernel
theorem dL_bounce_12 : decode cL_bounce 12 = .ok (.astore 4, 2) := by decide +kernel
theorem dL_bounce_14 : decode cL_bounce 14 = .ok (.iconst 1, 1) := by decide +kernel
theorem dL_bounce_15 : decode cL_bounce 15 = .ok (.ireturn, 1) := by decide +kernel
theorem dL_bounce_16 : decode cL_bounce 16 = .ok (.iconst 0, 1) := by decide +kernel
theorem dL_bounce_17 : decode cL_bounce 17 = .ok (.ireturn, 1) := by decide +kernel
set_option maxRecDepth 20000 in
theorem ggL_ofGroup_X6_ofGroup : GoodIn wsL_ofGroup wsX6_ofGroup := goodIn_ca (goodIn_r _ [6, 7, 8, 9, 5, 10, 11, 12, 13, 14, 15, 16, 17, 18, 19, 20, 21, 22, 23, 24, 25, 26, 27, 28, 29, 30, 31, 32, 33, 34, 35, 36, 37, 38, 39] (by decide +kernel) (by decide +kernel)) (goodIn_sub (fun _ h => List.mem_cons_of_mem _ (List.mem_append_right _ h)) (by decide +kernel))
set_option maxRecDepth 20000 in
theorem gL_ofGroup_X6_ofGroup : GoodIn wsL_ofGroup (wsV RL 60 RX6 yX6_ofGroup wsX6_ofGroup) := goodIn_app (goodIn_of _ (by decide +kernel)) ggL_ofGroup_X6_ofGroup
theorem dL_ofGroup_0 : decode cL_ofGroup 0 = .ok (.aload_n 3, 1) := by decide +kernel
theorem dL_ofGroup_1 : decode cL_ofGroup 1 = .ok (.iconst 0, 1) := by decide +kernel
theorem dL_ofGroup_2 : decode cL_ofGroup 2 = .ok (.aload_n 0, 1) := by decide +kernel
theorem dL_ofGroup_3 : decode cL_ofGroup 3 = .ok (.iload_n 1, 1) := by decide +kernel
theorem dL_ofGroup_4 : decode cL_ofGroup 4 = .ok (.iload_n 2, 1) := by decide +kernel
theorem dL_ofGroup_5 : decode cL_ofGroup 5 = .ok (.invokevirtual 60, 3) := by decide +kernel
theorem dL_ofGroup_8 : decode cL_ofGroup 8 = .ok (.dastore, 1) := by decide +kernel
theorem dL_ofGroup_9 : decode cL_ofGroup 9 = .ok (.goto 7, 3) := by decide +kernel
theorem dL_ofGroup_12 : decode cL_ofGroup 12 = .ok (.astore 4, 2) := by decide +kernel
theorem dL_ofGroup_14 : decode cL_ofGroup 14 = .ok (.iconst 1, 1) := by decide +kernel
theorem dL_ofGroup_15 : decode cL_ofGroup 15 = .ok (.ireturn, 1) := by decide +kernel
theorem dL_ofGroup_16 : decode cL_ofGroup 16 = .ok (.iconst 0, 1) := by decide +kernel
theorem dL_ofGroup_17 : decode cL_ofGroup 17 = .ok (.ireturn, 1) := by decide +kernel
set_option maxRecDepth 20000 in
theorem ggL_share_X6_share : GoodIn wsL_share wsX6_share := goodIn_ca (goodIn_r _ [6, 7, 8, 9, 5, 10, 11, 12, 13, 14, 15, 16, 17, 18, 19, 20, 21, 22, 23, 24, 25, 26, 27, 28, 29, 30, 31, 32, 33, 34, 35, 36, 37] (by decide +kernel) (by decide +kernel)) (goodIn_sub (fun _ h => List.mem_cons_of_mem _ (List.mem_append_right _ h)) (by decide +kernel))
set_option maxRecDepth 20000 in
theorem gL_share_X6_share : GoodIn wsL_share (wsV RL 63 RX6 yX6_share wsX6_share) := goodIn_app (goodIn_of _ (by decide +kernel)) ggL_share_X6_share
theorem dL_share_0 : decode cL_share 0 = .ok (.aload 4, 2) := by decide +kernel
theorem dL_share_2 : decode cL_share 2 = .ok (.iconst 0, 1) := by decide +kernel
theorem dL_share_3 : decode cL_share 3 = .ok (.aload_n 0, 1) := by decide +kernel
theorem dL_share_4 : decode cL_share 4 = .ok (.iload_n 1, 1) := by decide +kernel
theorem dL_share_5 : decode cL_share 5 = .ok (.iload_n 2, 1) := by decide +kernel
theorem dL_share_6 : decode cL_share 6 = .ok (.iload_n 3, 1) := by decide +kernel
theorem dL_share_7 : decode cL_share 7 = .ok (.invokevirtual 63, 3) := by decide +kernel
theorem dL_share_10 : decode cL_share 10 = .ok (.dastore, 1) := by decide +kernel
theorem dL_share_11 : decode cL_share 11 = .ok (.goto 7, 3) := by decide +kernel
theorem dL_share_14 : decode cL_share 14 = .ok (.astore 5, 2) := by decide +kernel
theorem dL_share_16 : decode cL_share 16 = .ok (.iconst 1, 1) := by decide +kernel
theorem dL_share_17 : decode cL_share 17 = .ok (.ireturn, 1) := by decide +kernel
theorem dL_share_18 : decode cL_share 18 = .ok (.iconst 0, 1) := by decide +kernel
theorem dL_share_19 : decode cL_share 19 = .ok (.ireturn, 1) := by decide +kernel
set_option maxRecDepth 20000 in
theorem ggL_index_X6_index : GoodIn wsL_index wsX6_index := goodIn_ca (goodIn_r _ [6, 7, 8, 9, 5, 10, 11, 12, 13, 14, 15, 16, 17, 18, 19, 20, 21, 22, 23, 24, 25, 26, 27, 28, 29, 30, 31, 32, 33, 34, 35, 36, 37, 38, 39] (by decide +kernel) (by decide +kernel)) (goodIn_sub (fun _ h => List.mem_cons_of_mem _ (List.mem_append_right _ h)) (by decide +kernel))
