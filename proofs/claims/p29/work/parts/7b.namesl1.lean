theorem dL_cell_0 : decode cL_cell 0 = .ok (.iload_n 1, 1) := by decide +kernel
theorem dL_cell_1 : decode cL_cell 1 = .ok (.aload_n 0, 1) := by decide +kernel
theorem dL_cell_2 : decode cL_cell 2 = .ok (.arraylength, 1) := by decide +kernel
theorem dL_cell_3 : decode cL_cell 3 = .ok (.if_icmp .ge 9, 3) := by decide +kernel
theorem dL_cell_6 : decode cL_cell 6 = .ok (.aload_n 0, 1) := by decide +kernel
theorem dL_cell_7 : decode cL_cell 7 = .ok (.iload_n 1, 1) := by decide +kernel
theorem dL_cell_8 : decode cL_cell 8 = .ok (.iaload, 1) := by decide +kernel
theorem dL_cell_9 : decode cL_cell 9 = .ok (.goto 14, 3) := by decide +kernel
theorem dL_cell_12 : decode cL_cell 12 = .ok (.ldc 7, 2) := by decide +kernel
theorem dL_cell_14 : decode cL_cell 14 = .ok (.iload_n 1, 1) := by decide +kernel
theorem dL_cell_15 : decode cL_cell 15 = .ok (.sipush 163, 3) := by decide +kernel
theorem dL_cell_18 : decode cL_cell 18 = .ok (.iadd, 1) := by decide +kernel
theorem dL_cell_19 : decode cL_cell 19 = .ok (.imul, 1) := by decide +kernel
theorem dL_cell_20 : decode cL_cell 20 = .ok (.ldc 8, 2) := by decide +kernel
theorem dL_cell_22 : decode cL_cell 22 = .ok (.iadd, 1) := by decide +kernel
theorem dL_cell_23 : decode cL_cell 23 = .ok (.ireturn, 1) := by decide +kernel
theorem dL_low_0 : decode cL_low 0 = .ok (.iload_n 0, 1) := by decide +kernel
theorem dL_low_1 : decode cL_low 1 = .ok (.ldc 9, 2) := by decide +kernel
theorem dL_low_3 : decode cL_low 3 = .ok (.iand, 1) := by decide +kernel
theorem dL_low_4 : decode cL_low 4 = .ok (.iload_n 1, 1) := by decide +kernel
theorem dL_low_5 : decode cL_low 5 = .ok (.irem, 1) := by decide +kernel
theorem dL_low_6 : decode cL_low 6 = .ok (.ireturn, 1) := by decide +kernel
set_option maxRecDepth 20000 in
theorem ggL_calls_X6_quote : GoodIn wsL_calls wsX6_quote := goodIn_ca (goodIn_ca (goodIn_ca (goodIn_r _ [6, 7, 8, 9, 10, 11, 12, 13, 14, 15, 5, 16, 17, 18, 19, 20, 21, 22, 23, 24, 25, 26, 27, 28, 29, 30, 31, 32, 33, 34, 35, 36, 37, 38, 39, 40, 41, 42, 43, 44, 45, 46, 47, 48, 49, 50, 51, 52, 53, 54, 55, 56, 57, 58, 59, 60, 61, 62, 63, 64, 65, 66, 67, 68, 69, 70, 71, 72, 73, 74, 75, 198, 199, 200, 201, 202, 203, 204, 205, 206, 207, 208, 209, 210, 211, 212, 213, 214, 215, 216, 217, 218, 219, 220, 221] (by decide +kernel) (by decide +kernel)) (goodIn_sub (fun _ h => List.mem_cons_of_mem _ (List.mem_append_left _ (List.mem_append_left _ (List.mem_append_right _ h)))) (by decide +kernel))) (goodIn_sub (fun _ h => List.mem_cons_of_mem _ (List.mem_append_left _ (List.mem_append_right _ h))) (by decide +kernel))) (goodIn_sub (fun _ h => List.mem_cons_of_mem _ (List.mem_append_right _ h)) (by decide +kernel))
set_option maxRecDepth 20000 in
theorem gL_calls_X6_quote : GoodIn wsL_calls (wsV RL 10 RX6 yX6_quote wsX6_quote) := goodIn_app (goodIn_of _ (by decide +kernel)) ggL_calls_X6_quote
set_option maxRecDepth 20000 in
theorem ggL_calls_X6_confirm : GoodIn wsL_calls wsX6_confirm := goodIn_ca (goodIn_ca (goodIn_r _ [79, 12, 10, 13, 14, 15, 5, 16, 17, 18, 19, 20, 21, 22, 23, 24, 25, 26, 27, 33, 34, 35, 36, 7, 8, 60, 61, 62, 80, 81, 82, 83, 63, 64, 65, 66, 67, 68, 198, 199, 200, 201, 202, 203, 204, 205, 206, 207, 208, 209, 210, 211, 212, 213, 214, 215, 216, 217, 218] (by decide +kernel) (by decide +kernel)) (goodIn_sub (fun _ h => List.mem_cons_of_mem _ (List.mem_append_left _ (List.mem_append_right _ h))) (by decide +kernel))) (goodIn_sub (fun _ h => List.mem_cons_of_mem _ (List.mem_append_left _ (List.mem_append_left _ (List.mem_append_right _ h)))) (by decide +kernel))
set_option maxRecDepth 20000 in
theorem gL_calls_X6_confirm : GoodIn wsL_calls (wsV RL 16 RX6 yX6_confirm wsX6_confirm) := goodIn_app (goodIn_of _ (by decide +kernel)) ggL_calls_X6_confirm
set_option maxRecDepth 20000 in
theorem ggL_calls_L_links : GoodIn wsL_calls wsL_links := goodIn_ca (goodIn_ca (goodIn_ca (goodIn_r _ [87, 88, 89, 90, 5, 91, 7, 8, 9, 12, 10, 13, 14, 15, 16, 17, 18, 19, 20, 21, 22, 23, 24, 25, 26, 27, 28, 29, 30, 31, 32, 33, 34, 35, 36, 60, 61, 62, 92, 93, 94, 66, 95, 96, 97, 98, 99, 100, 101, 198, 199, 200, 201, 202, 203, 204, 205, 206, 207, 208, 209, 210, 211, 212, 213, 214, 215, 216, 217, 218] (by decide +kernel) (by decide +kernel)) (goodIn_sub (fun _ h => List.mem_cons_of_mem _ (List.mem_append_left _ (List.mem_append_left _ (List.mem_append_right _ h)))) (by decide +kernel))) (goodIn_sub (fun _ h => List.mem_cons_of_mem _ (List.mem_append_left _ (List.mem_append_right _ h))) (by decide +kernel))) (goodIn_sub (fun _ h => List.mem_cons_of_mem _ (List.mem_append_right _ h)) (by decide +kernel))
set_option maxRecDepth 20000 in
theorem gL_calls_L_links : GoodIn wsL_calls (va_wsS RL 20 yL_links wsL_links) := goodIn_app (goodIn_of _ (by decide +kernel)) ggL_calls_L_links
set_option maxRecDepth 20000 in
theorem ggL_calls_X6_fix : GoodIn wsL_calls wsX6_fix := goodIn_ca (goodIn_ca (goodIn_ca (goodIn_r _ [105, 9, 10, 106, 107, 108, 5, 109, 17, 18, 12, 13, 14, 15, 16, 19, 20, 21, 22, 23, 24, 25, 26, 27, 28, 29, 30, 31, 32, 60, 61, 62, 80, 81, 82, 83, 7, 8, 63, 64, 65, 66, 67, 68, 110, 111, 112, 113, 73, 114, 115, 198, 199, 200, 201, 202, 203, 204, 205, 206, 207, 208, 209, 210, 211, 212, 213, 214, 215, 216, 217, 218] (by decide +kernel) (by decide +kernel)) (goodIn_sub (fun _ h => List.mem_cons_of_mem _ (List.mem_append_left _ (List.mem_append_right _ h))) (by decide +kernel))) (goodIn_sub (fun _ h => List.mem_cons_of_mem _ (List.mem_append_right _ h)) (by decide +kernel))) (goodIn_sub (fun _ h => List.mem_cons_of_mem _ (List.mem_append_left _ (List.mem_append_left _ (List.mem_append_right _ h)))) (by decide +kernel))
set_option maxRecDepth 20000 in
theorem gL_calls_X6_fix : GoodIn wsL_calls (wsV RL 26 RX6 yX6_fix wsX6_fix) := goodIn_app (goodIn_of _ (by decide +kernel)) ggL_calls_X6_fix
set_option maxRecDepth 20000 in
theorem ggL_calls_X6_contract : GoodIn wsL_calls wsX6_contract := goodIn_ca (goodIn_ca (goodIn_r _ [119, 7, 8, 120, 12, 121, 122, 123, 124, 125, 28, 29, 5, 30, 31, 32, 19, 20, 21, 22, 23, 24, 126, 127, 128, 129, 130, 131, 132, 133, 134, 135, 136, 137, 138, 139, 140, 141, 142, 143, 144, 145, 146, 147, 148, 149, 150, 53, 151, 152, 153, 154, 155, 156, 157, 158, 159, 160, 161, 162, 163, 164, 165, 166, 167, 168, 169, 170, 171, 172, 173, 174, 175, 176, 177, 178, 179, 180, 181, 182, 183, 184, 185, 186, 187, 188, 189, 190, 191, 192, 193, 194, 195, 196, 197, 198, 199, 200, 201, 202, 203, 204, 205, 222, 223, 224, 225, 226, 227, 228, 229, 230, 216, 217, 218] (by decide +kernel) (by decide +kernel)) (goodIn_sub (fun _ h => List.mem_cons_of_mem _ (List.mem_append_left _ (List.mem_append_left _ (List.mem_append_right _ h)))) (by decide +kernel))) (goodIn_sub (fun _ h => List.mem_cons_of_mem _ (List.mem_append_right _ h)) (by decide +kernel))
set_option maxRecDepth 20000 in
theorem gL_calls_X6_contract : GoodIn wsL_calls (wsV RL 29 RX6 yX6_contract wsX6_contract) := goodIn_app (goodIn_of _ (by decide +kernel)) ggL_calls_X6_contract
theorem dL_calls_0 : decode cL_calls 0 = .ok (.iload_n 1, 1) := by decide +kernel
theorem dL_calls_1 : decode cL_calls 1 = .ok (.ifCond .ne 16, 3) := by decide +kernel
theorem dL_calls_4 : decode cL_calls 4 = .ok (.aload_n 0, 1) := by decide +kernel
theorem dL_calls_5 : decode cL_calls 5 = .ok (.iload_n 2, 1) := by decide +kernel
theorem dL_calls_6 : decode cL_calls 6 = .ok (.iload_n 3, 1) := by decide +kernel
theorem dL_calls_7 : decode cL_calls 7 = .ok (.iload 4, 2) := by decide +kernel
theorem dL_calls_9 : decode cL_calls 9 = .ok (.iload 5, 2) := by decide +kernel
theorem dL_calls_11 : decode cL_calls 11 = .ok (.invokevirtual 10, 3) := by decide +kernel
theorem dL_calls_14 : decode cL_calls 14 = .ok (.goto 80, 3) := by decide +kernel
theorem dL_calls_17 : decode cL_calls 17 = .ok (.iload_n 1, 1) := by decide +kernel
theorem dL_calls_18 : decode cL_calls 18 = .ok (.iconst 1, 1) := by decide +kernel
theorem dL_calls_19 : decode cL_calls 19 = .ok (.if_icmp .ne 20, 3) := by decide +kernel
theorem dL_calls_22 : decode cL_calls 22 = .ok (.aload_n 0, 1) := by decide +kernel
theorem dL_calls_23 : decode cL_calls 23 = .ok (.iload_n 2, 1) := by decide +kernel
theorem dL_calls_24 : decode cL_calls 24 = .ok (.iload_n 3, 1) := by decide +kernel
theorem dL_calls_25 : decode cL_calls 25 = .ok (.invokevirtual 16, 3) := by decide +kernel
theorem dL_calls_28 : decode cL_calls 28 = .ok (.ifCond .eq 7, 3) := by decide +kernel
theorem dL_calls_31 : decode cL_calls 31 = .ok (.iconst 1, 1) := by decide +kernel
theorem dL_calls_32 : decode cL_calls 32 = .ok (.goto 62, 3) := by decide +kernel
theorem dL_calls_35 : decode cL_calls 35 = .ok (.iconst 0, 1) := by decide +kernel
theorem dL_calls_36 : decode cL_calls 36 = .ok (.goto 58, 3) := by decide +kernel
theorem dL_calls_39 : decode cL_calls 39 = .ok (.iload_n 1, 1) := by decide +kernel
theorem dL_calls_40 : decode cL_calls 40 = .ok (.iconst 2, 1) := by decide +kernel
theorem dL_calls_41 : decode cL_calls 41 = .ok (.if_icmp .ne 16, 3) := by decide +kernel
theorem dL_calls_44 : decode cL_calls 44 = .ok (.aload_n 0, 1) := by decide +kernel
theorem dL_calls_45 : decode cL_calls 45 = .ok (.iload_n 2, 1) := by decide +kernel
theorem dL_calls_46 : decode cL_calls 46 = .ok (.iload_n 3, 1) := by decide +kernel
theorem dL_calls_47 : decode cL_calls 47 = .ok (.iload 4, 2) := by decide +kernel
theorem dL_calls_49 : decode cL_calls 49 = .ok (.iload 5, 2) := by decide +kernel
theorem dL_calls_51 : decode cL_calls 51 = .ok (.invokestatic 20, 3) := by decide +kernel
theorem dL_calls_54 : decode cL_calls 54 = .ok (.goto 40, 3) := by decide +kernel
theorem dL_calls_57 : decode cL_calls 57 = .ok (.iload_n 1, 1) := by decide +kernel
theorem dL_calls_58 : decode cL_calls 58 = .ok (.iconst 3, 1) := by decide +kernel
theorem dL_calls_59 : decode cL_calls 59 = .ok (.if_icmp .ne 16, 3) := by decide +kernel
theorem dL_calls_62 : decode cL_calls 62 = .ok (.aload_n 0, 1) := by decide +kernel
theorem dL_calls_63 : decode cL_calls 63 = .ok (.iload_n 2, 1) := by decide +kernel
theorem dL_calls_64 : decode cL_calls 64 = .ok (.iload_n 3, 1) := by decide +kernel
theorem dL_calls_65 : decode cL_calls 65 = .ok (.iload 4, 2) := by decide +kernel
theorem dL_calls_67 : decode cL_calls 67 = .ok (.iload 5, 2) := by decide +kernel
theorem dL_calls_69 : decode cL_calls 69 = .ok (.invokevirtual 26, 3) := by decide +kernel
theorem dL_calls_72 : decode cL_calls 72 = .ok (.goto 22, 3) := by decide +kernel
theorem dL_calls_75 : decode cL_calls 75 = .ok (.aload_n 0, 1) := by decide +kernel
theorem dL_calls_76 : decode cL_calls 76 = .ok (.iload_n 2, 1) := by decide +kernel
theorem dL_calls_77 : decode cL_calls 77 = .ok (.iload_n 3, 1) := by decide +kernel
theorem dL_calls_78 : decode cL_calls 78 = .ok (.iload 4, 2) := by decide +kernel
theorem dL_calls_80 : decode cL_calls 80 = .ok (.iload 5, 2) := by decide +kernel
theorem dL_calls_82 : decode cL_calls 82 = .ok (.iconst 1, 1) := by decide +kernel
theorem dL_calls_83 : decode cL_calls 83 = .ok (.if_icmp .ne 7, 3) := by decide +kernel
theorem dL_calls_86 : decode cL_calls 86 = .ok (.iconst 1, 1) := by decide +kernel
theorem dL_calls_87 : decode cL_calls 87 = .ok (.goto 4, 3) := by decide +kernel
theorem dL_calls_90 : decode cL_calls 90 = .ok (.iconst 0, 1) := by decide +kernel
theorem dL_calls_91 : decode cL_calls 91 = .ok (.invokevirtual 29, 3) := by decide +kernel
theorem dL_calls_94 : decode cL_calls 94 = .ok (.ireturn, 1) := by decide +kernel
theorem dL_calls_95 : decode cL_calls 95 = .ok (.astore 6, 2) := by decide +kernel
theorem dL_calls_97 : decode cL_calls 97 = .ok (.sipush (-1003), 3) := by decide +kernel
theorem dL_calls_100 : decode cL_calls 100 = .ok (.ireturn, 1) := by decide +kernel
set_option maxRecDepth 20000 in
theorem ggL_links_X6_link : GoodIn wsL_links wsX6_link := goodIn_ca (goodIn_ca (goodIn_ca (goodIn_r _ [5, 6, 7, 8, 9, 10, 11, 12, 13, 4, 14, 15, 16, 17, 18, 19, 20, 21, 22, 23, 24, 25, 26, 27, 28, 29, 30, 31, 32, 33, 34, 35, 36, 37, 38, 39, 40, 41, 42, 43, 44, 45, 46, 47, 48, 49, 50, 51, 52, 53, 54, 55, 56, 57, 58, 59, 60, 61, 62, 63, 64, 65, 66, 67, 68, 69] (by decide +kernel) (by decide +kernel)) (goodIn_sub (fun _ h => List.mem_cons_of_mem _ (List.mem_append_left _ (List.mem_append_left _ (List.mem_append_right _ h)))) (by decide +kernel))) (goodIn_sub (fun _ h => List.mem_cons_of_mem _ (List.mem_append_left _ (List.mem_append_right _ h))) (by decide +kernel))) (goodIn_sub (fun _ h => List.mem_cons_of_mem _ (List.mem_append_right _ h)) (by decide +kernel))
set_option maxRecDepth 20000 in
theorem gL_links_X6_link : GoodIn wsL_links (wsV RL 35 RX6 yX6_link wsX6_link) := goodIn_app (goodIn_of _ (by decide +kernel)) ggL_links_X6_link
theorem dL_links_0 : decode cL_links 0 = .ok (.aload_n 0, 1) := by decide +kernel
theorem dL_links_1 : decode cL_links 1 = .ok (.iload_n 1, 1) := by decide +kernel
theorem dL_links_2 : decode cL_links 2 = .ok (.iload_n 2, 1) := by decide +kernel
theorem dL_links_3 : decode cL_links 3 = .ok (.iload_n 3, 1) := by decide +kernel
theorem dL_links_4 : decode cL_links 4 = .ok (.iload 4, 2) := by decide +kernel
theorem dL_links_6 : decode cL_links 6 = .ok (.invokevirtual 35, 3) := by decide +kernel
theorem dL_links_9 : decode cL_links 9 = .ok (.iconst 0, 1) := by decide +kernel
theorem dL_links_10 : decode cL_links 10 = .ok (.ireturn, 1) := by decide +kernel
theorem dL_outlet_0 : decode cL_outlet 0 = .ok (.iload_n 0, 1) := by decide +kernel
theorem dL_outlet_1 : decode cL_outlet 1 = .ok (.iconst 2, 1) := by decide +kernel
theorem dL_outlet_2 : decode cL_outlet 2 = .ok (.if_icmp .ne 7, 3) := by decide +kernel
theorem dL_outlet_5 : decode cL_outlet 5 = .ok (.iconst 3, 1) := by decide +kernel
theorem dL_outlet_6 : decode cL_outlet 6 = .ok (.goto 4, 3) := by decide +kernel
theorem dL_outlet_9 : decode cL_outlet 9 = .ok (.iload_n 0, 1) := by decide +kernel
theorem dL_outlet_10 : decode cL_outlet 10 = .ok (.ireturn, 1) := by decide +kernel
theorem dL_rate_0 : decode cL_rate 0 = .ok (.iload_n 1, 1) := by decide +kernel
theorem dL_rate_1 : decode cL_rate 1 = .ok (.ifCond .eq 17, 3) := by decide +kernel
theorem dL_rate_4 : decode cL_rate 4 = .ok (.aload 4, 2) := by decide +kernel
theorem dL_rate_6 : decode cL_rate 6 = .ok (.iload_n 0, 1) := by decide +kernel
theorem dL_rate_7 : decode cL_rate 7 = .ok (.iaload, 1) := by decide +kernel
theorem dL_rate_8 : decode cL_rate 8 = .ok (.ifCond .le 10, 3) := by decide +kernel
theorem dL_rate_11 : decode cL_rate 11 = .ok (.aload 4, 2) := by decide +kernel
theorem dL_rate_13 : decode cL_rate 13 = .ok (.iload_n 0, 1) := by decide +kernel
theorem dL_rate_14 : decode cL_rate 14 = .ok (.iaload, 1) := by decide +kernel
theorem dL_rate_15 : decode cL_rate 15 = .ok (.goto 6, 3) := by decide +kernel
theorem dL_rate_18 : decode cL_rate 18 = .ok (.aload_n 2, 1) := by decide +kernel
theorem dL_rate_19 : decode cL_rate 19 = .ok (.iload_n 0, 1) := by decide +kernel
theorem dL_rate_20 : decode cL_rate 20 = .ok (.iaload, 1) := by decide +kernel
theorem dL_rate_21 : decode cL_rate 21 = .ok (.istore 5, 2) := by decide +kernel
theorem dL_rate_23 : decode cL_rate 23 = .ok (.iload 5, 2) := by decide +kernel
theorem dL_rate_25 : decode cL_rate 25 = .ok (.i2d, 1) := by decide +kernel
theorem dL_rate_26 : decode cL_rate 26 = .ok (.iload 5, 2) := by decide +kernel
theorem dL_rate_28 : decode cL_rate 28 = .ok (.ifCond .ne 7, 3) := by decide +kernel
theorem dL_rate_31 : decode cL_rate 31 = .ok (.iconst 1, 1) := by decide +kernel
theorem dL_rate_32 : decode cL_rate 32 = .ok (.goto 6, 3) := by decide +kernel
theorem dL_rate_35 : decode cL_rate 35 = .ok (.aload_n 3, 1) := by decide +kernel
theorem dL_rate_36 : decode cL_rate 36 = .ok (.iload_n 0, 1) := by decide +kernel
theorem dL_rate_37 : decode cL_rate 37 = .ok (.iaload, 1) := by decide +kernel
theorem dL_rate_38 : decode cL_rate 38 = .ok (.i2d, 1) := by decide +kernel
theorem dL_rate_39 : decode cL_rate 39 = .ok (.ddiv, 1) := by decide +kernel
theorem dL_rate_40 : decode cL_rate 40 = .ok (.dreturn, 1) := by decide +kernel
theorem dL_base_0 : decode cL_base 0 = .ok (.iload_n 0, 1) := by decide +kernel
theorem dL_base_1 : decode cL_base 1 = .ok (.ifCond .lt 22, 3) := by decide +kernel
theorem dL_base_4 : decode cL_base 4 = .ok (.aload_n 3, 1) := by decide +kernel
theorem dL_base_5 : decode cL_base 5 = .ok (.iload_n 0, 1) := by decide +kernel
theorem dL_base_6 : decode cL_base 6 = .ok (.iaload, 1) := by decide +kernel
theorem dL_base_7 : decode cL_base 7 = .ok (.ifCond .le 16, 3) := by decide +kernel
theorem dL_base_10 : decode cL_base 10 = .ok (.aload_n 3, 1) := by decide +kernel
theorem dL_base_11 : decode cL_base 11 = .ok (.iload_n 0, 1) := by decide +kernel
theorem dL_base_12 : decode cL_base 12 = .ok (.iaload, 1) := by decide +kernel
theorem dL_base_13 : decode cL_base 13 = .ok (.i2d, 1) := by decide +kernel
theorem dL_base_14 : decode cL_base 14 = .ok (.aload 4, 2) := by decide +kernel
theorem dL_base_16 : decode cL_base 16 = .ok (.iload_n 0, 1) := by decide +kernel
theorem dL_base_17 : decode cL_base 17 = .ok (.iaload, 1) := by decide +kernel
theorem dL_base_18 : decode cL_base 18 = .ok (.i2d, 1) := by decide +kernel
theorem dL_base_19 : decode cL_base 19 = .ok (.ddiv, 1) := by decide +kernel
theorem dL_base_20 : decode cL_base 20 = .ok (.goto 4, 3) := by decide +kernel
theorem dL_base_23 : decode cL_base 23 = .ok (.dload_n 1, 1) := by decide +kernel
theorem dL_base_24 : decode cL_base 24 = .ok (.dreturn, 1) := by decide +kernel
theorem dL_matched_0 : decode cL_matched 0 = .ok (.aload 5, 2) := by decide +kernel
theorem dL_matched_2 : decode cL_matched 2 = .ok (.iload_n 0, 1) := by decide +kernel
theorem dL_matched_3 : decode cL_matched 3 = .ok (.iaload, 1) := by decide +kernel
theorem dL_matched_4 : decode cL_matched 4 = .ok (.iconst 1, 1) := by decide +kernel
theorem dL_matched_5 : decode cL_matched 5 = .ok (.if_icmp .ne 9, 3) := by decide +kernel
theorem dL_matched_8 : decode cL_matched 8 = .ok (.ldc2_w 39, 3) := by decide +kernel
theorem dL_matched_11 : decode cL_matched 11 = .ok (.goto 6, 3) := by decide +kernel
theorem dL_matched_14 : decode cL_matched 14 = .ok (.ldc2_w 41, 3) := by decide +kernel
theorem dL_matched_17 : decode cL_matched 17 = .ok (.dstore 6, 2) := by decide +kernel
theorem dL_matched_19 : decode cL_matched 19 = .ok (.dload_n 1, 1) := by decide +kernel
theorem dL_matched_20 : decode cL_matched 20 = .ok (.dconst 0, 1) := by decide +kernel
theorem dL_matched_21 : decode cL_matched 21 = .ok (.dcmp .l, 1) := by decide +kernel
theorem dL_matched_22 : decode cL_matched 22 = .ok (.ifCond .le 33, 3) := by decide +kernel
theorem dL_matched_25 : decode cL_matched 25 = .ok (.dload_n 3, 1) := by decide +kernel
theorem dL_matched_26 : decode cL_matched 26 = .ok (.dconst 0, 1) := by decide +kernel
theorem dL_matched_27 : decode cL_matched 27 = .ok (.dcmp .l, 1) := by decide +kernel
theorem dL_matched_28 : decode cL_matched 28 = .ok (.ifCond .le 27, 3) := by decide +kernel
theorem dL_matched_31 : decode cL_matched 31 = .ok (.dload_n 1, 1) := by decide +kernel
theorem dL_matched_32 : decode cL_matched 32 = .ok (.dload_n 3, 1) := by decide +kernel
theorem dL_matched_33 : decode cL_matched 33 = .ok (.ddiv, 1) := by decide +kernel
theorem dL_matched_34 : decode cL_matched 34 = .ok (.dload 6, 2) := by decide +kernel
theorem dL_matched_36 : decode cL_matched 36 = .ok (.dcmp .g, 1) := by decide +kernel
theorem dL_matched_37 : decode cL_matched 37 = .ok (.ifCond .gt 18, 3) := by decide +kernel
theorem dL_matched_40 : decode cL_matched 40 = .ok (.dload_n 1, 1) := by decide +kernel
theorem dL_matched_41 : decode cL_matched 41 = .ok (.dload_n 3, 1) := by decide +kernel
theorem dL_matched_42 : decode cL_matched 42 = .ok (.ddiv, 1) := by decide +kernel
theorem dL_matched_43 : decode cL_matched 43 = .ok (.dload 6, 2) := by decide +kernel
theorem dL_matched_45 : decode cL_matched 45 = .ok (.dmul, 1) := by decide +kernel
theorem dL_matched_46 : decode cL_matched 46 = .ok (.dconst 1, 1) := by decide +kernel
theorem dL_matched_47 : decode cL_matched 47 = .ok (.dcmp .l, 1) := by decide +kernel
theorem dL_matched_48 : decode cL_matched 48 = .ok (.ifCond .lt 7, 3) := by decide +kernel
theorem dL_matched_51 : decode cL_matched 51 = .ok (.iconst 1, 1) := by decide +kernel
theorem dL_matched_52 : decode cL_matched 52 = .ok (.goto 4, 3) := by decide +kernel
theorem dL_matched_55 : decode cL_matched 55 = .ok (.iconst 0, 1) := by decide +kernel
theorem dL_matched_56 : decode cL_matched 56 = .ok (.ireturn, 1) := by decide +kernel
theorem dL_of_0 : decode cL_of 0 = .ok (.iload_n 0, 1) := by decide +kernel
theorem dL_of_1 : decode cL_of 1 = .ok (.ifCond .ne 9, 3) := by decide +kernel
theorem dL_of_4 : decode cL_of 4 = .ok (.dload_n 1, 1) := by decide +kernel
theorem dL_of_5 : decode cL_of 5 = .ok (.dload_n 3, 1) := by decide +kernel
theorem dL_of_6 : decode cL_of 6 = .ok (.ddiv, 1) := by decide +kernel
theorem dL_of_7 : decode cL_of 7 = .ok (.goto 17, 3) := by decide +kernel
theorem dL_of_10 : decode cL_of 10 = .ok (.iload_n 0, 1) := by decide +kernel
theorem dL_of_11 : decode cL_of 11 = .ok (.iconst 1, 1) := by decide +kernel
theorem dL_of_12 : decode cL_of 12 = .ok (.if_icmp .ne 7, 3) := by decide +kernel
theorem dL_of_15 : decode cL_of 15 = .ok (.dload_n 1, 1) := by decide +kernel
theorem dL_of_16 : decode cL_of 16 = .ok (.goto 8, 3) := by decide +kernel
theorem dL_of_19 : decode cL_of 19 = .ok (.dconst 1, 1) := by decide +kernel
theorem dL_of_20 : decode cL_of 20 = .ok (.dload_n 1, 1) := by decide +kernel
theorem dL_of_21 : decode cL_of 21 = .ok (.dload_n 3, 1) := by decide +kernel
theorem dL_of_22 : decode cL_of 22 = .ok (.ddiv, 1) := by decide +kernel
theorem dL_of_23 : decode cL_of 23 = .ok (.ddiv, 1) := by decide +kernel
theorem dL_of_24 : decode cL_of 24 = .ok (.dreturn, 1) := by decide +kernel
set_option maxRecDepth 20000 in
theorem ggL_goes_L_rate : GoodIn wsL_goes wsL_rate := goodIn_r _ [4] (by decide +kernel) (by decide +kernel)
set_option maxRecDepth 20000 in
theorem gL_goes_L_rate : GoodIn wsL_goes (va_wsS RL 43 yL_rate wsL_rate) := goodIn_app (goodIn_of _ (by decide +kernel)) ggL_goes_L_rate
set_option maxRecDepth 20000 in
theorem ggL_goes_L_base : GoodIn wsL_goes wsL_base := goodIn_r _ [7] (by decide +kernel) (by decide +kernel)
set_option maxRecDepth 20000 in
theorem gL_goes_L_base : GoodIn wsL_goes (va_wsS RL 47 yL_base wsL_base) := goodIn_app (goodIn_of _ (by decide +kernel)) ggL_goes_L_base
set_option maxRecDepth 20000 in
theorem ggL_goes_L_matched : GoodIn wsL_goes wsL_matched := goodIn_r _ [10, 11, 12] (by decide +kernel) (by decide +kernel)
set_option maxRecDepth 20000 in
theorem gL_goes_L_matched : GoodIn wsL_goes (va_wsS RL 51 yL_matched wsL_matched) := goodIn_app (goodIn_of _ (by decide +kernel)) ggL_goes_L_matched
set_option maxRecDepth 20000 in
theorem ggL_goes_L_of : GoodIn wsL_goes wsL_of := goodIn_r _ [15] (by decide +kernel) (by decide +kernel)
set_option maxRecDepth 20000 in
theorem gL_goes_L_of : GoodIn wsL_goes (va_wsS RL 55 yL_of wsL_of) := goodIn_app (goodIn_of _ (by decide +kernel)) ggL_goes_L_of
theorem dL_goes_0 : decode cL_goes 0 = .ok (.dconst 0, 1) := by decide +kernel
theorem dL_goes_1 : decode cL_goes 1 = .ok (.dstore 11, 2) := by decide +kernel
theorem dL_goes_3 : decode cL_goes 3 = .ok (.dconst 0, 1) := by decide +kernel
theorem dL_goes_4 : decode cL_goes 4 = .ok (.dstore 13, 2) := by decide +kernel
theorem dL_goes_6 : decode cL_goes 6 = .ok (.dconst 0, 1) := by decide +kernel
theorem dL_goes_7 : decode cL_goes 7 = .ok (.dstore 15, 2) := by decide +kernel
theorem dL_goes_9 : decode cL_goes 9 = .ok (.aload 4, 2) := by decide +kernel
theorem dL_goes_11 : decode cL_goes 11 = .ok (.iconst 3, 1) := by decide +kernel
theorem dL_goes_12 : decode cL_goes 12 = .ok (.iload_n 0, 1) := by decide +kernel
theorem dL_goes_13 : decode cL_goes 13 = .ok (.imul, 1) := by decide +kernel
theorem dL_goes_14 : decode cL_goes 14 = .ok (.iconst 1, 1) := by decide +kernel
theorem dL_goes_15 : decode cL_goes 15 = .ok (.iadd, 1) := by decide +kernel
theorem dL_goes_16 : decode cL_goes 16 = .ok (.iaload, 1) := by decide +kernel
theorem dL_goes_17 : decode cL_goes 17 = .ok (.istore 17, 2) := by decide +kernel
theorem dL_goes_19 : decode cL_goes 19 = .ok (.iconst 0, 1) := by decide +kernel
theorem dL_goes_20 : decode cL_goes 20 = .ok (.istore 18, 2) := by decide +kernel
theorem dL_goes_22 : decode cL_goes 22 = .ok (.iload 18, 2) := by decide +kernel
theorem dL_goes_24 : decode cL_goes 24 = .ok (.iload_n 1, 1) := by decide +kernel
theorem dL_goes_25 : decode cL_goes 25 = .ok (.if_icmp .gt 805, 3) := by decide +kernel
theorem dL_goes_28 : decode cL_goes 28 = .ok (.bipush 12, 2) := by decide +kernel
theorem dL_goes_30 : decode cL_goes 30 = .ok (.iload 18, 2) := by decide +kernel
theorem dL_goes_32 : decode cL_goes 32 = .ok (.imul, 1) := by decide +kernel
theorem dL_goes_33 : decode cL_goes 33 = .ok (.iconst 3, 1) := by decide +kernel
theorem dL_goes_34 : decode cL_goes 34 = .ok (.iload_n 0, 1) := by decide +kernel
theorem dL_goes_35 : decode cL_goes 35 = .ok (.imul, 1) := by decide +kernel
theorem dL_goes_36 : decode cL_goes 36 = .ok (.iadd, 1) := by decide +kernel
theorem dL_goes_37 : decode cL_goes 37 = .ok (.istore 19, 2) := by decide +kernel
theorem dL_goes_39 : decode cL_goes 39 = .ok (.iload 19, 2) := by decide +kernel
theorem dL_goes_41 : decode cL_goes 41 = .ok (.iload_n 3, 1) := by decide +kernel
theorem dL_goes_42 : decode cL_goes 42 = .ok (.aload 5, 2) := by decide +kernel
theorem dL_goes_44 : decode cL_goes 44 = .ok (.aload 6, 2) := by decide +kernel
theorem dL_goes_46 : decode cL_goes 46 = .ok (.aload 7, 2) := by decide +kernel
theorem dL_goes_48 : decode cL_goes 48 = .ok (.invokestatic 43, 3) := by decide +kernel
theorem dL_goes_51 : decode cL_goes 51 = .ok (.dstore 20, 2) := by decide +kernel
theorem dL_goes_53 : decode cL_goes 53 = .ok (.iload 19, 2) := by decide +kernel
theorem dL_goes_55 : decode cL_goes 55 = .ok (.iconst 1, 1) := by decide +kernel
theorem dL_goes_56 : decode cL_goes 56 = .ok (.iadd, 1) := by decide +kernel
theorem dL_goes_57 : decode cL_goes 57 = .ok (.iload_n 3, 1) := by decide +kernel
theorem dL_goes_58 : decode cL_goes 58 = .ok (.aload 5, 2) := by decide +kernel
theorem dL_goes_60 : decode cL_goes 60 = .ok (.aload 6, 2) := by decide +kernel
theorem dL_goes_62 : decode cL_goes 62 = .ok (.aload 7, 2) := by decide +kernel
theorem dL_goes_64 : decode cL_goes 64 = .ok (.invokestatic 43, 3) := by decide +kernel
theorem dL_goes_67 : decode cL_goes 67 = .ok (.dstore 22, 2) := by decide +kernel
theorem dL_goes_69 : decode cL_goes 69 = .ok (.iload 19, 2) := by decide +kernel
theorem dL_goes_71 : decode cL_goes 71 = .ok (.iconst 2, 1) := by decide +kernel
theorem dL_goes_72 : decode cL_goes 72 = .ok (.iadd, 1) := by decide +kernel
theorem dL_goes_73 : decode cL_goes 73 = .ok (.iload_n 3, 1) := by decide +kernel
theorem dL_goes_74 : decode cL_goes 74 = .ok (.aload 5, 2) := by decide +kernel
theorem dL_goes_76 : decode cL_goes 76 = .ok (.aload 6, 2) := by decide +kernel
theorem dL_goes_78 : decode cL_goes 78 = .ok (.aload 7, 2) := by decide +kernel
theorem dL_goes_80 : decode cL_goes 80 = .ok (.invokestatic 43, 3) := by decide +kernel
theorem dL_goes_83 : decode cL_goes 83 = .ok (.dstore 24, 2) := by decide +kernel
theorem dL_goes_85 : decode cL_goes 85 = .ok (.iload 19, 2) := by decide +kernel
theorem dL_goes_87 : decode cL_goes 87 = .ok (.bipush 12, 2) := by decide +kernel
theorem dL_goes_89 : decode cL_goes 89 = .ok (.isub, 1) := by decide +kernel
theorem dL_goes_90 : decode cL_goes 90 = .ok (.dload 11, 2) := by decide +kernel
theorem dL_goes_92 : decode cL_goes 92 = .ok (.aload 9, 2) := by decide +kernel
theorem dL_goes_94 : decode cL_goes 94 = .ok (.aload 10, 2) := by decide +kernel
theorem dL_goes_96 : decode cL_goes 96 = .ok (.invokestatic 47, 3) := by decide +kernel
theorem dL_goes_99 : decode cL_goes 99 = .ok (.dstore 26, 2) := by decide +kernel
theorem dL_goes_101 : decode cL_goes 101 = .ok (.iload 19, 2) := by decide +kernel
theorem dL_goes_103 : decode cL_goes 103 = .ok (.bipush 11, 2) := by decide +kernel
theorem dL_goes_105 : decode cL_goes 105 = .ok (.isub, 1) := by decide +kernel
theorem dL_goes_106 : decode cL_goes 106 = .ok (.dload 13, 2) := by decide +kernel
theorem dL_goes_108 : decode cL_goes 108 = .ok (.aload 9, 2) := by decide +kernel
theorem dL_goes_110 : decode cL_goes 110 = .ok (.aload 10, 2) := by decide +kernel
theorem dL_goes_112 : decode cL_goes 112 = .ok (.invokestatic 47, 3) := by decide +kernel
theorem dL_goes_115 : decode cL_goes 115 = .ok (.dstore 28, 2) := by decide +kernel
theorem dL_goes_117 : decode cL_goes 117 = .ok (.iload 19, 2) := by decide +kernel
theorem dL_goes_119 : decode cL_goes 119 = .ok (.bipush 10, 2) := by decide +kernel
theorem dL_goes_121 : decode cL_goes 121 = .ok (.isub, 1) := by decide +kernel
theorem dL_goes_122 : decode cL_goes 122 = .ok (.dload 15, 2) := by decide +kernel
theorem dL_goes_124 : decode cL_goes 124 = .ok (.aload 9, 2) := by decide +kernel
theorem dL_goes_126 : decode cL_goes 126 = .ok (.aload 10, 2) := by decide +kernel
theorem dL_goes_128 : decode cL_goes 128 = .ok (.invokestatic 47, 3) := by decide +kernel
theorem dL_goes_131 : decode cL_goes 131 = .ok (.dstore 30, 2) := by decide +kernel
theorem dL_goes_133 : decode cL_goes 133 = .ok (.iload 19, 2) := by decide +kernel
theorem dL_goes_135 : decode cL_goes 135 = .ok (.dload 20, 2) := by decide +kernel
theorem dL_goes_137 : decode cL_goes 137 = .ok (.dload 26, 2) := by decide +kernel
theorem dL_goes_139 : decode cL_goes 139 = .ok (.aload 8, 2) := by decide +kernel
theorem dL_goes_141 : decode cL_goes 141 = .ok (.invokestatic 51, 3) := by decide +kernel
theorem dL_goes_144 : decode cL_goes 144 = .ok (.istore 32, 2) := by decide +kernel
theorem dL_goes_146 : decode cL_goes 146 = .ok (.iload 19, 2) := by decide +kernel
theorem dL_goes_148 : decode cL_goes 148 = .ok (.iconst 1, 1) := by decide +kernel
theorem dL_goes_149 : decode cL_goes 149 = .ok (.iadd, 1) := by decide +kernel
theorem dL_goes_150 : decode cL_goes 150 = .ok (.dload 22, 2) := by decide +kernel
theorem dL_goes_152 : decode cL_goes 152 = .ok (.dload 28, 2) := by decide +kernel
theorem dL_goes_154 : decode cL_goes 154 = .ok (.aload 8, 2) := by decide +kernel
theorem dL_goes_156 : decode cL_goes 156 = .ok (.invokestatic 51, 3) := by decide +kernel
theorem dL_goes_159 : decode cL_goes 159 = .ok (.istore 33, 2) := by decide +kernel
theorem dL_goes_161 : decode cL_goes 161 = .ok (.iload 19, 2) := by decide +kernel
theorem dL_goes_163 : decode cL_goes 163 = .ok (.iconst 2, 1) := by decide +kernel
theorem dL_goes_164 : decode cL_goes 164 = .ok (.iadd, 1) := by decide +kernel
theorem dL_goes_165 : decode cL_goes 165 = .ok (.dload 24, 2) := by decide +kernel
theorem dL_goes_167 : decode cL_goes 167 = .ok (.dload 30, 2) := by decide +kernel
theorem dL_goes_169 : decode cL_goes 169 = .ok (.aload 8, 2) := by decide +kernel
theorem dL_goes_171 : decode cL_goes 171 = .ok (.invokestatic 51, 3) := by decide +kernel
theorem dL_goes_174 : decode cL_goes 174 = .ok (.istore 34, 2) := by decide +kernel
theorem dL_goes_176 : decode cL_goes 176 = .ok (.iload 32, 2) := by decide +kernel
theorem dL_goes_178 : decode cL_goes 178 = .ok (.ifCond .eq 7, 3) := by decide +kernel
theorem dL_goes_181 : decode cL_goes 181 = .ok (.iconst 1, 1) := by decide +kernel
theorem dL_goes_182 : decode cL_goes 182 = .ok (.goto 4, 3) := by decide +kernel
theorem dL_goes_185 : decode cL_goes 185 = .ok (.iconst 0, 1) := by decide +kernel
theorem dL_goes_186 : decode cL_goes 186 = .ok (.iload 33, 2) := by decide +kernel
theorem dL_goes_188 : decode cL_goes 188 = .ok (.ifCond .eq 7, 3) := by decide +kernel
theorem dL_goes_191 : decode cL_goes 191 = .ok (.iconst 1, 1) := by decide +kernel
theorem dL_goes_192 : decode cL_goes 192 = .ok (.goto 4, 3) := by decide +kernel
theorem dL_goes_195 : decode cL_goes 195 = .ok (.iconst 0, 1) := by decide +kernel
theorem dL_goes_196 : decode cL_goes 196 = .ok (.iadd, 1) := by decide +kernel
theorem dL_goes_197 : decode cL_goes 197 = .ok (.iload 34, 2) := by decide +kernel
theorem dL_goes_199 : decode cL_goes 199 = .ok (.ifCond .eq 7, 3) := by decide +kernel
theorem dL_goes_202 : decode cL_goes 202 = .ok (.iconst 1, 1) := by decide +kernel
theorem dL_goes_203 : decode cL_goes 203 = .ok (.goto 4, 3) := by decide +kernel
theorem dL_goes_206 : decode cL_goes 206 = .ok (.iconst 0, 1) := by decide +kernel
theorem dL_goes_207 : decode cL_goes 207 = .ok (.iadd, 1) := by decide +kernel
theorem dL_goes_208 : decode cL_goes 208 = .ok (.istore 35, 2) := by decide +kernel
theorem dL_goes_210 : decode cL_goes 210 = .ok (.dconst 0, 1) := by decide +kernel
theorem dL_goes_211 : decode cL_goes 211 = .ok (.dstore 36, 2) := by decide +kernel
theorem dL_goes_213 : decode cL_goes 213 = .ok (.dconst 0, 1) := by decide +kernel
theorem dL_goes_214 : decode cL_goes 214 = .ok (.dstore 38, 2) := by decide +kernel
theorem dL_goes_216 : decode cL_goes 216 = .ok (.dconst 0, 1) := by decide +kernel
theorem dL_goes_217 : decode cL_goes 217 = .ok (.dstore 40, 2) := by decide +kernel
theorem dL_goes_219 : decode cL_goes 219 = .ok (.dconst 0, 1) := by decide +kernel
theorem dL_goes_220 : decode cL_goes 220 = .ok (.dstore 42, 2) := by decide +kernel
theorem dL_goes_222 : decode cL_goes 222 = .ok (.iload 32, 2) := by decide +kernel
theorem dL_goes_224 : decode cL_goes 224 = .ok (.ifCond .eq 18, 3) := by decide +kernel
theorem dL_goes_227 : decode cL_goes 227 = .ok (.dload 36, 2) := by decide +kernel
theorem dL_goes_229 : decode cL_goes 229 = .ok (.iload 17, 2) := by decide +kernel
theorem dL_goes_231 : decode cL_goes 231 = .ok (.dload 20, 2) := by decide +kernel
theorem dL_goes_233 : decode cL_goes 233 = .ok (.dload 26, 2) := by decide +kernel
theorem dL_goes_235 : decode cL_goes 235 = .ok (.invokestatic 55, 3) := by decide +kernel
theorem dL_goes_238 : decode cL_goes 238 = .ok (.dadd, 1) := by decide +kernel
theorem dL_goes_239 : decode cL_goes 239 = .ok (.goto 5, 3) := by decide +kernel
theorem dL_goes_242 : decode cL_goes 242 = .ok (.dload 36, 2) := by decide +kernel
theorem dL_goes_244 : decode cL_goes 244 = .ok (.dstore 36, 2) := by decide +kernel
theorem dL_goes_246 : decode cL_goes 246 = .ok (.iload 32, 2) := by decide +kernel
theorem dL_goes_248 : decode cL_goes 248 = .ok (.ifCond .eq 11, 3) := by decide +kernel
theorem dL_goes_251 : decode cL_goes 251 = .ok (.dload 38, 2) := by decide +kernel
theorem dL_goes_253 : decode cL_goes 253 = .ok (.dload 26, 2) := by decide +kernel
theorem dL_goes_255 : decode cL_goes 255 = .ok (.dadd, 1) := by decide +kernel
theorem dL_goes_256 : decode cL_goes 256 = .ok (.goto 5, 3) := by decide +kernel
theorem dL_goes_259 : decode cL_goes 259 = .ok (.dload 38, 2) := by decide +kernel
theorem dL_goes_261 : decode cL_goes 261 = .ok (.dstore 38, 2) := by decide +kernel
theorem dL_goes_263 : decode cL_goes 263 = .ok (.iload 32, 2) := by decide +kernel
theorem dL_goes_265 : decode cL_goes 265 = .ok (.ifCond .eq 18, 3) := by decide +kernel
theorem dL_goes_268 : decode cL_goes 268 = .ok (.dload 40, 2) := by decide +kernel
theorem dL_goes_270 : decode cL_goes 270 = .ok (.iload 17, 2) := by decide +kernel
theorem dL_goes_272 : decode cL_goes 272 = .ok (.dload 26, 2) := by decide +kernel
theorem dL_goes_274 : decode cL_goes 274 = .ok (.dload 20, 2) := by decide +kernel
theorem dL_goes_276 : decode cL_goes 276 = .ok (.invokestatic 55, 3) := by decide +kernel
theorem dL_goes_279 : decode cL_goes 279 = .ok (.dadd, 1) := by decide +kernel
theorem dL_goes_280 : decode cL_goes 280 = .ok (.goto 5, 3) := by decide +kernel
theorem dL_goes_283 : decode cL_goes 283 = .ok (.dload 40, 2) := by decide +kernel
theorem dL_goes_285 : decode cL_goes 285 = .ok (.dstore 40, 2) := by decide +kernel
theorem dL_goes_287 : decode cL_goes 287 = .ok (.iload 32, 2) := by decide +kernel
theorem dL_goes_289 : decode cL_goes 289 = .ok (.ifCond .eq 11, 3) := by decide +kernel
theorem dL_goes_292 : decode cL_goes 292 = .ok (.dload 42, 2) := by decide +kernel
theorem dL_goes_294 : decode cL_goes 294 = .ok (.dload 20, 2) := by decide +kernel
theorem dL_goes_296 : decode cL_goes 296 = .ok (.dadd, 1) := by decide +kernel
theorem dL_goes_297 : decode cL_goes 297 = .ok (.goto 5, 3) := by decide +kernel
theorem dL_goes_300 : decode cL_goes 300 = .ok (.dload 42, 2) := by decide +kernel
theorem dL_goes_302 : decode cL_goes 302 = .ok (.dstore 42, 2) := by decide +kernel
theorem dL_goes_304 : decode cL_goes 304 = .ok (.iload 33, 2) := by decide +kernel
theorem dL_goes_306 : decode cL_goes 306 = .ok (.ifCond .eq 18, 3) := by decide +kernel
theorem dL_goes_309 : decode cL_goes 309 = .ok (.dload 36, 2) := by decide +kernel
theorem dL_goes_311 : decode cL_goes 311 = .ok (.iload 17, 2) := by decide +kernel
theorem dL_goes_313 : decode cL_goes 313 = .ok (.dload 22, 2) := by decide +kernel
theorem dL_goes_315 : decode cL_goes 315 = .ok (.dload 28, 2) := by decide +kernel
theorem dL_goes_317 : decode cL_goes 317 = .ok (.invokestatic 55, 3) := by decide +kernel
theorem dL_goes_320 : decode cL_goes 320 = .ok (.dadd, 1) := by decide +kernel
theorem dL_goes_321 : decode cL_goes 321 = .ok (.goto 5, 3) := by decide +kernel
theorem dL_goes_324 : decode cL_goes 324 = .ok (.dload 36, 2) := by decide +kernel
theorem dL_goes_326 : decode cL_goes 326 = .ok (.dstore 36, 2) := by decide +kernel
theorem dL_goes_328 : decode cL_goes 328 = .ok (.iload 33, 2) := by decide +kernel
theorem dL_goes_330 : decode cL_goes 330 = .ok (.ifCond .eq 11, 3) := by decide +kernel
theorem dL_goes_333 : decode cL_goes 333 = .ok (.dload 38, 2) := by decide +kernel
theorem dL_goes_335 : decode cL_goes 335 = .ok (.dload 28, 2) := by decide +kernel
theorem dL_goes_337 : decode cL_goes 337 = .ok (.dadd, 1) := by decide +kernel
theorem dL_goes_338 : decode cL_goes 338 = .ok (.goto 5, 3) := by decide +kernel
theorem dL_goes_341 : decode cL_goes 341 = .ok (.dload 38, 2) := by decide +kernel
theorem dL_goes_343 : decode cL_goes 343 = .ok (.dstore 38, 2) := by decide +kernel
theorem dL_goes_345 : decode cL_goes 345 = .ok (.iload 33, 2) := by decide +kernel
theorem dL_goes_347 : decode cL_goes 347 = .ok (.ifCond .eq 18, 3) := by decide +kernel
theorem dL_goes_350 : decode cL_goes 350 = .ok (.dload 40, 2) := by decide +kernel
theorem dL_goes_352 : decode cL_goes 352 = .ok (.iload 17, 2) := by decide +kernel
theorem dL_goes_354 : decode cL_goes 354 = .ok (.dload 28, 2) := by decide +kernel
theorem dL_goes_356 : decode cL_goes 356 = .ok (.dload 22, 2) := by decide +kernel
theorem dL_goes_358 : decode cL_goes 358 = .ok (.invokestatic 55, 3) := by decide +kernel
theorem dL_goes_361 : decode cL_goes 361 = .ok (.dadd, 1) := by decide +kernel
theorem dL_goes_362 : decode cL_goes 362 = .ok (.goto 5, 3) := by decide +kernel
theorem dL_goes_365 : decode cL_goes 365 = .ok (.dload 40, 2) := by decide +kernel
theorem dL_goes_367 : decode cL_goes 367 = .ok (.dstore 40, 2) := by decide +kernel
theorem dL_goes_369 : decode cL_goes 369 = .ok (.iload 33, 2) := by decide +kernel
theorem dL_goes_371 : decode cL_goes 371 = .ok (.ifCond .eq 11, 3) := by decide +kernel
theorem dL_goes_374 : decode cL_goes 374 = .ok (.dload 42, 2) := by decide +kernel
theorem dL_goes_376 : decode cL_goes 376 = .ok (.dload 22, 2) := by decide +kernel
theorem dL_goes_378 : decode cL_goes 378 = .ok (.dadd, 1) := by decide +kernel
theorem dL_goes_379 : decode cL_goes 379 = .ok (.goto 5, 3) := by decide +kernel
theorem dL_goes_382 : decode cL_goes 382 = .ok (.dload 42, 2) := by decide +kernel
theorem dL_goes_384 : decode cL_goes 384 = .ok (.dstore 42, 2) := by decide +kernel
theorem dL_goes_386 : decode cL_goes 386 = .ok (.iload 34, 2) := by decide +kernel
theorem dL_goes_388 : decode cL_goes 388 = .ok (.ifCond .eq 18, 3) := by decide +kernel
theorem dL_goes_391 : decode cL_goes 391 = .ok (.dload 36, 2) := by decide +kernel
theorem dL_goes_393 : decode cL_goes 393 = .ok (.iload 17, 2) := by decide +kernel
theorem dL_goes_395 : decode cL_goes 395 = .ok (.dload 24, 2) := by decide +kernel
theorem dL_goes_397 : decode cL_goes 397 = .ok (.dload 30, 2) := by decide +kernel
theorem dL_goes_399 : decode cL_goes 399 = .ok (.invokestatic 55, 3) := by decide +kernel
theorem dL_goes_402 : decode cL_goes 402 = .ok (.dadd, 1) := by decide +kernel
theorem dL_goes_403 : decode cL_goes 403 = .ok (.goto 5, 3) := by decide +kernel
theorem dL_goes_406 : decode cL_goes 406 = .ok (.dload 36, 2) := by decide +kernel
theorem dL_goes_408 : decode cL_goes 408 = .ok (.dstore 36, 2) := by decide +kernel
theorem dL_goes_410 : decode cL_goes 410 = .ok (.iload 34, 2) := by decide +kernel
theorem dL_goes_412 : decode cL_goes 412 = .ok (.ifCond .eq 11, 3) := by decide +kernel
theorem dL_goes_415 : decode cL_goes 415 = .ok (.dload 38, 2) := by decide +kernel
theorem dL_goes_417 : decode cL_goes 417 = .ok (.dload 30, 2) := by decide +kernel
theorem dL_goes_419 : decode cL_goes 419 = .ok (.dadd, 1) := by decide +kernel
theorem dL_goes_420 : decode cL_goes 420 = .ok (.goto 5, 3) := by decide +kernel
theorem dL_goes_423 : decode cL_goes 423 = .ok (.dload 38, 2) := by decide +kernel
theorem dL_goes_425 : decode cL_goes 425 = .ok (.dstore 38, 2) := by decide +kernel
theorem dL_goes_427 : decode cL_goes 427 = .ok (.iload 34, 2) := by decide +kernel
theorem dL_goes_429 : decode cL_goes 429 = .ok (.ifCond .eq 18, 3) := by decide +kernel
theorem dL_goes_432 : decode cL_goes 432 = .ok (.dload 40, 2) := by decide +kernel
theorem dL_goes_434 : decode cL_goes 434 = .ok (.iload 17, 2) := by decide +kernel
theorem dL_goes_436 : decode cL_goes 436 = .ok (.dload 30, 2) := by decide +kernel
theorem dL_goes_438 : decode cL_goes 438 = .ok (.dload 24, 2) := by decide +kernel
theorem dL_goes_440 : decode cL_goes 440 = .ok (.invokestatic 55, 3) := by decide +kernel
theorem dL_goes_443 : decode cL_goes 443 = .ok (.dadd, 1) := by decide +kernel
theorem dL_goes_444 : decode cL_goes 444 = .ok (.goto 5, 3) := by decide +kernel
theorem dL_goes_447 : decode cL_goes 447 = .ok (.dload 40, 2) := by decide +kernel
theorem dL_goes_449 : decode cL_goes 449 = .ok (.dstore 40, 2) := by decide +kernel
theorem dL_goes_451 : decode cL_goes 451 = .ok (.iload 34, 2) := by decide +kernel
theorem dL_goes_453 : decode cL_goes 453 = .ok (.ifCond .eq 11, 3) := by decide +kernel
theorem dL_goes_456 : decode cL_goes 456 = .ok (.dload 42, 2) := by decide +kernel
theorem dL_goes_458 : decode cL_goes 458 = .ok (.dload 24, 2) := by decide +kernel
theorem dL_goes_460 : decode cL_goes 460 = .ok (.dadd, 1) := by decide +kernel
theorem dL_goes_461 : decode cL_goes 461 = .ok (.goto 5, 3) := by decide +kernel
theorem dL_goes_464 : decode cL_goes 464 = .ok (.dload 42, 2) := by decide +kernel
theorem dL_goes_466 : decode cL_goes 466 = .ok (.dstore 42, 2) := by decide +kernel
theorem dL_goes_468 : decode cL_goes 468 = .ok (.iload 35, 2) := by decide +kernel
theorem dL_goes_470 : decode cL_goes 470 = .ok (.ifCond .ne 7, 3) := by decide +kernel
theorem dL_goes_473 : decode cL_goes 473 = .ok (.dconst 0, 1) := by decide +kernel
