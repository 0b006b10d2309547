set_option maxRecDepth 20000 in
theorem ggX6_init_X2_init : GoodIn wsX6_init wsX2_init := goodIn_r _ [26, 27, 2, 3, 28, 21, 22, 29, 17, 30, 31, 32, 33, 34, 35, 36, 37, 38, 39, 40, 41, 42, 43, 44, 45, 46, 47, 48, 49, 50, 51, 52, 107, 108, 109, 78, 79, 80, 81, 82, 83, 84, 85, 86, 87] (by decide +kernel) (by decide +kernel)
set_option maxRecDepth 20000 in
theorem gX6_init_X2_init_n11 : GoodIn wsX6_init (wsX2_init) := ggX6_init_X2_init
set_option maxRecDepth 20000 in
theorem ggX6_init_X4_init : GoodIn wsX6_init wsX4_init := goodIn_r _ [54, 55, 2, 3, 17, 56, 57, 58, 59, 96, 97, 98] (by decide +kernel) (by decide +kernel)
set_option maxRecDepth 20000 in
theorem gX6_init_X4_init_n18 : GoodIn wsX6_init (wsX4_init) := ggX6_init_X4_init
set_option maxRecDepth 20000 in
theorem ggX6_init_X3_init : GoodIn wsX6_init wsX3_init := goodIn_r _ [62, 63, 2, 3, 64, 65, 66, 67, 58, 68, 69, 70, 71, 72, 73, 74, 75, 76, 110, 111, 112, 113, 114, 99, 100, 101, 102, 103, 104, 105, 106] (by decide +kernel) (by decide +kernel)
set_option maxRecDepth 20000 in
theorem gX6_init_X3_init : GoodIn wsX6_init (wsX3_init) := ggX6_init_X3_init
set_option maxRecDepth 20000 in
theorem ggX6_init_Jx4a65c_init_da8c8 : GoodIn wsX6_init wsJx4a65c_init_da8c8 := goodIn_r _ [40, 41, 42, 43, 44, 45, 46, 47, 48, 49, 50, 51, 52, 2, 3, 107, 108, 109] (by decide +kernel) (by decide +kernel)
set_option maxRecDepth 20000 in
theorem gX6_init_Jx4a65c_init_da8c8 : GoodIn wsX6_init (wsJx4a65c_init_da8c8) := ggX6_init_Jx4a65c_init_da8c8
theorem dX6_init_0 : decode cX6_init 0 = .ok (.aload_n 0, 1) := by decide +kernel
theorem dX6_init_1 : decode cX6_init 1 = .ok (.invokespecial 3, 3) := by decide +kernel
theorem dX6_init_4 : decode cX6_init 4 = .ok (.aload_n 0, 1) := by decide +kernel
theorem dX6_init_5 : decode cX6_init 5 = .ok (.new 9, 3) := by decide +kernel
theorem dX6_init_8 : decode cX6_init 8 = .ok (.dup, 1) := by decide +kernel
theorem dX6_init_9 : decode cX6_init 9 = .ok (.invokespecial 11, 3) := by decide +kernel
theorem dX6_init_12 : decode cX6_init 12 = .ok (.putfield 12, 3) := by decide +kernel
theorem dX6_init_15 : decode cX6_init 15 = .ok (.aload_n 0, 1) := by decide +kernel
theorem dX6_init_16 : decode cX6_init 16 = .ok (.new 16, 3) := by decide +kernel
theorem dX6_init_19 : decode cX6_init 19 = .ok (.dup, 1) := by decide +kernel
theorem dX6_init_20 : decode cX6_init 20 = .ok (.invokespecial 18, 3) := by decide +kernel
theorem dX6_init_23 : decode cX6_init 23 = .ok (.putfield 19, 3) := by decide +kernel
theorem dX6_init_26 : decode cX6_init 26 = .ok (.aload_n 0, 1) := by decide +kernel
theorem dX6_init_27 : decode cX6_init 27 = .ok (.new 23, 3) := by decide +kernel
theorem dX6_init_30 : decode cX6_init 30 = .ok (.dup, 1) := by decide +kernel
theorem dX6_init_31 : decode cX6_init 31 = .ok (.aload_n 0, 1) := by decide +kernel
theorem dX6_init_32 : decode cX6_init 32 = .ok (.getfield 12, 3) := by decide +kernel
theorem dX6_init_35 : decode cX6_init 35 = .ok (.aload_n 0, 1) := by decide +kernel
theorem dX6_init_36 : decode cX6_init 36 = .ok (.getfield 19, 3) := by decide +kernel
theorem dX6_init_39 : decode cX6_init 39 = .ok (.invokespecial 25, 3) := by decide +kernel
theorem dX6_init_42 : decode cX6_init 42 = .ok (.putfield 28, 3) := by decide +kernel
theorem dX6_init_45 : decode cX6_init 45 = .ok (.aload_n 0, 1) := by decide +kernel
theorem dX6_init_46 : decode cX6_init 46 = .ok (.new 23, 3) := by decide +kernel
theorem dX6_init_49 : decode cX6_init 49 = .ok (.dup, 1) := by decide +kernel
theorem dX6_init_50 : decode cX6_init 50 = .ok (.aload_n 0, 1) := by decide +kernel
theorem dX6_init_51 : decode cX6_init 51 = .ok (.getfield 12, 3) := by decide +kernel
theorem dX6_init_54 : decode cX6_init 54 = .ok (.aload_n 0, 1) := by decide +kernel
theorem dX6_init_55 : decode cX6_init 55 = .ok (.getfield 19, 3) := by decide +kernel
theorem dX6_init_58 : decode cX6_init 58 = .ok (.invokespecial 25, 3) := by decide +kernel
theorem dX6_init_61 : decode cX6_init 61 = .ok (.putfield 32, 3) := by decide +kernel
theorem dX6_init_64 : decode cX6_init 64 = .ok (.aload_n 0, 1) := by decide +kernel
theorem dX6_init_65 : decode cX6_init 65 = .ok (.bipush 24, 2) := by decide +kernel
theorem dX6_init_67 : decode cX6_init 67 = .ok (.newarray .int, 2) := by decide +kernel
theorem dX6_init_69 : decode cX6_init 69 = .ok (.putfield 35, 3) := by decide +kernel
theorem dX6_init_72 : decode cX6_init 72 = .ok (.aload_n 0, 1) := by decide +kernel
theorem dX6_init_73 : decode cX6_init 73 = .ok (.bipush 24, 2) := by decide +kernel
theorem dX6_init_75 : decode cX6_init 75 = .ok (.newarray .int, 2) := by decide +kernel
theorem dX6_init_77 : decode cX6_init 77 = .ok (.putfield 39, 3) := by decide +kernel
theorem dX6_init_80 : decode cX6_init 80 = .ok (.aload_n 0, 1) := by decide +kernel
theorem dX6_init_81 : decode cX6_init 81 = .ok (.new 42, 3) := by decide +kernel
theorem dX6_init_84 : decode cX6_init 84 = .ok (.dup, 1) := by decide +kernel
theorem dX6_init_85 : decode cX6_init 85 = .ok (.invokespecial 44, 3) := by decide +kernel
theorem dX6_init_88 : decode cX6_init 88 = .ok (.putfield 45, 3) := by decide +kernel
theorem dX6_init_91 : decode cX6_init 91 = .ok (.aload_n 0, 1) := by decide +kernel
theorem dX6_init_92 : decode cX6_init 92 = .ok (.iconst 0, 1) := by decide +kernel
theorem dX6_init_93 : decode cX6_init 93 = .ok (.putfield 49, 3) := by decide +kernel
theorem dX6_init_96 : decode cX6_init 96 = .ok (.return_, 1) := by decide +kernel
set_option maxRecDepth 20000 in
theorem ggX6_item_X6_requireGroup : GoodIn wsX6_item wsX6_requireGroup := goodIn_ca (goodIn_r _ [10, 11, 12] (by decide +kernel) (by decide +kernel)) (goodIn_sub (fun _ h => List.mem_cons_of_mem _ (List.mem_append_left _ (List.mem_append_right _ h))) (by decide +kernel))
set_option maxRecDepth 20000 in
theorem gX6_item_X6_requireGroup : GoodIn wsX6_item (va_wsS RX6 53 yX6_requireGroup wsX6_requireGroup) := goodIn_app (goodIn_of _ (by decide +kernel)) ggX6_item_X6_requireGroup
set_option maxRecDepth 20000 in
theorem ggX6_item_X6_requireRange : GoodIn wsX6_item wsX6_requireRange := goodIn_ca (goodIn_r _ [15, 16, 17] (by decide +kernel) (by decide +kernel)) (goodIn_sub (fun _ h => List.mem_cons_of_mem _ (List.mem_append_right _ h)) (by decide +kernel))
set_option maxRecDepth 20000 in
theorem gX6_item_X6_requireRange : GoodIn wsX6_item (va_wsS RX6 57 yX6_requireRange wsX6_requireRange) := goodIn_app (goodIn_of _ (by decide +kernel)) ggX6_item_X6_requireRange
set_option maxRecDepth 20000 in
theorem ggX6_item_Jx4a65c_size_8abf5 : GoodIn wsX6_item wsJx4a65c_size_8abf5 := goodIn_r _ [22, 23, 108, 109, 110] (by decide +kernel) (by decide +kernel)
set_option maxRecDepth 20000 in
theorem gX6_item_Jx4a65c_size_8abf5 : GoodIn wsX6_item (wsV RX6 64 RJx4a65c yJx4a65c_size_8abf5 wsJx4a65c_size_8abf5) := goodIn_app (goodIn_of _ (by decide +kernel)) ggX6_item_Jx4a65c_size_8abf5
set_option maxRecDepth 20000 in
theorem ggX6_item_X1_init : GoodIn wsX6_item wsX1_init := goodIn_r _ [26, 27, 28, 29, 30, 31, 32, 105, 106, 107] (by decide +kernel) (by decide +kernel)
set_option maxRecDepth 20000 in
theorem gX6_item_X1_init : GoodIn wsX6_item (wsX1_init) := ggX6_item_X1_init
set_option maxRecDepth 20000 in
theorem ggX6_item_Jx4a65c_add_9ea2d : GoodIn wsX6_item wsJx4a65c_add_9ea2d := goodIn_r _ [36, 37, 38, 39, 23, 40, 41, 42, 21, 43, 44, 45, 46, 47, 48, 49, 50, 51, 52, 53, 54, 55, 56, 57, 58, 59, 60, 61, 62, 63, 64, 65, 66, 67, 68, 69, 70, 71, 72, 73, 74, 75, 76, 77, 78, 79, 80, 81, 82, 83, 84, 85, 86, 108, 109, 110] (by decide +kernel) (by decide +kernel)
set_option maxRecDepth 20000 in
theorem gX6_item_Jx4a65c_add_9ea2d : GoodIn wsX6_item (wsV RX6 79 RJx4a65c yJx4a65c_add_9ea2d wsJx4a65c_add_9ea2d) := goodIn_app (goodIn_of _ (by decide +kernel)) ggX6_item_Jx4a65c_add_9ea2d
theorem dX6_item_0 : decode cX6_item 0 = .ok (.iload_n 1, 1) := by decide +kernel
theorem dX6_item_1 : decode cX6_item 1 = .ok (.invokestatic 53, 3) := by decide +kernel
theorem dX6_item_4 : decode cX6_item 4 = .ok (.iload_n 2, 1) := by decide +kernel
theorem dX6_item_5 : decode cX6_item 5 = .ok (.iconst 0, 1) := by decide +kernel
theorem dX6_item_6 : decode cX6_item 6 = .ok (.iconst 2, 1) := by decide +kernel
theorem dX6_item_7 : decode cX6_item 7 = .ok (.invokestatic 57, 3) := by decide +kernel
theorem dX6_item_10 : decode cX6_item 10 = .ok (.iload_n 3, 1) := by decide +kernel
theorem dX6_item_11 : decode cX6_item 11 = .ok (.iconst 1, 1) := by decide +kernel
theorem dX6_item_12 : decode cX6_item 12 = .ok (.sipush 4095, 3) := by decide +kernel
theorem dX6_item_15 : decode cX6_item 15 = .ok (.invokestatic 57, 3) := by decide +kernel
theorem dX6_item_18 : decode cX6_item 18 = .ok (.aload_n 0, 1) := by decide +kernel
theorem dX6_item_19 : decode cX6_item 19 = .ok (.getfield 12, 3) := by decide +kernel
theorem dX6_item_22 : decode cX6_item 22 = .ok (.getfield 61, 3) := by decide +kernel
theorem dX6_item_25 : decode cX6_item 25 = .ok (.invokevirtual 64, 3) := by decide +kernel
theorem dX6_item_28 : decode cX6_item 28 = .ok (.bipush 12, 2) := by decide +kernel
theorem dX6_item_30 : decode cX6_item 30 = .ok (.if_icmp .lt 13, 3) := by decide +kernel
theorem dX6_item_33 : decode cX6_item 33 = .ok (.new 68, 3) := by decide +kernel
theorem dX6_item_36 : decode cX6_item 36 = .ok (.dup, 1) := by decide +kernel
theorem dX6_item_37 : decode cX6_item 37 = .ok (.ldc 70, 2) := by decide +kernel
theorem dX6_item_39 : decode cX6_item 39 = .ok (.invokespecial 72, 3) := by decide +kernel
theorem dX6_item_42 : decode cX6_item 42 = .ok (.athrow, 1) := by decide +kernel
theorem dX6_item_43 : decode cX6_item 43 = .ok (.aload_n 0, 1) := by decide +kernel
theorem dX6_item_44 : decode cX6_item 44 = .ok (.getfield 12, 3) := by decide +kernel
theorem dX6_item_47 : decode cX6_item 47 = .ok (.getfield 61, 3) := by decide +kernel
theorem dX6_item_50 : decode cX6_item 50 = .ok (.new 75, 3) := by decide +kernel
theorem dX6_item_53 : decode cX6_item 53 = .ok (.dup, 1) := by decide +kernel
theorem dX6_item_54 : decode cX6_item 54 = .ok (.iload_n 1, 1) := by decide +kernel
theorem dX6_item_55 : decode cX6_item 55 = .ok (.iload_n 2, 1) := by decide +kernel
theorem dX6_item_56 : decode cX6_item 56 = .ok (.iload_n 3, 1) := by decide +kernel
theorem dX6_item_57 : decode cX6_item 57 = .ok (.invokespecial 77, 3) := by decide +kernel
theorem dX6_item_60 : decode cX6_item 60 = .ok (.invokevirtual 79, 3) := by decide +kernel
theorem dX6_item_63 : decode cX6_item 63 = .ok (.pop, 1) := by decide +kernel
theorem dX6_item_64 : decode cX6_item 64 = .ok (.aload_n 0, 1) := by decide +kernel
theorem dX6_item_65 : decode cX6_item 65 = .ok (.getfield 12, 3) := by decide +kernel
theorem dX6_item_68 : decode cX6_item 68 = .ok (.getfield 61, 3) := by decide +kernel
theorem dX6_item_71 : decode cX6_item 71 = .ok (.invokevirtual 64, 3) := by decide +kernel
theorem dX6_item_74 : decode cX6_item 74 = .ok (.iconst 1, 1) := by decide +kernel
theorem dX6_item_75 : decode cX6_item 75 = .ok (.isub, 1) := by decide +kernel
theorem dX6_item_76 : decode cX6_item 76 = .ok (.ireturn, 1) := by decide +kernel
set_option maxRecDepth 20000 in
theorem ggX6_quote_X6_requireItem : GoodIn wsX6_quote wsX6_requireItem := goodIn_ca (goodIn_r _ [11, 12, 13, 4, 14, 15, 16, 17, 18, 19, 71, 72, 73, 74, 75, 76, 77, 78, 79, 80, 81, 82, 83, 84, 85, 86, 87, 88, 89, 90, 91] (by decide +kernel) (by decide +kernel)) (goodIn_sub (fun _ h => List.mem_cons_of_mem _ (List.mem_append_left _ (List.mem_append_right _ h))) (by decide +kernel))
set_option maxRecDepth 20000 in
theorem gX6_quote_X6_requireItem : GoodIn wsX6_quote (wsV RX6 83 RX6 yX6_requireItem wsX6_requireItem) := goodIn_app (goodIn_of _ (by decide +kernel)) ggX6_quote_X6_requireItem
set_option maxRecDepth 20000 in
theorem ggX6_quote_X6_requireOutlet : GoodIn wsX6_quote wsX6_requireOutlet := goodIn_ca (goodIn_r _ [22, 12, 13] (by decide +kernel) (by decide +kernel)) (goodIn_sub (fun _ h => List.mem_cons_of_mem _ (List.mem_append_left _ (List.mem_append_right _ h))) (by decide +kernel))
set_option maxRecDepth 20000 in
theorem gX6_quote_X6_requireOutlet : GoodIn wsX6_quote (va_wsS RX6 86 yX6_requireOutlet wsX6_requireOutlet) := goodIn_app (goodIn_of _ (by decide +kernel)) ggX6_quote_X6_requireOutlet
set_option maxRecDepth 20000 in
theorem ggX6_quote_X6_requireRange : GoodIn wsX6_quote wsX6_requireRange := goodIn_ca (goodIn_r _ [25, 26, 27] (by decide +kernel) (by decide +kernel)) (goodIn_sub (fun _ h => List.mem_cons_of_mem _ (List.mem_append_right _ h)) (by decide +kernel))
set_option maxRecDepth 20000 in
theorem gX6_quote_X6_requireRange : GoodIn wsX6_quote (va_wsS RX6 57 yX6_requireRange wsX6_requireRange) := goodIn_app (goodIn_of _ (by decide +kernel)) ggX6_quote_X6_requireRange
set_option maxRecDepth 20000 in
theorem ggX6_quote_X6_requireCollecting : GoodIn wsX6_quote wsX6_requireCollecting := goodIn_ca (goodIn_r _ [31, 1, 2, 6, 71, 72, 73, 74, 75, 76, 77, 78] (by decide +kernel) (by decide +kernel)) (goodIn_sub (fun _ h => List.mem_cons_of_mem _ (List.mem_append_left _ (List.mem_append_left _ (List.mem_append_right _ h)))) (by decide +kernel))
set_option maxRecDepth 20000 in
theorem gX6_quote_X6_requireCollecting : GoodIn wsX6_quote (wsV RX6 90 RX6 yX6_requireCollecting wsX6_requireCollecting) := goodIn_app (goodIn_of _ (by decide +kernel)) ggX6_quote_X6_requireCollecting
set_option maxRecDepth 20000 in
theorem ggX6_quote_Jx4a65c_get_915e3 : GoodIn wsX6_quote wsJx4a65c_get_915e3 := goodIn_r _ [35, 19, 36, 37, 38, 39, 40, 41, 42, 43, 44, 45, 46, 17, 47, 48, 89, 90, 91] (by decide +kernel) (by decide +kernel)
set_option maxRecDepth 20000 in
theorem gX6_quote_Jx4a65c_get_915e3 : GoodIn wsX6_quote (wsV RX6 93 RJx4a65c yJx4a65c_get_915e3 wsJx4a65c_get_915e3) := goodIn_app (goodIn_of _ (by decide +kernel)) ggX6_quote_Jx4a65c_get_915e3
set_option maxRecDepth 20000 in
theorem ggX6_quote_X1_isInSeason : GoodIn wsX6_quote wsX1_isInSeason := goodIn_r _ [53, 54, 92, 93, 94] (by decide +kernel) (by decide +kernel)
set_option maxRecDepth 20000 in
theorem gX6_quote_X1_isInSeason : GoodIn wsX6_quote (wsV RX6 97 RX1 yX1_isInSeason wsX1_isInSeason) := goodIn_app (goodIn_of _ (by decide +kernel)) ggX6_quote_X1_isInSeason
set_option maxRecDepth 20000 in
theorem ggX6_quote_X6_slotOf : GoodIn wsX6_quote wsX6_slotOf := goodIn_r _ [57] (by decide +kernel) (by decide +kernel)
set_option maxRecDepth 20000 in
theorem gX6_quote_X6_slotOf : GoodIn wsX6_quote (va_wsS RX6 103 yX6_slotOf wsX6_slotOf) := goodIn_app (goodIn_of _ (by decide +kernel)) ggX6_quote_X6_slotOf
set_option maxRecDepth 20000 in
theorem ggX6_quote_X2_hasQuote : GoodIn wsX6_quote wsX2_hasQuote := goodIn_r _ [62, 63, 79, 80, 81, 82, 83, 84, 85, 86, 87, 88] (by decide +kernel) (by decide +kernel)
set_option maxRecDepth 20000 in
theorem gX6_quote_X2_hasQuote : GoodIn wsX6_quote (wsV RX6 107 RX2 yX2_hasQuote wsX2_hasQuote) := goodIn_app (goodIn_of _ (by decide +kernel)) ggX6_quote_X2_hasQuote
set_option maxRecDepth 20000 in
theorem ggX6_quote_X2_putQuote : GoodIn wsX6_quote wsX2_putQuote := goodIn_r _ [67, 63, 68, 69, 70, 79, 80, 81, 82, 83, 84, 85, 86, 87, 88] (by decide +kernel) (by decide +kernel)
set_option maxRecDepth 20000 in
theorem gX6_quote_X2_putQuote : GoodIn wsX6_quote (wsV RX6 112 RX2 yX2_putQuote wsX2_putQuote) := goodIn_app (goodIn_of _ (by decide +kernel)) ggX6_quote_X2_putQuote
theorem dX6_quote_0 : decode cX6_quote 0 = .ok (.aload_n 0, 1) := by decide +kernel
theorem dX6_quote_1 : decode cX6_quote 1 = .ok (.iload_n 1, 1) := by decide +kernel
theorem dX6_quote_2 : decode cX6_quote 2 = .ok (.invokevirtual 83, 3) := by decide +kernel
theorem dX6_quote_5 : decode cX6_quote 5 = .ok (.iload_n 2, 1) := by decide +kernel
theorem dX6_quote_6 : decode cX6_quote 6 = .ok (.invokestatic 86, 3) := by decide +kernel
theorem dX6_quote_9 : decode cX6_quote 9 = .ok (.iload_n 3, 1) := by decide +kernel
theorem dX6_quote_10 : decode cX6_quote 10 = .ok (.iconst 1, 1) := by decide +kernel
theorem dX6_quote_11 : decode cX6_quote 11 = .ok (.ldc 89, 2) := by decide +kernel
theorem dX6_quote_13 : decode cX6_quote 13 = .ok (.invokestatic 57, 3) := by decide +kernel
theorem dX6_quote_16 : decode cX6_quote 16 = .ok (.iload 4, 2) := by decide +kernel
theorem dX6_quote_18 : decode cX6_quote 18 = .ok (.iconst 1, 1) := by decide +kernel
theorem dX6_quote_19 : decode cX6_quote 19 = .ok (.sipush 10000, 3) := by decide +kernel
theorem dX6_quote_22 : decode cX6_quote 22 = .ok (.invokestatic 57, 3) := by decide +kernel
theorem dX6_quote_25 : decode cX6_quote 25 = .ok (.aload_n 0, 1) := by decide +kernel
theorem dX6_quote_26 : decode cX6_quote 26 = .ok (.invokevirtual 90, 3) := by decide +kernel
theorem dX6_quote_29 : decode cX6_quote 29 = .ok (.aload_n 0, 1) := by decide +kernel
theorem dX6_quote_30 : decode cX6_quote 30 = .ok (.getfield 12, 3) := by decide +kernel
theorem dX6_quote_33 : decode cX6_quote 33 = .ok (.getfield 61, 3) := by decide +kernel
theorem dX6_quote_36 : decode cX6_quote 36 = .ok (.iload_n 1, 1) := by decide +kernel
theorem dX6_quote_37 : decode cX6_quote 37 = .ok (.invokevirtual 93, 3) := by decide +kernel
theorem dX6_quote_40 : decode cX6_quote 40 = .ok (.checkcast 75, 3) := by decide +kernel
theorem dX6_quote_43 : decode cX6_quote 43 = .ok (.aload_n 0, 1) := by decide +kernel
theorem dX6_quote_44 : decode cX6_quote 44 = .ok (.getfield 49, 3) := by decide +kernel
theorem dX6_quote_47 : decode cX6_quote 47 = .ok (.invokevirtual 97, 3) := by decide +kernel
theorem dX6_quote_50 : decode cX6_quote 50 = .ok (.ifCond .ne 13, 3) := by decide +kernel
theorem dX6_quote_53 : decode cX6_quote 53 = .ok (.new 68, 3) := by decide +kernel
theorem dX6_quote_56 : decode cX6_quote 56 = .ok (.dup, 1) := by decide +kernel
theorem dX6_quote_57 : decode cX6_quote 57 = .ok (.ldc 101, 2) := by decide +kernel
theorem dX6_quote_59 : decode cX6_quote 59 = .ok (.invokespecial 72, 3) := by decide +kernel
theorem dX6_quote_62 : decode cX6_quote 62 = .ok (.athrow, 1) := by decide +kernel
theorem dX6_quote_63 : decode cX6_quote 63 = .ok (.iload_n 1, 1) := by decide +kernel
theorem dX6_quote_64 : decode cX6_quote 64 = .ok (.iload_n 2, 1) := by decide +kernel
theorem dX6_quote_65 : decode cX6_quote 65 = .ok (.aload_n 0, 1) := by decide +kernel
theorem dX6_quote_66 : decode cX6_quote 66 = .ok (.getfield 49, 3) := by decide +kernel
theorem dX6_quote_69 : decode cX6_quote 69 = .ok (.invokestatic 103, 3) := by decide +kernel
theorem dX6_quote_72 : decode cX6_quote 72 = .ok (.istore 5, 2) := by decide +kernel
theorem dX6_quote_74 : decode cX6_quote 74 = .ok (.aload_n 0, 1) := by decide +kernel
theorem dX6_quote_75 : decode cX6_quote 75 = .ok (.getfield 12, 3) := by decide +kernel
theorem dX6_quote_78 : decode cX6_quote 78 = .ok (.iload 5, 2) := by decide +kernel
theorem dX6_quote_80 : decode cX6_quote 80 = .ok (.invokevirtual 107, 3) := by decide +kernel
theorem dX6_quote_83 : decode cX6_quote 83 = .ok (.ifCond .eq 13, 3) := by decide +kernel
theorem dX6_quote_86 : decode cX6_quote 86 = .ok (.new 68, 3) := by decide +kernel
theorem dX6_quote_89 : decode cX6_quote 89 = .ok (.dup, 1) := by decide +kernel
theorem dX6_quote_90 : decode cX6_quote 90 = .ok (.ldc 110, 2) := by decide +kernel
theorem dX6_quote_92 : decode cX6_quote 92 = .ok (.invokespecial 72, 3) := by decide +kernel
theorem dX6_quote_95 : decode cX6_quote 95 = .ok (.athrow, 1) := by decide +kernel
theorem dX6_quote_96 : decode cX6_quote 96 = .ok (.aload_n 0, 1) := by decide +kernel
theorem dX6_quote_97 : decode cX6_quote 97 = .ok (.getfield 12, 3) := by decide +kernel
theorem dX6_quote_100 : decode cX6_quote 100 = .ok (.iload 5, 2) := by decide +kernel
theorem dX6_quote_102 : decode cX6_quote 102 = .ok (.iload_n 3, 1) := by decide +kernel
theorem dX6_quote_103 : decode cX6_quote 103 = .ok (.iload 4, 2) := by decide +kernel
theorem dX6_quote_105 : decode cX6_quote 105 = .ok (.invokevirtual 112, 3) := by decide +kernel
theorem dX6_quote_108 : decode cX6_quote 108 = .ok (.aload_n 0, 1) := by decide +kernel
theorem dX6_quote_109 : decode cX6_quote 109 = .ok (.getfield 12, 3) := by decide +kernel
theorem dX6_quote_112 : decode cX6_quote 112 = .ok (.getfield 115, 3) := by decide +kernel
theorem dX6_quote_115 : decode cX6_quote 115 = .ok (.ireturn, 1) := by decide +kernel
set_option maxRecDepth 20000 in
theorem ggX6_confirm_X6_requireItem : GoodIn wsX6_confirm wsX6_requireItem := goodIn_ca (goodIn_r _ [7, 8, 9, 2, 10, 11, 12, 13, 14, 15, 38, 39, 40, 41, 42, 43, 44, 45, 46, 47, 48, 49, 50, 51, 52, 53, 54, 55, 56, 57, 58] (by decide +kernel) (by decide +kernel)) (goodIn_sub (fun _ h => List.mem_cons_of_mem _ (List.mem_append_left _ (List.mem_append_right _ h))) (by decide +kernel))
set_option maxRecDepth 20000 in
theorem gX6_confirm_X6_requireItem : GoodIn wsX6_confirm (wsV RX6 83 RX6 yX6_requireItem wsX6_requireItem) := goodIn_app (goodIn_of _ (by decide +kernel)) ggX6_confirm_X6_requireItem
set_option maxRecDepth 20000 in
theorem ggX6_confirm_X6_requireOutlet : GoodIn wsX6_confirm wsX6_requireOutlet := goodIn_ca (goodIn_r _ [18, 8, 9] (by decide +kernel) (by decide +kernel)) (goodIn_sub (fun _ h => List.mem_cons_of_mem _ (List.mem_append_left _ (List.mem_append_right _ h))) (by decide +kernel))
set_option maxRecDepth 20000 in
theorem gX6_confirm_X6_requireOutlet : GoodIn wsX6_confirm (va_wsS RX6 86 yX6_requireOutlet wsX6_requireOutlet) := goodIn_app (goodIn_of _ (by decide +kernel)) ggX6_confirm_X6_requireOutlet
set_option maxRecDepth 20000 in
theorem ggX6_confirm_X6_requireCollecting : GoodIn wsX6_confirm wsX6_requireCollecting := goodIn_ca (goodIn_r _ [22, 23, 24, 1, 38, 39, 40, 41, 42, 43, 44, 45] (by decide +kernel) (by decide +kernel)) (goodIn_sub (fun _ h => List.mem_cons_of_mem _ (List.mem_append_right _ h)) (by decide +kernel))
set_option maxRecDepth 20000 in
theorem gX6_confirm_X6_requireCollecting : GoodIn wsX6_confirm (wsV RX6 90 RX6 yX6_requireCollecting wsX6_requireCollecting) := goodIn_app (goodIn_of _ (by decide +kernel)) ggX6_confirm_X6_requireCollecting
set_option maxRecDepth 20000 in
theorem ggX6_confirm_X6_slotOf : GoodIn wsX6_confirm wsX6_slotOf := goodIn_r _ [27] (by decide +kernel) (by decide +kernel)
set_option maxRecDepth 20000 in
theorem gX6_confirm_X6_slotOf : GoodIn wsX6_confirm (va_wsS RX6 103 yX6_slotOf wsX6_slotOf) := goodIn_app (goodIn_of _ (by decide +kernel)) ggX6_confirm_X6_slotOf
set_option maxRecDepth 20000 in
theorem ggX6_confirm_X6_requireQuote : GoodIn wsX6_confirm wsX6_requireQuote := goodIn_ca (goodIn_r _ [31, 23, 24, 2, 32, 33, 34, 35, 36, 37, 38, 39, 40, 41, 42, 43, 44, 45, 46, 47, 48, 49, 50, 51, 52, 53, 54, 55] (by decide +kernel) (by decide +kernel)) (goodIn_sub (fun _ h => List.mem_cons_of_mem _ (List.mem_append_right _ h)) (by decide +kernel))
set_option maxRecDepth 20000 in
theorem gX6_confirm_X6_requireQuote : GoodIn wsX6_confirm (wsV RX6 118 RX6 yX6_requireQuote wsX6_requireQuote) := goodIn_app (goodIn_of _ (by decide +kernel)) ggX6_confirm_X6_requireQuote
theorem dX6_confirm_0 : decode cX6_confirm 0 = .ok (.aload_n 0, 1) := by decide +kernel
theorem dX6_confirm_1 : decode cX6_confirm 1 = .ok (.iload_n 1, 1) := by decide +kernel
theorem dX6_confirm_2 : decode cX6_confirm 2 = .ok (.invokevirtual 83, 3) := by decide +kernel
theorem dX6_confirm_5 : decode cX6_confirm 5 = .ok (.iload_n 2, 1) := by decide +kernel
theorem dX6_confirm_6 : decode cX6_confirm 6 = .ok (.invokestatic 86, 3) := by decide +kernel
theorem dX6_confirm_9 : decode cX6_confirm 9 = .ok (.aload_n 0, 1) := by decide +kernel
theorem dX6_confirm_10 : decode cX6_confirm 10 = .ok (.invokevirtual 90, 3) := by decide +kernel
theorem dX6_confirm_13 : decode cX6_confirm 13 = .ok (.iload_n 1, 1) := by decide +kernel
theorem dX6_confirm_14 : decode cX6_confirm 14 = .ok (.iload_n 2, 1) := by decide +kernel
theorem dX6_confirm_15 : decode cX6_confirm 15 = .ok (.aload_n 0, 1) := by decide +kernel
theorem dX6_confirm_16 : decode cX6_confirm 16 = .ok (.getfield 49, 3) := by decide +kernel
theorem dX6_confirm_19 : decode cX6_confirm 19 = .ok (.invokestatic 103, 3) := by decide +kernel
theorem dX6_confirm_22 : decode cX6_confirm 22 = .ok (.istore_n 3, 1) := by decide +kernel
theorem dX6_confirm_23 : decode cX6_confirm 23 = .ok (.aload_n 0, 1) := by decide +kernel
theorem dX6_confirm_24 : decode cX6_confirm 24 = .ok (.iload_n 3, 1) := by decide +kernel
theorem dX6_confirm_25 : decode cX6_confirm 25 = .ok (.invokevirtual 118, 3) := by decide +kernel
theorem dX6_confirm_28 : decode cX6_confirm 28 = .ok (.aload_n 0, 1) := by decide +kernel
theorem dX6_confirm_29 : decode cX6_confirm 29 = .ok (.getfield 12, 3) := by decide +kernel
theorem dX6_confirm_32 : decode cX6_confirm 32 = .ok (.getfield 121, 3) := by decide +kernel
theorem dX6_confirm_35 : decode cX6_confirm 35 = .ok (.iload_n 3, 1) := by decide +kernel
theorem dX6_confirm_36 : decode cX6_confirm 36 = .ok (.baload, 1) := by decide +kernel
theorem dX6_confirm_37 : decode cX6_confirm 37 = .ok (.istore 4, 2) := by decide +kernel
theorem dX6_confirm_39 : decode cX6_confirm 39 = .ok (.aload_n 0, 1) := by decide +kernel
theorem dX6_confirm_40 : decode cX6_confirm 40 = .ok (.getfield 12, 3) := by decide +kernel
theorem dX6_confirm_43 : decode cX6_confirm 43 = .ok (.getfield 121, 3) := by decide +kernel
theorem dX6_confirm_46 : decode cX6_confirm 46 = .ok (.iload_n 3, 1) := by decide +kernel
theorem dX6_confirm_47 : decode cX6_confirm 47 = .ok (.iconst 1, 1) := by decide +kernel
theorem dX6_confirm_48 : decode cX6_confirm 48 = .ok (.bastore, 1) := by decide +kernel
theorem dX6_confirm_49 : decode cX6_confirm 49 = .ok (.iload 4, 2) := by decide +kernel
theorem dX6_confirm_51 : decode cX6_confirm 51 = .ok (.ireturn, 1) := by decide +kernel
set_option maxRecDepth 20000 in
theorem ggX6_link_X6_requireItem : GoodIn wsX6_link wsX6_requireItem := goodIn_ca (goodIn_r _ [10, 11, 12, 5, 13, 14, 15, 16, 17, 18, 45, 46, 47, 48, 49, 50, 51, 52, 53, 54, 55, 56, 57, 58, 59, 60, 61, 62, 63, 64, 65] (by decide +kernel) (by decide +kernel)) (goodIn_sub (fun _ h => List.mem_cons_of_mem _ (List.mem_append_left _ (List.mem_append_right _ h))) (by decide +kernel))
set_option maxRecDepth 20000 in
theorem gX6_link_X6_requireItem : GoodIn wsX6_link (wsV RX6 83 RX6 yX6_requireItem wsX6_requireItem) := goodIn_app (goodIn_of _ (by decide +kernel)) ggX6_link_X6_requireItem
set_option maxRecDepth 20000 in
theorem ggX6_link_X6_requireOutlet : GoodIn wsX6_link wsX6_requireOutlet := goodIn_ca (goodIn_r _ [21, 11, 12] (by decide +kernel) (by decide +kernel)) (goodIn_sub (fun _ h => List.mem_cons_of_mem _ (List.mem_append_left _ (List.mem_append_right _ h))) (by decide +kernel))
set_option maxRecDepth 20000 in
theorem gX6_link_X6_requireOutlet : GoodIn wsX6_link (va_wsS RX6 86 yX6_requireOutlet wsX6_requireOutlet) := goodIn_app (goodIn_of _ (by decide +kernel)) ggX6_link_X6_requireOutlet
set_option maxRecDepth 20000 in
theorem ggX6_link_X6_requireRange : GoodIn wsX6_link wsX6_requireRange := goodIn_ca (goodIn_r _ [24, 25, 26] (by decide +kernel) (by decide +kernel)) (goodIn_sub (fun _ h => List.mem_cons_of_mem _ (List.mem_append_right _ h)) (by decide +kernel))
set_option maxRecDepth 20000 in
theorem gX6_link_X6_requireRange : GoodIn wsX6_link (va_wsS RX6 57 yX6_requireRange wsX6_requireRange) := goodIn_app (goodIn_of _ (by decide +kernel)) ggX6_link_X6_requireRange
set_option maxRecDepth 20000 in
theorem ggX6_link_X6_requireCollecting : GoodIn wsX6_link wsX6_requireCollecting := goodIn_ca (goodIn_r _ [30, 1, 2, 4, 45, 46, 47, 48, 49, 50, 51, 52] (by decide +kernel) (by decide +kernel)) (goodIn_sub (fun _ h => List.mem_cons_of_mem _ (List.mem_append_left _ (List.mem_append_left _ (List.mem_append_right _ h)))) (by decide +kernel))
set_option maxRecDepth 20000 in
theorem gX6_link_X6_requireCollecting : GoodIn wsX6_link (wsV RX6 90 RX6 yX6_requireCollecting wsX6_requireCollecting) := goodIn_app (goodIn_of _ (by decide +kernel)) ggX6_link_X6_requireCollecting
set_option maxRecDepth 20000 in
theorem ggX6_link_X6_slotOf : GoodIn wsX6_link wsX6_slotOf := goodIn_r _ [33] (by decide +kernel) (by decide +kernel)
set_option maxRecDepth 20000 in
theorem gX6_link_X6_slotOf : GoodIn wsX6_link (va_wsS RX6 103 yX6_slotOf wsX6_slotOf) := goodIn_app (goodIn_of _ (by decide +kernel)) ggX6_link_X6_slotOf
set_option maxRecDepth 20000 in
theorem ggX6_link_X2_hasLink : GoodIn wsX6_link wsX2_hasLink := goodIn_r _ [38, 39, 53, 54, 55, 56, 57, 58, 59, 60, 61, 62] (by decide +kernel) (by decide +kernel)
set_option maxRecDepth 20000 in
theorem gX6_link_X2_hasLink : GoodIn wsX6_link (wsV RX6 125 RX2 yX2_hasLink wsX2_hasLink) := goodIn_app (goodIn_of _ (by decide +kernel)) ggX6_link_X2_hasLink
set_option maxRecDepth 20000 in
theorem ggX6_link_X2_putLink : GoodIn wsX6_link wsX2_putLink := goodIn_r _ [43, 39, 44, 53, 54, 55, 56, 57, 58, 59, 60, 61, 62] (by decide +kernel) (by decide +kernel)
set_option maxRecDepth 20000 in
theorem gX6_link_X2_putLink : GoodIn wsX6_link (wsV RX6 130 RX2 yX2_putLink wsX2_putLink) := goodIn_app (goodIn_of _ (by decide +kernel)) ggX6_link_X2_putLink
theorem dX6_link_0 : decode cX6_link 0 = .ok (.aload_n 0, 1) := by decide +kernel
theorem dX6_link_1 : decode cX6_link 1 = .ok (.iload_n 1, 1) := by decide +kernel
theorem dX6_link_2 : decode cX6_link 2 = .ok (.invokevirtual 83, 3) := by decide +kernel
theorem dX6_link_5 : decode cX6_link 5 = .ok (.iload_n 2, 1) := by decide +kernel
theorem dX6_link_6 : decode cX6_link 6 = .ok (.invokestatic 86, 3) := by decide +kernel
theorem dX6_link_9 : decode cX6_link 9 = .ok (.iload_n 3, 1) := by decide +kernel
theorem dX6_link_10 : decode cX6_link 10 = .ok (.iconst 1, 1) := by decide +kernel
theorem dX6_link_11 : decode cX6_link 11 = .ok (.ldc 89, 2) := by decide +kernel
theorem dX6_link_13 : decode cX6_link 13 = .ok (.invokestatic 57, 3) := by decide +kernel
theorem dX6_link_16 : decode cX6_link 16 = .ok (.iload 4, 2) := by decide +kernel
theorem dX6_link_18 : decode cX6_link 18 = .ok (.iconst 1, 1) := by decide +kernel
theorem dX6_link_19 : decode cX6_link 19 = .ok (.sipush 10000, 3) := by decide +kernel
theorem dX6_link_22 : decode cX6_link 22 = .ok (.invokestatic 57, 3) := by decide +kernel
theorem dX6_link_25 : decode cX6_link 25 = .ok (.aload_n 0, 1) := by decide +kernel
theorem dX6_link_26 : decode cX6_link 26 = .ok (.invokevirtual 90, 3) := by decide +kernel
theorem dX6_link_29 : decode cX6_link 29 = .ok (.iload_n 1, 1) := by decide +kernel
theorem dX6_link_30 : decode cX6_link 30 = .ok (.iload_n 2, 1) := by decide +kernel
theorem dX6_link_31 : decode cX6_link 31 = .ok (.aload_n 0, 1) := by decide +kernel
theorem dX6_link_32 : decode cX6_link 32 = .ok (.getfield 49, 3) := by decide +kernel
theorem dX6_link_35 : decode cX6_link 35 = .ok (.invokestatic 103, 3) := by decide +kernel
theorem dX6_link_38 : decode cX6_link 38 = .ok (.istore 5, 2) := by decide +kernel
theorem dX6_link_40 : decode cX6_link 40 = .ok (.aload_n 0, 1) := by decide +kernel
theorem dX6_link_41 : decode cX6_link 41 = .ok (.getfield 12, 3) := by decide +kernel
theorem dX6_link_44 : decode cX6_link 44 = .ok (.iload 5, 2) := by decide +kernel
theorem dX6_link_46 : decode cX6_link 46 = .ok (.invokevirtual 125, 3) := by decide +kernel
theorem dX6_link_49 : decode cX6_link 49 = .ok (.ifCond .eq 13, 3) := by decide +kernel
theorem dX6_link_52 : decode cX6_link 52 = .ok (.new 68, 3) := by decide +kernel
theorem dX6_link_55 : decode cX6_link 55 = .ok (.dup, 1) := by decide +kernel
theorem dX6_link_56 : decode cX6_link 56 = .ok (.ldc 128, 2) := by decide +kernel
theorem dX6_link_58 : decode cX6_link 58 = .ok (.invokespecial 72, 3) := by decide +kernel
theorem dX6_link_61 : decode cX6_link 61 = .ok (.athrow, 1) := by decide +kernel
theorem dX6_link_62 : decode cX6_link 62 = .ok (.aload_n 0, 1) := by decide +kernel
theorem dX6_link_63 : decode cX6_link 63 = .ok (.getfield 12, 3) := by decide +kernel
theorem dX6_link_66 : decode cX6_link 66 = .ok (.iload 5, 2) := by decide +kernel
theorem dX6_link_68 : decode cX6_link 68 = .ok (.iload_n 3, 1) := by decide +kernel
theorem dX6_link_69 : decode cX6_link 69 = .ok (.iload 4, 2) := by decide +kernel
theorem dX6_link_71 : decode cX6_link 71 = .ok (.invokevirtual 130, 3) := by decide +kernel
theorem dX6_link_74 : decode cX6_link 74 = .ok (.return_, 1) := by decide +kernel
set_option maxRecDepth 20000 in
theorem ggX6_spend_X6_requireGroup : GoodIn wsX6_spend wsX6_requireGroup := goodIn_ca (goodIn_r _ [8, 1, 2] (by decide +kernel) (by decide +kernel)) (goodIn_sub (fun _ h => List.mem_cons_of_mem _ (List.mem_append_left _ (List.mem_append_right _ h))) (by decide +kernel))
set_option maxRecDepth 20000 in
theorem gX6_spend_X6_requireGroup : GoodIn wsX6_spend (va_wsS RX6 53 yX6_requireGroup wsX6_requireGroup) := goodIn_app (goodIn_of _ (by decide +kernel)) ggX6_spend_X6_requireGroup
set_option maxRecDepth 20000 in
theorem ggX6_spend_X6_requireRange : GoodIn wsX6_spend wsX6_requireRange := goodIn_ca (goodIn_r _ [11, 12, 13] (by decide +kernel) (by decide +kernel)) (goodIn_sub (fun _ h => List.mem_cons_of_mem _ (List.mem_append_right _ h)) (by decide +kernel))
set_option maxRecDepth 20000 in
theorem gX6_spend_X6_requireRange : GoodIn wsX6_spend (va_wsS RX6 57 yX6_requireRange wsX6_requireRange) := goodIn_app (goodIn_of _ (by decide +kernel)) ggX6_spend_X6_requireRange
set_option maxRecDepth 20000 in
theorem ggX6_spend_X4_tell : GoodIn wsX6_spend wsX4_tell := goodIn_r _ [18, 19, 28, 29, 30] (by decide +kernel) (by decide +kernel)
set_option maxRecDepth 20000 in
theorem gX6_spend_X4_tell : GoodIn wsX6_spend (wsV RX6 139 RX4 yX4_tell wsX4_tell) := goodIn_app (goodIn_of _ (by decide +kernel)) ggX6_spend_X4_tell
theorem dX6_spend_0 : decode cX6_spend 0 = .ok (.iload_n 1, 1) := by decide +kernel
theorem dX6_spend_1 : decode cX6_spend 1 = .ok (.ifCond .lt 8, 3) := by decide +kernel
theorem dX6_spend_4 : decode cX6_spend 4 = .ok (.iload_n 1, 1) := by decide +kernel
theorem dX6_spend_5 : decode cX6_spend 5 = .ok (.iconst 3, 1) := by decide +kernel
theorem dX6_spend_6 : decode cX6_spend 6 = .ok (.if_icmp .lt 13, 3) := by decide +kernel
theorem dX6_spend_9 : decode cX6_spend 9 = .ok (.new 133, 3) := by decide +kernel
theorem dX6_spend_12 : decode cX6_spend 12 = .ok (.dup, 1) := by decide +kernel
theorem dX6_spend_13 : decode cX6_spend 13 = .ok (.ldc 135, 2) := by decide +kernel
theorem dX6_spend_15 : decode cX6_spend 15 = .ok (.invokespecial 137, 3) := by decide +kernel
theorem dX6_spend_18 : decode cX6_spend 18 = .ok (.athrow, 1) := by decide +kernel
theorem dX6_spend_19 : decode cX6_spend 19 = .ok (.iload_n 2, 1) := by decide +kernel
theorem dX6_spend_20 : decode cX6_spend 20 = .ok (.invokestatic 53, 3) := by decide +kernel
theorem dX6_spend_23 : decode cX6_spend 23 = .ok (.iload_n 3, 1) := by decide +kernel
theorem dX6_spend_24 : decode cX6_spend 24 = .ok (.iconst 0, 1) := by decide +kernel
theorem dX6_spend_25 : decode cX6_spend 25 = .ok (.ldc 138, 2) := by decide +kernel
theorem dX6_spend_27 : decode cX6_spend 27 = .ok (.invokestatic 57, 3) := by decide +kernel
theorem dX6_spend_30 : decode cX6_spend 30 = .ok (.aload_n 0, 1) := by decide +kernel
theorem dX6_spend_31 : decode cX6_spend 31 = .ok (.getfield 19, 3) := by decide +kernel
theorem dX6_spend_34 : decode cX6_spend 34 = .ok (.iload_n 1, 1) := by decide +kernel
theorem dX6_spend_35 : decode cX6_spend 35 = .ok (.iload_n 2, 1) := by decide +kernel
theorem dX6_spend_36 : decode cX6_spend 36 = .ok (.iload_n 3, 1) := by decide +kernel
theorem dX6_spend_37 : decode cX6_spend 37 = .ok (.invokevirtual 139, 3) := by decide +kernel
theorem dX6_spend_40 : decode cX6_spend 40 = .ok (.ireturn, 1) := by decide +kernel
set_option maxRecDepth 20000 in
theorem ggX6_adopt_X4_adoptAll : GoodIn wsX6_adopt wsX4_adoptAll := goodIn_r _ [6, 7, 8, 17, 18, 19] (by decide +kernel) (by decide +kernel)
set_option maxRecDepth 20000 in
theorem gX6_adopt_X4_adoptAll : GoodIn wsX6_adopt (wsV RX6 142 RX4 yX4_adoptAll wsX4_adoptAll) := goodIn_app (goodIn_of _ (by decide +kernel)) ggX6_adopt_X4_adoptAll
theorem dX6_adopt_0 : decode cX6_adopt 0 = .ok (.aload_n 0, 1) := by decide +kernel
theorem dX6_adopt_1 : decode cX6_adopt 1 = .ok (.getfield 19, 3) := by decide +kernel
theorem dX6_adopt_4 : decode cX6_adopt 4 = .ok (.invokevirtual 142, 3) := by decide +kernel
theorem dX6_adopt_7 : decode cX6_adopt 7 = .ok (.lreturn, 1) := by decide +kernel
set_option maxRecDepth 20000 in
theorem ggX6_publish_X6_requireCollecting : GoodIn wsX6_publish wsX6_requireCollecting := goodIn_ca (goodIn_r _ [12, 13, 14, 2, 197, 198, 199, 200, 201, 202, 203, 204] (by decide +kernel) (by decide +kernel)) (goodIn_sub (fun _ h => List.mem_cons_of_mem _ (List.mem_append_right _ h)) (by decide +kernel))
set_option maxRecDepth 20000 in
theorem gX6_publish_X6_requireCollecting : GoodIn wsX6_publish (wsV RX6 90 RX6 yX6_requireCollecting wsX6_requireCollecting) := goodIn_app (goodIn_of _ (by decide +kernel)) ggX6_publish_X6_requireCollecting
set_option maxRecDepth 20000 in
theorem ggX6_publish_X4_settleShares : GoodIn wsX6_publish wsX4_settleShares := goodIn_r _ [19, 20, 21, 22, 23, 18, 24, 25, 26, 27, 28, 29, 30, 31, 32, 33, 34, 35, 36, 37, 38, 215, 216, 217] (by decide +kernel) (by decide +kernel)
set_option maxRecDepth 20000 in
theorem gX6_publish_X4_settleShares : GoodIn wsX6_publish (wsV RX6 146 RX4 yX4_settleShares wsX4_settleShares) := goodIn_app (goodIn_of _ (by decide +kernel)) ggX6_publish_X4_settleShares
set_option maxRecDepth 20000 in
theorem ggX6_publish_X3_reckon : GoodIn wsX6_publish wsX3_reckon := goodIn_r _ [43, 44, 45, 46, 47, 48, 49, 50, 51, 52, 53, 54, 55, 56, 42, 57, 58, 59, 60, 61, 62, 63, 64, 65, 66, 11, 67, 68, 69, 70, 71, 72, 73, 74, 75, 76, 77, 78, 79, 80, 81, 82, 83, 84, 85, 86, 87, 88, 89, 90, 91, 92, 93, 94, 95, 96, 97, 98, 99, 100, 101, 102, 103, 104, 105, 106, 107, 108, 109, 110, 111, 112, 113, 114, 115, 116, 117, 118, 119, 120, 121, 122, 123, 124, 125, 126, 127, 128, 129, 130, 131, 132, 133, 134, 135, 136, 137, 138, 139, 140, 141, 142, 143, 144, 145, 146, 147, 148, 149, 150, 151, 152, 153, 154, 155, 156, 157, 158, 159, 18, 160, 20, 161, 162, 163, 164, 218, 219, 220, 221, 222, 223, 224, 225, 205, 206, 207, 208, 209, 210, 211, 212, 213, 214, 226, 227, 228, 229, 230, 231, 232, 233, 234, 235, 236, 215, 216, 217] (by decide +kernel) (by decide +kernel)
set_option maxRecDepth 20000 in
theorem gX6_publish_X3_reckon : GoodIn wsX6_publish (wsV RX6 149 RX3 yX3_reckon wsX3_reckon) := goodIn_app (goodIn_of _ (by decide +kernel)) ggX6_publish_X3_reckon
set_option maxRecDepth 20000 in
theorem ggX6_publish_X3_indexOf : GoodIn wsX6_publish wsX3_indexOf := goodIn_r _ [151, 46, 218, 219, 220, 221, 222, 223, 224, 225] (by decide +kernel) (by decide +kernel)
set_option maxRecDepth 20000 in
theorem gX6_publish_X3_indexOf : GoodIn wsX6_publish (wsV RX6 152 RX3 yX3_indexOf wsX3_indexOf) := goodIn_app (goodIn_of _ (by decide +kernel)) ggX6_publish_X3_indexOf
set_option maxRecDepth 20000 in
theorem ggX6_publish_X6_numberOf : GoodIn wsX6_publish wsX6_numberOf := goodIn_r _ [168, 169, 170, 171, 172] (by decide +kernel) (by decide +kernel)
set_option maxRecDepth 20000 in
theorem gX6_publish_X6_numberOf : GoodIn wsX6_publish (va_wsS RX6 156 yX6_numberOf wsX6_numberOf) := goodIn_app (goodIn_of _ (by decide +kernel)) ggX6_publish_X6_numberOf
set_option maxRecDepth 20000 in
theorem ggX6_publish_Jx4a65c_size_8abf5 : GoodIn wsX6_publish wsJx4a65c_size_8abf5 := goodIn_r _ [52, 53, 226, 227, 228] (by decide +kernel) (by decide +kernel)
set_option maxRecDepth 20000 in
theorem gX6_publish_Jx4a65c_size_8abf5 : GoodIn wsX6_publish (wsV RX6 64 RJx4a65c yJx4a65c_size_8abf5 wsJx4a65c_size_8abf5) := goodIn_app (goodIn_of _ (by decide +kernel)) ggX6_publish_Jx4a65c_size_8abf5
set_option maxRecDepth 20000 in
theorem ggX6_publish_Jx4a65c_get_915e3 : GoodIn wsX6_publish wsJx4a65c_get_915e3 := goodIn_r _ [118, 53, 119, 120, 121, 122, 123, 124, 125, 126, 127, 128, 129, 51, 130, 131, 226, 227, 228] (by decide +kernel) (by decide +kernel)
set_option maxRecDepth 20000 in
theorem gX6_publish_Jx4a65c_get_915e3 : GoodIn wsX6_publish (wsV RX6 93 RJx4a65c yJx4a65c_get_915e3 wsJx4a65c_get_915e3) := goodIn_app (goodIn_of _ (by decide +kernel)) ggX6_publish_Jx4a65c_get_915e3
set_option maxRecDepth 20000 in
theorem ggX6_publish_X0_pay : GoodIn wsX6_publish wsX0_pay := goodIn_r _ [179, 180, 181, 182, 183, 184, 185, 186, 187, 188, 189, 190, 191, 192, 178, 193, 194, 195, 196, 237, 238, 239, 240, 241, 242, 243, 244, 245] (by decide +kernel) (by decide +kernel)
set_option maxRecDepth 20000 in
theorem gX6_publish_X0_pay : GoodIn wsX6_publish (wsV RX6 162 RX0 yX0_pay wsX0_pay) := goodIn_app (goodIn_of _ (by decide +kernel)) ggX6_publish_X0_pay
theorem dX6_publish_0 : decode cX6_publish 0 = .ok (.aload_n 0, 1) := by decide +kernel
theorem dX6_publish_1 : decode cX6_publish 1 = .ok (.invokevirtual 90, 3) := by decide +kernel
theorem dX6_publish_4 : decode cX6_publish 4 = .ok (.aload_n 0, 1) := by decide +kernel
theorem dX6_publish_5 : decode cX6_publish 5 = .ok (.getfield 19, 3) := by decide +kernel
theorem dX6_publish_8 : decode cX6_publish 8 = .ok (.aload_n 0, 1) := by decide +kernel
theorem dX6_publish_9 : decode cX6_publish 9 = .ok (.getfield 49, 3) := by decide +kernel
theorem dX6_publish_12 : decode cX6_publish 12 = .ok (.invokevirtual 146, 3) := by decide +kernel
theorem dX6_publish_15 : decode cX6_publish 15 = .ok (.aload_n 0, 1) := by decide +kernel
theorem dX6_publish_16 : decode cX6_publish 16 = .ok (.getfield 28, 3) := by decide +kernel
theorem dX6_publish_19 : decode cX6_publish 19 = .ok (.aload_n 0, 1) := by decide +kernel
theorem dX6_publish_20 : decode cX6_publish 20 = .ok (.getfield 49, 3) := by decide +kernel
theorem dX6_publish_23 : decode cX6_publish 23 = .ok (.invokevirtual 149, 3) := by decide +kernel
theorem dX6_publish_26 : decode cX6_publish 26 = .ok (.aload_n 0, 1) := by decide +kernel
theorem dX6_publish_27 : decode cX6_publish 27 = .ok (.getfield 28, 3) := by decide +kernel
theorem dX6_publish_30 : decode cX6_publish 30 = .ok (.iconst 0, 1) := by decide +kernel
theorem dX6_publish_31 : decode cX6_publish 31 = .ok (.aload_n 0, 1) := by decide +kernel
theorem dX6_publish_32 : decode cX6_publish 32 = .ok (.getfield 49, 3) := by decide +kernel
theorem dX6_publish_35 : decode cX6_publish 35 = .ok (.invokevirtual 152, 3) := by decide +kernel
theorem dX6_publish_38 : decode cX6_publish 38 = .ok (.invokestatic 156, 3) := by decide +kernel
theorem dX6_publish_41 : decode cX6_publish 41 = .ok (.istore_n 1, 1) := by decide +kernel
theorem dX6_publish_42 : decode cX6_publish 42 = .ok (.aload_n 0, 1) := by decide +kernel
theorem dX6_publish_43 : decode cX6_publish 43 = .ok (.getfield 35, 3) := by decide +kernel
theorem dX6_publish_46 : decode cX6_publish 46 = .ok (.aload_n 0, 1) := by decide +kernel
theorem dX6_publish_47 : decode cX6_publish 47 = .ok (.getfield 49, 3) := by decide +kernel
theorem dX6_publish_50 : decode cX6_publish 50 = .ok (.iload_n 1, 1) := by decide +kernel
theorem dX6_publish_51 : decode cX6_publish 51 = .ok (.iastore, 1) := by decide +kernel
theorem dX6_publish_52 : decode cX6_publish 52 = .ok (.iconst 0, 1) := by decide +kernel
theorem dX6_publish_53 : decode cX6_publish 53 = .ok (.istore_n 2, 1) := by decide +kernel
theorem dX6_publish_54 : decode cX6_publish 54 = .ok (.iload_n 2, 1) := by decide +kernel
theorem dX6_publish_55 : decode cX6_publish 55 = .ok (.aload_n 0, 1) := by decide +kernel
theorem dX6_publish_56 : decode cX6_publish 56 = .ok (.getfield 45, 3) := by decide +kernel
theorem dX6_publish_59 : decode cX6_publish 59 = .ok (.invokevirtual 64, 3) := by decide +kernel
theorem dX6_publish_62 : decode cX6_publish 62 = .ok (.if_icmp .ge 31, 3) := by decide +kernel
theorem dX6_publish_65 : decode cX6_publish 65 = .ok (.aload_n 0, 1) := by decide +kernel
theorem dX6_publish_66 : decode cX6_publish 66 = .ok (.getfield 45, 3) := by decide +kernel
theorem dX6_publish_69 : decode cX6_publish 69 = .ok (.iload_n 2, 1) := by decide +kernel
theorem dX6_publish_70 : decode cX6_publish 70 = .ok (.invokevirtual 93, 3) := by decide +kernel
theorem dX6_publish_73 : decode cX6_publish 73 = .ok (.checkcast 160, 3) := by decide +kernel
theorem dX6_publish_76 : decode cX6_publish 76 = .ok (.aload_n 0, 1) := by decide +kernel
theorem dX6_publish_77 : decode cX6_publish 77 = .ok (.getfield 49, 3) := by decide +kernel
theorem dX6_publish_80 : decode cX6_publish 80 = .ok (.aload_n 0, 1) := by decide +kernel
theorem dX6_publish_81 : decode cX6_publish 81 = .ok (.getfield 35, 3) := by decide +kernel
theorem dX6_publish_84 : decode cX6_publish 84 = .ok (.invokevirtual 162, 3) := by decide +kernel
theorem dX6_publish_87 : decode cX6_publish 87 = .ok (.iinc 2 1, 3) := by decide +kernel
theorem dX6_publish_90 : decode cX6_publish 90 = .ok (.goto (-36), 3) := by decide +kernel
theorem dX6_publish_93 : decode cX6_publish 93 = .ok (.aload_n 0, 1) := by decide +kernel
theorem dX6_publish_94 : decode cX6_publish 94 = .ok (.getfield 12, 3) := by decide +kernel
theorem dX6_publish_97 : decode cX6_publish 97 = .ok (.iconst 0, 1) := by decide +kernel
theorem dX6_publish_98 : decode cX6_publish 98 = .ok (.putfield 115, 3) := by decide +kernel
theorem dX6_publish_101 : decode cX6_publish 101 = .ok (.aload_n 0, 1) := by decide +kernel
theorem dX6_publish_102 : decode cX6_publish 102 = .ok (.dup, 1) := by decide +kernel
theorem dX6_publish_103 : decode cX6_publish 103 = .ok (.getfield 49, 3) := by decide +kernel
theorem dX6_publish_106 : decode cX6_publish 106 = .ok (.iconst 1, 1) := by decide +kernel
theorem dX6_publish_107 : decode cX6_publish 107 = .ok (.iadd, 1) := by decide +kernel
theorem dX6_publish_108 : decode cX6_publish 108 = .ok (.putfield 49, 3) := by decide +kernel
theorem dX6_publish_111 : decode cX6_publish 111 = .ok (.iload_n 1, 1) := by decide +kernel
theorem dX6_publish_112 : decode cX6_publish 112 = .ok (.ireturn, 1) := by decide +kernel
set_option maxRecDepth 20000 in
theorem ggX6_fix_X6_requirePublished : GoodIn wsX6_fix wsX6_requirePublished := goodIn_ca (goodIn_r _ [7, 8, 9, 10, 51, 52, 53, 54, 55, 56, 57, 58] (by decide +kernel) (by decide +kernel)) (goodIn_sub (fun _ h => List.mem_cons_of_mem _ (List.mem_append_left _ (List.mem_append_left _ (List.mem_append_right _ h)))) (by decide +kernel))
set_option maxRecDepth 20000 in
theorem gX6_fix_X6_requirePublished : GoodIn wsX6_fix (wsV RX6 166 RX6 yX6_requirePublished wsX6_requirePublished) := goodIn_app (goodIn_of _ (by decide +kernel)) ggX6_fix_X6_requirePublished
set_option maxRecDepth 20000 in
theorem ggX6_fix_X6_requireItem : GoodIn wsX6_fix wsX6_requireItem := goodIn_ca (goodIn_r _ [14, 8, 9, 2, 15, 16, 17, 18, 19, 20, 51, 52, 53, 54, 55, 56, 57, 58, 59, 60, 61, 62, 63, 64, 65, 66, 67, 68, 69, 70, 71] (by decide +kernel) (by decide +kernel)) (goodIn_sub (fun _ h => List.mem_cons_of_mem _ (List.mem_append_left _ (List.mem_append_left _ (List.mem_append_right _ h)))) (by decide +kernel))
set_option maxRecDepth 20000 in
theorem gX6_fix_X6_requireItem : GoodIn wsX6_fix (wsV RX6 83 RX6 yX6_requireItem wsX6_requireItem) := goodIn_app (goodIn_of _ (by decide +kernel)) ggX6_fix_X6_requireItem
set_option maxRecDepth 20000 in
theorem ggX6_fix_X6_requireOutlet : GoodIn wsX6_fix wsX6_requireOutlet := goodIn_ca (goodIn_r _ [23, 8, 9] (by decide +kernel) (by decide +kernel)) (goodIn_sub (fun _ h => List.mem_cons_of_mem _ (List.mem_append_left _ (List.mem_append_left _ (List.mem_append_right _ h)))) (by decide +kernel))
set_option maxRecDepth 20000 in
theorem gX6_fix_X6_requireOutlet : GoodIn wsX6_fix (va_wsS RX6 86 yX6_requireOutlet wsX6_requireOutlet) := goodIn_app (goodIn_of _ (by decide +kernel)) ggX6_fix_X6_requireOutlet
set_option maxRecDepth 20000 in
theorem ggX6_fix_X6_requireRange : GoodIn wsX6_fix wsX6_requireRange := goodIn_ca (goodIn_r _ [26, 27, 28] (by decide +kernel) (by decide +kernel)) (goodIn_sub (fun _ h => List.mem_cons_of_mem _ (List.mem_append_left _ (List.mem_append_right _ h))) (by decide +kernel))
set_option maxRecDepth 20000 in
theorem gX6_fix_X6_requireRange : GoodIn wsX6_fix (va_wsS RX6 57 yX6_requireRange wsX6_requireRange) := goodIn_app (goodIn_of _ (by decide +kernel)) ggX6_fix_X6_requireRange
set_option maxRecDepth 20000 in
theorem ggX6_fix_X6_slotOf : GoodIn wsX6_fix wsX6_slotOf := goodIn_r _ [31] (by decide +kernel) (by decide +kernel)
set_option maxRecDepth 20000 in
theorem gX6_fix_X6_slotOf : GoodIn wsX6_fix (va_wsS RX6 103 yX6_slotOf wsX6_slotOf) := goodIn_app (goodIn_of _ (by decide +kernel)) ggX6_fix_X6_slotOf
set_option maxRecDepth 20000 in
theorem ggX6_fix_X6_requireQuote : GoodIn wsX6_fix wsX6_requireQuote := goodIn_ca (goodIn_r _ [35, 36, 37, 2, 38, 39, 40, 41, 42, 43, 51, 52, 53, 54, 55, 56, 57, 58, 59, 60, 61, 62, 63, 64, 65, 66, 67, 68] (by decide +kernel) (by decide +kernel)) (goodIn_sub (fun _ h => List.mem_cons_of_mem _ (List.mem_append_right _ h)) (by decide +kernel))
set_option maxRecDepth 20000 in
theorem gX6_fix_X6_requireQuote : GoodIn wsX6_fix (wsV RX6 118 RX6 yX6_requireQuote wsX6_requireQuote) := goodIn_app (goodIn_of _ (by decide +kernel)) ggX6_fix_X6_requireQuote
set_option maxRecDepth 20000 in
theorem ggX6_fix_X2_putFix : GoodIn wsX6_fix wsX2_putFix := goodIn_r _ [47, 48, 49, 50, 59, 60, 61, 62, 63, 64, 65, 66, 67, 68] (by decide +kernel) (by decide +kernel)
set_option maxRecDepth 20000 in
theorem gX6_fix_X2_putFix : GoodIn wsX6_fix (wsV RX6 169 RX2 yX2_putFix wsX2_putFix) := goodIn_app (goodIn_of _ (by decide +kernel)) ggX6_fix_X2_putFix
theorem dX6_fix_0 : decode cX6_fix 0 = .ok (.aload_n 0, 1) := by decide +kernel
theorem dX6_fix_1 : decode cX6_fix 1 = .ok (.iload_n 1, 1) := by decide +kernel
theorem dX6_fix_2 : decode cX6_fix 2 = .ok (.invokevirtual 166, 3) := by decide +kernel
theorem dX6_fix_5 : decode cX6_fix 5 = .ok (.aload_n 0, 1) := by decide +kernel
theorem dX6_fix_6 : decode cX6_fix 6 = .ok (.iload_n 2, 1) := by decide +kernel
theorem dX6_fix_7 : decode cX6_fix 7 = .ok (.invokevirtual 83, 3) := by decide +kernel
theorem dX6_fix_10 : decode cX6_fix 10 = .ok (.iload_n 3, 1) := by decide +kernel
theorem dX6_fix_11 : decode cX6_fix 11 = .ok (.invokestatic 86, 3) := by decide +kernel
theorem dX6_fix_14 : decode cX6_fix 14 = .ok (.iload 4, 2) := by decide +kernel
theorem dX6_fix_16 : decode cX6_fix 16 = .ok (.iconst 1, 1) := by decide +kernel
theorem dX6_fix_17 : decode cX6_fix 17 = .ok (.ldc 89, 2) := by decide +kernel
theorem dX6_fix_19 : decode cX6_fix 19 = .ok (.invokestatic 57, 3) := by decide +kernel
theorem dX6_fix_22 : decode cX6_fix 22 = .ok (.iload_n 2, 1) := by decide +kernel
theorem dX6_fix_23 : decode cX6_fix 23 = .ok (.iload_n 3, 1) := by decide +kernel
theorem dX6_fix_24 : decode cX6_fix 24 = .ok (.iload_n 1, 1) := by decide +kernel
theorem dX6_fix_25 : decode cX6_fix 25 = .ok (.invokestatic 103, 3) := by decide +kernel
theorem dX6_fix_28 : decode cX6_fix 28 = .ok (.istore 5, 2) := by decide +kernel
theorem dX6_fix_30 : decode cX6_fix 30 = .ok (.aload_n 0, 1) := by decide +kernel
theorem dX6_fix_31 : decode cX6_fix 31 = .ok (.iload 5, 2) := by decide +kernel
theorem dX6_fix_33 : decode cX6_fix 33 = .ok (.invokevirtual 118, 3) := by decide +kernel
theorem dX6_fix_36 : decode cX6_fix 36 = .ok (.aload_n 0, 1) := by decide +kernel
theorem dX6_fix_37 : decode cX6_fix 37 = .ok (.getfield 12, 3) := by decide +kernel
theorem dX6_fix_40 : decode cX6_fix 40 = .ok (.iload 5, 2) := by decide +kernel
theorem dX6_fix_42 : decode cX6_fix 42 = .ok (.iload 4, 2) := by decide +kernel
theorem dX6_fix_44 : decode cX6_fix 44 = .ok (.invokevirtual 169, 3) := by decide +kernel
theorem dX6_fix_47 : decode cX6_fix 47 = .ok (.ireturn, 1) := by decide +kernel
set_option maxRecDepth 20000 in
theorem ggX6_contract_X6_requireRange : GoodIn wsX6_contract wsX6_requireRange := goodIn_ca (goodIn_r _ [13, 14, 15] (by decide +kernel) (by decide +kernel)) (goodIn_sub (fun _ h => List.mem_cons_of_mem _ (List.mem_append_right _ h)) (by decide +kernel))
set_option maxRecDepth 20000 in
theorem gX6_contract_X6_requireRange : GoodIn wsX6_contract (va_wsS RX6 57 yX6_requireRange wsX6_requireRange) := goodIn_app (goodIn_of _ (by decide +kernel)) ggX6_contract_X6_requireRange
set_option maxRecDepth 20000 in
theorem ggX6_contract_Jx4a65c_size_8abf5 : GoodIn wsX6_contract wsJx4a65c_size_8abf5 := goodIn_r _ [20, 21, 112, 113, 114] (by decide +kernel) (by decide +kernel)
set_option maxRecDepth 20000 in
theorem gX6_contract_Jx4a65c_size_8abf5 : GoodIn wsX6_contract (wsV RX6 64 RJx4a65c yJx4a65c_size_8abf5 wsJx4a65c_size_8abf5) := goodIn_app (goodIn_of _ (by decide +kernel)) ggX6_contract_Jx4a65c_size_8abf5
set_option maxRecDepth 20000 in
theorem ggX6_contract_X0_init : GoodIn wsX6_contract wsX0_init := goodIn_r _ [24, 25, 26, 27, 28, 29, 30, 31, 103, 104, 105, 106, 107, 108, 109, 110, 111] (by decide +kernel) (by decide +kernel)
set_option maxRecDepth 20000 in
theorem gX6_contract_X0_init : GoodIn wsX6_contract (wsX0_init) := ggX6_contract_X0_init
set_option maxRecDepth 20000 in
theorem ggX6_contract_X0_begin : GoodIn wsX6_contract wsX0_begin := goodIn_r _ [35, 36, 28, 37, 38, 39, 40, 103, 104, 105, 106, 107, 108, 109, 110, 111] (by decide +kernel) (by decide +kernel)
set_option maxRecDepth 20000 in
theorem gX6_contract_X0_begin : GoodIn wsX6_contract (wsV RX6 180 RX0 yX0_begin wsX0_begin) := goodIn_app (goodIn_of _ (by decide +kernel)) ggX6_contract_X0_begin
set_option maxRecDepth 20000 in
theorem ggX6_contract_Jx4a65c_add_9ea2d : GoodIn wsX6_contract wsJx4a65c_add_9ea2d := goodIn_r _ [44, 45, 46, 47, 21, 48, 49, 50, 19, 51, 52, 53, 54, 55, 56, 57, 58, 59, 60, 61, 62, 63, 64, 65, 66, 67, 68, 69, 70, 71, 72, 73, 74, 75, 76, 77, 78, 79, 80, 81, 82, 83, 84, 85, 86, 87, 88, 89, 90, 91, 92, 93, 94, 112, 113, 114] (by decide +kernel) (by decide +kernel)
set_option maxRecDepth 20000 in
theorem gX6_contract_Jx4a65c_add_9ea2d : GoodIn wsX6_contract (wsV RX6 79 RJx4a65c yJx4a65c_add_9ea2d wsJx4a65c_add_9ea2d) := goodIn_app (goodIn_of _ (by decide +kernel)) ggX6_contract_Jx4a65c_add_9ea2d
theorem dX6_contract_0 : decode cX6_contract 0 = .ok (.iload_n 1, 1) := by decide +kernel
theorem dX6_contract_1 : decode cX6_contract 1 = .ok (.iconst 1, 1) := by decide +kernel
theorem dX6_contract_2 : decode cX6_contract 2 = .ok (.ldc 138, 2) := by decide +kernel
theorem dX6_contract_4 : decode cX6_contract 4 = .ok (.invokestatic 57, 3) := by decide +kernel
theorem dX6_contract_7 : decode cX6_contract 7 = .ok (.iload_n 2, 1) := by decide +kernel
theorem dX6_contract_8 : decode cX6_contract 8 = .ok (.iconst 0, 1) := by decide +kernel
theorem dX6_contract_9 : decode cX6_contract 9 = .ok (.iconst 3, 1) := by decide +kernel
theorem dX6_contract_10 : decode cX6_contract 10 = .ok (.invokestatic 57, 3) := by decide +kernel
theorem dX6_contract_13 : decode cX6_contract 13 = .ok (.iload_n 3, 1) := by decide +kernel
theorem dX6_contract_14 : decode cX6_contract 14 = .ok (.iconst 0, 1) := by decide +kernel
theorem dX6_contract_15 : decode cX6_contract 15 = .ok (.sipush 500, 3) := by decide +kernel
theorem dX6_contract_18 : decode cX6_contract 18 = .ok (.invokestatic 57, 3) := by decide +kernel
theorem dX6_contract_21 : decode cX6_contract 21 = .ok (.aload_n 0, 1) := by decide +kernel
theorem dX6_contract_22 : decode cX6_contract 22 = .ok (.getfield 49, 3) := by decide +kernel
theorem dX6_contract_25 : decode cX6_contract 25 = .ok (.ifCond .ne 13, 3) := by decide +kernel
theorem dX6_contract_28 : decode cX6_contract 28 = .ok (.new 68, 3) := by decide +kernel
theorem dX6_contract_31 : decode cX6_contract 31 = .ok (.dup, 1) := by decide +kernel
theorem dX6_contract_32 : decode cX6_contract 32 = .ok (.ldc 173, 2) := by decide +kernel
theorem dX6_contract_34 : decode cX6_contract 34 = .ok (.invokespecial 72, 3) := by decide +kernel
theorem dX6_contract_37 : decode cX6_contract 37 = .ok (.athrow, 1) := by decide +kernel
theorem dX6_contract_38 : decode cX6_contract 38 = .ok (.aload_n 0, 1) := by decide +kernel
theorem dX6_contract_39 : decode cX6_contract 39 = .ok (.getfield 45, 3) := by decide +kernel
theorem dX6_contract_42 : decode cX6_contract 42 = .ok (.invokevirtual 64, 3) := by decide +kernel
theorem dX6_contract_45 : decode cX6_contract 45 = .ok (.bipush 10, 2) := by decide +kernel
theorem dX6_contract_47 : decode cX6_contract 47 = .ok (.if_icmp .lt 13, 3) := by decide +kernel
theorem dX6_contract_50 : decode cX6_contract 50 = .ok (.new 68, 3) := by decide +kernel
theorem dX6_contract_53 : decode cX6_contract 53 = .ok (.dup, 1) := by decide +kernel
theorem dX6_contract_54 : decode cX6_contract 54 = .ok (.ldc 175, 2) := by decide +kernel
theorem dX6_contract_56 : decode cX6_contract 56 = .ok (.invokespecial 72, 3) := by decide +kernel
theorem dX6_contract_59 : decode cX6_contract 59 = .ok (.athrow, 1) := by decide +kernel
theorem dX6_contract_60 : decode cX6_contract 60 = .ok (.new 160, 3) := by decide +kernel
theorem dX6_contract_63 : decode cX6_contract 63 = .ok (.dup, 1) := by decide +kernel
theorem dX6_contract_64 : decode cX6_contract 64 = .ok (.iload_n 1, 1) := by decide +kernel
theorem dX6_contract_65 : decode cX6_contract 65 = .ok (.iload_n 2, 1) := by decide +kernel
theorem dX6_contract_66 : decode cX6_contract 66 = .ok (.iload_n 3, 1) := by decide +kernel
theorem dX6_contract_67 : decode cX6_contract 67 = .ok (.iload 4, 2) := by decide +kernel
theorem dX6_contract_69 : decode cX6_contract 69 = .ok (.invokespecial 177, 3) := by decide +kernel
theorem dX6_contract_72 : decode cX6_contract 72 = .ok (.astore 5, 2) := by decide +kernel
theorem dX6_contract_74 : decode cX6_contract 74 = .ok (.aload 5, 2) := by decide +kernel
theorem dX6_contract_76 : decode cX6_contract 76 = .ok (.aload_n 0, 1) := by decide +kernel
theorem dX6_contract_77 : decode cX6_contract 77 = .ok (.getfield 49, 3) := by decide +kernel
theorem dX6_contract_80 : decode cX6_contract 80 = .ok (.iconst 1, 1) := by decide +kernel
theorem dX6_contract_81 : decode cX6_contract 81 = .ok (.isub, 1) := by decide +kernel
theorem dX6_contract_82 : decode cX6_contract 82 = .ok (.aload_n 0, 1) := by decide +kernel
theorem dX6_contract_83 : decode cX6_contract 83 = .ok (.getfield 35, 3) := by decide +kernel
theorem dX6_contract_86 : decode cX6_contract 86 = .ok (.invokevirtual 180, 3) := by decide +kernel
theorem dX6_contract_89 : decode cX6_contract 89 = .ok (.aload_n 0, 1) := by decide +kernel
theorem dX6_contract_90 : decode cX6_contract 90 = .ok (.getfield 45, 3) := by decide +kernel
theorem dX6_contract_93 : decode cX6_contract 93 = .ok (.aload 5, 2) := by decide +kernel
theorem dX6_contract_95 : decode cX6_contract 95 = .ok (.invokevirtual 79, 3) := by decide +kernel
theorem dX6_contract_98 : decode cX6_contract 98 = .ok (.pop, 1) := by decide +kernel
theorem dX6_contract_99 : decode cX6_contract 99 = .ok (.aload_n 0, 1) := by decide +kernel
theorem dX6_contract_100 : decode cX6_contract 100 = .ok (.getfield 45, 3) := by decide +kernel
theorem dX6_contract_103 : decode cX6_contract 103 = .ok (.invokevirtual 64, 3) := by decide +kernel
theorem dX6_contract_106 : decode cX6_contract 106 = .ok (.iconst 1, 1) := by decide +kernel
theorem dX6_contract_107 : decode cX6_contract 107 = .ok (.isub, 1) := by decide +kernel
theorem dX6_contract_108 : decode cX6_contract 108 = .ok (.ireturn, 1) := by decide +kernel
set_option maxRecDepth 20000 in
theorem ggX6_price_X6_requireItem : GoodIn wsX6_price wsX6_requireItem := goodIn_ca (goodIn_r _ [6, 7, 8, 9, 10, 11, 12, 13, 14, 15, 27, 28, 29, 30, 31, 32, 33, 34, 43, 44, 45, 46, 47, 48, 49, 50, 51, 52, 53, 54, 55] (by decide +kernel) (by decide +kernel)) (goodIn_sub (fun _ h => List.mem_cons_of_mem _ (List.mem_append_right _ h)) (by decide +kernel))
set_option maxRecDepth 20000 in
theorem gX6_price_X6_requireItem : GoodIn wsX6_price (wsV RX6 83 RX6 yX6_requireItem wsX6_requireItem) := goodIn_app (goodIn_of _ (by decide +kernel)) ggX6_price_X6_requireItem
set_option maxRecDepth 20000 in
theorem ggX6_price_X6_requireOutlet : GoodIn wsX6_price wsX6_requireOutlet := goodIn_ca (goodIn_r _ [18, 7, 8] (by decide +kernel) (by decide +kernel)) (goodIn_sub (fun _ h => List.mem_cons_of_mem _ (List.mem_append_right _ h)) (by decide +kernel))
set_option maxRecDepth 20000 in
theorem gX6_price_X6_requireOutlet : GoodIn wsX6_price (va_wsS RX6 86 yX6_requireOutlet wsX6_requireOutlet) := goodIn_app (goodIn_of _ (by decide +kernel)) ggX6_price_X6_requireOutlet
set_option maxRecDepth 20000 in
theorem ggX6_price_X6_requirePublished : GoodIn wsX6_price wsX6_requirePublished := goodIn_ca (goodIn_r _ [22, 7, 8, 23, 27, 28, 29, 30, 31, 32, 33, 34] (by decide +kernel) (by decide +kernel)) (goodIn_sub (fun _ h => List.mem_cons_of_mem _ (List.mem_append_right _ h)) (by decide +kernel))
set_option maxRecDepth 20000 in
theorem gX6_price_X6_requirePublished : GoodIn wsX6_price (wsV RX6 166 RX6 yX6_requirePublished wsX6_requirePublished) := goodIn_app (goodIn_of _ (by decide +kernel)) ggX6_price_X6_requirePublished
set_option maxRecDepth 20000 in
theorem ggX6_price_X6_slotOf : GoodIn wsX6_price wsX6_slotOf := goodIn_r _ [26] (by decide +kernel) (by decide +kernel)
set_option maxRecDepth 20000 in
theorem gX6_price_X6_slotOf : GoodIn wsX6_price (va_wsS RX6 103 yX6_slotOf wsX6_slotOf) := goodIn_app (goodIn_of _ (by decide +kernel)) ggX6_price_X6_slotOf
theorem dX6_price_0 : decode cX6_price 0 = .ok (.aload_n 0, 1) := by decide +kernel
theorem dX6_price_1 : decode cX6_price 1 = .ok (.iload_n 1, 1) := by decide +kernel
theorem dX6_price_2 : decode cX6_price 2 = .ok (.invokevirtual 83, 3) := by decide +kernel
theorem dX6_price_5 : decode cX6_price 5 = .ok (.iload_n 2, 1) := by decide +kernel
theorem dX6_price_6 : decode cX6_price 6 = .ok (.invokestatic 86, 3) := by decide +kernel
theorem dX6_price_9 : decode cX6_price 9 = .ok (.aload_n 0, 1) := by decide +kernel
theorem dX6_price_10 : decode cX6_price 10 = .ok (.iload_n 3, 1) := by decide +kernel
theorem dX6_price_11 : decode cX6_price 11 = .ok (.invokevirtual 166, 3) := by decide +kernel
theorem dX6_price_14 : decode cX6_price 14 = .ok (.aload_n 0, 1) := by decide +kernel
theorem dX6_price_15 : decode cX6_price 15 = .ok (.getfield 28, 3) := by decide +kernel
theorem dX6_price_18 : decode cX6_price 18 = .ok (.getfield 183, 3) := by decide +kernel
theorem dX6_price_21 : decode cX6_price 21 = .ok (.iload_n 1, 1) := by decide +kernel
theorem dX6_price_22 : decode cX6_price 22 = .ok (.iload_n 2, 1) := by decide +kernel
theorem dX6_price_23 : decode cX6_price 23 = .ok (.iload_n 3, 1) := by decide +kernel
theorem dX6_price_24 : decode cX6_price 24 = .ok (.invokestatic 103, 3) := by decide +kernel
theorem dX6_price_27 : decode cX6_price 27 = .ok (.daload, 1) := by decide +kernel
theorem dX6_price_28 : decode cX6_price 28 = .ok (.dreturn, 1) := by decide +kernel
set_option maxRecDepth 20000 in
theorem ggX6_isMatched_X6_requireItem : GoodIn wsX6_isMatched wsX6_requireItem := goodIn_ca (goodIn_r _ [6, 7, 8, 9, 10, 11, 12, 13, 14, 15, 67, 68, 69, 70, 71, 72, 73, 74, 75, 76, 77, 78, 79, 80, 81, 82, 83, 84, 85, 86, 87] (by decide +kernel) (by decide +kernel)) (goodIn_sub (fun _ h => List.mem_cons_of_mem _ (List.mem_append_right _ h)) (by decide +kernel))
set_option maxRecDepth 20000 in
theorem gX6_isMatched_X6_requireItem : GoodIn wsX6_isMatched (wsV RX6 83 RX6 yX6_requireItem wsX6_requireItem) := goodIn_app (goodIn_of _ (by decide +kernel)) ggX6_isMatched_X6_requireItem
set_option maxRecDepth 20000 in
theorem ggX6_isMatched_X6_requireOutlet : GoodIn wsX6_isMatched wsX6_requireOutlet := goodIn_ca (goodIn_r _ [18, 7, 8] (by decide +kernel) (by decide +kernel)) (goodIn_sub (fun _ h => List.mem_cons_of_mem _ (List.mem_append_right _ h)) (by decide +kernel))
set_option maxRecDepth 20000 in
theorem gX6_isMatched_X6_requireOutlet : GoodIn wsX6_isMatched (va_wsS RX6 86 yX6_requireOutlet wsX6_requireOutlet) := goodIn_app (goodIn_of _ (by decide +kernel)) ggX6_isMatched_X6_requireOutlet
set_option maxRecDepth 20000 in
theorem ggX6_isMatched_X6_requirePublished : GoodIn wsX6_isMatched wsX6_requirePublished := goodIn_ca (goodIn_r _ [22, 7, 8, 23, 67, 68, 69, 70, 71, 72, 73, 74] (by decide +kernel) (by decide +kernel)) (goodIn_sub (fun _ h => List.mem_cons_of_mem _ (List.mem_append_right _ h)) (by decide +kernel))
set_option maxRecDepth 20000 in
theorem gX6_isMatched_X6_requirePublished : GoodIn wsX6_isMatched (wsV RX6 166 RX6 yX6_requirePublished wsX6_requirePublished) := goodIn_app (goodIn_of _ (by decide +kernel)) ggX6_isMatched_X6_requirePublished
set_option maxRecDepth 20000 in
theorem ggX6_isMatched_X6_slotOf : GoodIn wsX6_isMatched wsX6_slotOf := goodIn_r _ [26] (by decide +kernel) (by decide +kernel)
set_option maxRecDepth 20000 in
theorem gX6_isMatched_X6_slotOf : GoodIn wsX6_isMatched (va_wsS RX6 103 yX6_slotOf wsX6_slotOf) := goodIn_app (goodIn_of _ (by decide +kernel)) ggX6_isMatched_X6_slotOf
set_option maxRecDepth 20000 in
theorem ggX6_isMatched_X3_matches : GoodIn wsX6_isMatched wsX3_matches := goodIn_r _ [31, 32, 33, 34, 30, 35, 36, 37, 38, 39, 40, 41, 42, 43, 44, 45, 46, 47, 48, 49, 50, 51, 52, 53, 54, 55, 56, 57, 58, 59, 60, 61, 62, 63, 64, 65, 66, 88, 89, 90, 91, 92, 93, 94, 95, 75, 76, 77, 78, 79, 80, 81, 82, 83, 84] (by decide +kernel) (by decide +kernel)
set_option maxRecDepth 20000 in
theorem gX6_isMatched_X3_matches : GoodIn wsX6_isMatched (wsV RX6 187 RX3 yX3_matches wsX3_matches) := goodIn_app (goodIn_of _ (by decide +kernel)) ggX6_isMatched_X3_matches
theorem dX6_isMatched_0 : decode cX6_isMatched 0 = .ok (.aload_n 0, 1) := by decide +kernel
theorem dX6_isMatched_1 : decode cX6_isMatched 1 = .ok (.iload_n 1, 1) := by decide +kernel
theorem dX6_isMatched_2 : decode cX6_isMatched 2 = .ok (.invokevirtual 83, 3) := by decide +kernel
theorem dX6_isMatched_5 : decode cX6_isMatched 5 = .ok (.iload_n 2, 1) := by decide +kernel
theorem dX6_isMatched_6 : decode cX6_isMatched 6 = .ok (.invokestatic 86, 3) := by decide +kernel
theorem dX6_isMatched_9 : decode cX6_isMatched 9 = .ok (.aload_n 0, 1) := by decide +kernel
theorem dX6_isMatched_10 : decode cX6_isMatched 10 = .ok (.iload_n 3, 1) := by decide +kernel
theorem dX6_isMatched_11 : decode cX6_isMatched 11 = .ok (.invokevirtual 166, 3) := by decide +kernel
theorem dX6_isMatched_14 : decode cX6_isMatched 14 = .ok (.aload_n 0, 1) := by decide +kernel
theorem dX6_isMatched_15 : decode cX6_isMatched 15 = .ok (.getfield 28, 3) := by decide +kernel
theorem dX6_isMatched_18 : decode cX6_isMatched 18 = .ok (.iload_n 1, 1) := by decide +kernel
theorem dX6_isMatched_19 : decode cX6_isMatched 19 = .ok (.iload_n 2, 1) := by decide +kernel
theorem dX6_isMatched_20 : decode cX6_isMatched 20 = .ok (.iload_n 3, 1) := by decide +kernel
theorem dX6_isMatched_21 : decode cX6_isMatched 21 = .ok (.invokestatic 103, 3) := by decide +kernel
theorem dX6_isMatched_24 : decode cX6_isMatched 24 = .ok (.invokevirtual 187, 3) := by decide +kernel
theorem dX6_isMatched_27 : decode cX6_isMatched 27 = .ok (.ireturn, 1) := by decide +kernel
set_option maxRecDepth 20000 in
theorem ggX6_relative_X6_requireItem : GoodIn wsX6_relative wsX6_requireItem := goodIn_ca (goodIn_r _ [6, 7, 8, 9, 10, 11, 12, 13, 14, 15, 27, 28, 29, 30, 31, 32, 33, 34, 35, 36, 37, 38, 39, 40, 41, 42, 43, 44, 45, 46, 47] (by decide +kernel) (by decide +kernel)) (goodIn_sub (fun _ h => List.mem_cons_of_mem _ (List.mem_append_right _ h)) (by decide +kernel))
set_option maxRecDepth 20000 in
theorem gX6_relative_X6_requireItem : GoodIn wsX6_relative (wsV RX6 83 RX6 yX6_requireItem wsX6_requireItem) := goodIn_app (goodIn_of _ (by decide +kernel)) ggX6_relative_X6_requireItem
set_option maxRecDepth 20000 in
theorem ggX6_relative_X6_requirePublished : GoodIn wsX6_relative wsX6_requirePublished := goodIn_ca (goodIn_r _ [19, 7, 8, 20, 27, 28, 29, 30, 31, 32, 33, 34] (by decide +kernel) (by decide +kernel)) (goodIn_sub (fun _ h => List.mem_cons_of_mem _ (List.mem_append_right _ h)) (by decide +kernel))
set_option maxRecDepth 20000 in
theorem gX6_relative_X6_requirePublished : GoodIn wsX6_relative (wsV RX6 166 RX6 yX6_requirePublished wsX6_requirePublished) := goodIn_app (goodIn_of _ (by decide +kernel)) ggX6_relative_X6_requirePublished
set_option maxRecDepth 20000 in
theorem ggX6_relative_X3_relativeOf : GoodIn wsX6_relative wsX3_relativeOf := goodIn_r _ [25, 26, 48, 49, 50, 51, 52, 53, 54, 55] (by decide +kernel) (by decide +kernel)
set_option maxRecDepth 20000 in
theorem gX6_relative_X3_relativeOf : GoodIn wsX6_relative (wsV RX6 190 RX3 yX3_relativeOf wsX3_relativeOf) := goodIn_app (goodIn_of _ (by decide +kernel)) ggX6_relative_X3_relativeOf
theorem dX6_relative_0 : decode cX6_relative 0 = .ok (.aload_n 0, 1) := by decide +kernel
theorem dX6_relative_1 : decode cX6_relative 1 = .ok (.iload_n 1, 1) := by decide +kernel
theorem dX6_relative_2 : decode cX6_relative 2 = .ok (.invokevirtual 83, 3) := by decide +kernel
theorem dX6_relative_5 : decode cX6_relative 5 = .ok (.aload_n 0, 1) := by decide +kernel
theorem dX6_relative_6 : decode cX6_relative 6 = .ok (.iload_n 2, 1) := by decide +kernel
theorem dX6_relative_7 : decode cX6_relative 7 = .ok (.invokevirtual 166, 3) := by decide +kernel
theorem dX6_relative_10 : decode cX6_relative 10 = .ok (.aload_n 0, 1) := by decide +kernel
theorem dX6_relative_11 : decode cX6_relative 11 = .ok (.getfield 28, 3) := by decide +kernel
theorem dX6_relative_14 : decode cX6_relative 14 = .ok (.iload_n 1, 1) := by decide +kernel
theorem dX6_relative_15 : decode cX6_relative 15 = .ok (.iload_n 2, 1) := by decide +kernel
theorem dX6_relative_16 : decode cX6_relative 16 = .ok (.invokevirtual 190, 3) := by decide +kernel
theorem dX6_relative_19 : decode cX6_relative 19 = .ok (.dreturn, 1) := by decide +kernel
set_option maxRecDepth 20000 in
theorem ggX6_bounce_X6_requireItem : GoodIn wsX6_bounce wsX6_requireItem := goodIn_ca (goodIn_r _ [6, 7, 8, 9, 10, 11, 12, 13, 14, 15, 109, 110, 111, 112, 113, 114, 115, 116, 117, 118, 119, 120, 121, 122, 123, 124, 125, 126, 127, 128, 129] (by decide +kernel) (by decide +kernel)) (goodIn_sub (fun _ h => List.mem_cons_of_mem _ (List.mem_append_right _ h)) (by decide +kernel))
set_option maxRecDepth 20000 in
theorem gX6_bounce_X6_requireItem : GoodIn wsX6_bounce (wsV RX6 83 RX6 yX6_requireItem wsX6_requireItem) := goodIn_app (goodIn_of _ (by decide +kernel)) ggX6_bounce_X6_requireItem
set_option maxRecDepth 20000 in
theorem ggX6_bounce_X6_requirePublished : GoodIn wsX6_bounce wsX6_requirePublished := goodIn_ca (goodIn_r _ [19, 7, 8, 20, 109, 110, 111, 112, 113, 114, 115, 116] (by decide +kernel) (by decide +kernel)) (goodIn_sub (fun _ h => List.mem_cons_of_mem _ (List.mem_append_right _ h)) (by decide +kernel))
set_option maxRecDepth 20000 in
theorem gX6_bounce_X6_requirePublished : GoodIn wsX6_bounce (wsV RX6 166 RX6 yX6_requirePublished wsX6_requirePublished) := goodIn_app (goodIn_of _ (by decide +kernel)) ggX6_bounce_X6_requirePublished
set_option maxRecDepth 20000 in
theorem ggX6_bounce_X3_relativeOf : GoodIn wsX6_bounce wsX3_relativeOf := goodIn_r _ [25, 26, 130, 131, 132, 133, 134, 135, 136, 137] (by decide +kernel) (by decide +kernel)
set_option maxRecDepth 20000 in
theorem gX6_bounce_X3_relativeOf : GoodIn wsX6_bounce (wsV RX6 190 RX3 yX3_relativeOf wsX3_relativeOf) := goodIn_app (goodIn_of _ (by decide +kernel)) ggX6_bounce_X3_relativeOf
set_option maxRecDepth 20000 in
theorem ggX6_bounce_X3_exchangedRelativeOf : GoodIn wsX6_bounce wsX3_exchangedRelativeOf := goodIn_r _ [30, 31, 32, 33, 24, 34, 35, 36, 37, 38, 5, 39, 40, 41, 42, 43, 44, 45, 46, 47, 48, 49, 50, 51, 52, 53, 54, 55, 56, 57, 58, 59, 60, 61, 62, 63, 64, 65, 66, 67, 68, 69, 70, 71, 72, 73, 74, 75, 76, 77, 78, 79, 80, 81, 82, 83, 84, 85, 86, 87, 88, 89, 90, 13, 91, 15, 92, 93, 94, 95, 96, 97, 98, 99, 100, 101, 102, 103, 104, 105, 106, 107, 108, 130, 131, 132, 133, 134, 135, 136, 137, 117, 118, 119, 120, 121, 122, 123, 124, 125, 126, 138, 139, 140, 141, 142, 143, 144, 145, 127, 128, 129] (by decide +kernel) (by decide +kernel)
set_option maxRecDepth 20000 in
theorem gX6_bounce_X3_exchangedRelativeOf : GoodIn wsX6_bounce (wsV RX6 193 RX3 yX3_exchangedRelativeOf wsX3_exchangedRelativeOf) := goodIn_app (goodIn_of _ (by decide +kernel)) ggX6_bounce_X3_exchangedRelativeOf
theorem dX6_bounce_0 : decode cX6_bounce 0 = .ok (.aload_n 0, 1) := by decide +kernel
theorem dX6_bounce_1 : decode cX6_bounce 1 = .ok (.iload_n 1, 1) := by decide +kernel
theorem dX6_bounce_2 : decode cX6_bounce 2 = .ok (.invokevirtual 83, 3) := by decide +kernel
theorem dX6_bounce_5 : decode cX6_bounce 5 = .ok (.aload_n 0, 1) := by decide +kernel
theorem dX6_bounce_6 : decode cX6_bounce 6 = .ok (.iload_n 2, 1) := by decide +kernel
theorem dX6_bounce_7 : decode cX6_bounce 7 = .ok (.invokevirtual 166, 3) := by decide +kernel
theorem dX6_bounce_10 : decode cX6_bounce 10 = .ok (.aload_n 0, 1) := by decide +kernel
theorem dX6_bounce_11 : decode cX6_bounce 11 = .ok (.getfield 28, 3) := by decide +kernel
theorem dX6_bounce_14 : decode cX6_bounce 14 = .ok (.iload_n 1, 1) := by decide +kernel
theorem dX6_bounce_15 : decode cX6_bounce 15 = .ok (.iload_n 2, 1) := by decide +kernel
theorem dX6_bounce_16 : decode cX6_bounce 16 = .ok (.invokevirtual 190, 3) := by decide +kernel
theorem dX6_bounce_19 : decode cX6_bounce 19 = .ok (.aload_n 0, 1) := by decide +kernel
theorem dX6_bounce_20 : decode cX6_bounce 20 = .ok (.getfield 28, 3) := by decide +kernel
theorem dX6_bounce_23 : decode cX6_bounce 23 = .ok (.iload_n 1, 1) := by decide +kernel
theorem dX6_bounce_24 : decode cX6_bounce 24 = .ok (.iload_n 2, 1) := by decide +kernel
theorem dX6_bounce_25 : decode cX6_bounce 25 = .ok (.invokevirtual 193, 3) := by decide +kernel
theorem dX6_bounce_28 : decode cX6_bounce 28 = .ok (.dmul, 1) := by decide +kernel
theorem dX6_bounce_29 : decode cX6_bounce 29 = .ok (.dreturn, 1) := by decide +kernel
set_option maxRecDepth 20000 in
theorem ggX6_ofGroup_X6_requireGroup : GoodIn wsX6_ofGroup wsX6_requireGroup := goodIn_ca (goodIn_r _ [5, 6, 7] (by decide +kernel) (by decide +kernel)) (goodIn_sub (fun _ h => List.mem_cons_of_mem _ (List.mem_append_right _ h)) (by decide +kernel))
set_option maxRecDepth 20000 in
theorem gX6_ofGroup_X6_requireGroup : GoodIn wsX6_ofGroup (va_wsS RX6 53 yX6_requireGroup wsX6_requireGroup) := goodIn_app (goodIn_of _ (by decide +kernel)) ggX6_ofGroup_X6_requireGroup
set_option maxRecDepth 20000 in
theorem ggX6_ofGroup_X6_requirePublished : GoodIn wsX6_ofGroup wsX6_requirePublished := goodIn_ca (goodIn_r _ [11, 6, 7, 12, 19, 20, 21, 22, 23, 24, 25, 26] (by decide +kernel) (by decide +kernel)) (goodIn_sub (fun _ h => List.mem_cons_of_mem _ (List.mem_append_right _ h)) (by decide +kernel))
set_option maxRecDepth 20000 in
theorem gX6_ofGroup_X6_requirePublished : GoodIn wsX6_ofGroup (wsV RX6 166 RX6 yX6_requirePublished wsX6_requirePublished) := goodIn_app (goodIn_of _ (by decide +kernel)) ggX6_ofGroup_X6_requirePublished
set_option maxRecDepth 20000 in
theorem ggX6_ofGroup_X3_groupRelativeOf : GoodIn wsX6_ofGroup wsX3_groupRelativeOf := goodIn_r _ [17, 18, 27, 28, 29, 30, 31, 32, 33, 34] (by decide +kernel) (by decide +kernel)
set_option maxRecDepth 20000 in
theorem gX6_ofGroup_X3_groupRelativeOf : GoodIn wsX6_ofGroup (wsV RX6 196 RX3 yX3_groupRelativeOf wsX3_groupRelativeOf) := goodIn_app (goodIn_of _ (by decide +kernel)) ggX6_ofGroup_X3_groupRelativeOf
theorem dX6_ofGroup_0 : decode cX6_ofGroup 0 = .ok (.iload_n 1, 1) := by decide +kernel
theorem dX6_ofGroup_1 : decode cX6_ofGroup 1 = .ok (.invokestatic 53, 3) := by decide +kernel
theorem dX6_ofGroup_4 : decode cX6_ofGroup 4 = .ok (.aload_n 0, 1) := by decide +kernel
theorem dX6_ofGroup_5 : decode cX6_ofGroup 5 = .ok (.iload_n 2, 1) := by decide +kernel
theorem dX6_ofGroup_6 : decode cX6_ofGroup 6 = .ok (.invokevirtual 166, 3) := by decide +kernel
theorem dX6_ofGroup_9 : decode cX6_ofGroup 9 = .ok (.aload_n 0, 1) := by decide +kernel
theorem dX6_ofGroup_10 : decode cX6_ofGroup 10 = .ok (.getfield 28, 3) := by decide +kernel
theorem dX6_ofGroup_13 : decode cX6_ofGroup 13 = .ok (.iload_n 1, 1) := by decide +kernel
theorem dX6_ofGroup_14 : decode cX6_ofGroup 14 = .ok (.iload_n 2, 1) := by decide +kernel
theorem dX6_ofGroup_15 : decode cX6_ofGroup 15 = .ok (.invokevirtual 196, 3) := by decide +kernel
theorem dX6_ofGroup_18 : decode cX6_ofGroup 18 = .ok (.dreturn, 1) := by decide +kernel
set_option maxRecDepth 20000 in
theorem ggX6_share_X6_requireKind : GoodIn wsX6_share wsX6_requireKind := goodIn_ca (goodIn_r _ [5, 6, 7] (by decide +kernel) (by decide +kernel)) (goodIn_sub (fun _ h => List.mem_cons_of_mem _ (List.mem_append_right _ h)) (by decide +kernel))
set_option maxRecDepth 20000 in
theorem gX6_share_X6_requireKind : GoodIn wsX6_share (va_wsS RX6 199 yX6_requireKind wsX6_requireKind) := goodIn_app (goodIn_of _ (by decide +kernel)) ggX6_share_X6_requireKind
set_option maxRecDepth 20000 in
theorem ggX6_share_X6_requireGroup : GoodIn wsX6_share wsX6_requireGroup := goodIn_ca (goodIn_r _ [10, 6, 7] (by decide +kernel) (by decide +kernel)) (goodIn_sub (fun _ h => List.mem_cons_of_mem _ (List.mem_append_right _ h)) (by decide +kernel))
set_option maxRecDepth 20000 in
theorem gX6_share_X6_requireGroup : GoodIn wsX6_share (va_wsS RX6 53 yX6_requireGroup wsX6_requireGroup) := goodIn_app (goodIn_of _ (by decide +kernel)) ggX6_share_X6_requireGroup
set_option maxRecDepth 20000 in
theorem ggX6_share_X6_requirePublished : GoodIn wsX6_share wsX6_requirePublished := goodIn_ca (goodIn_r _ [14, 6, 7, 15, 22, 23, 24, 25, 26, 27, 28, 29] (by decide +kernel) (by decide +kernel)) (goodIn_sub (fun _ h => List.mem_cons_of_mem _ (List.mem_append_right _ h)) (by decide +kernel))
set_option maxRecDepth 20000 in
theorem gX6_share_X6_requirePublished : GoodIn wsX6_share (wsV RX6 166 RX6 yX6_requirePublished wsX6_requirePublished) := goodIn_app (goodIn_of _ (by decide +kernel)) ggX6_share_X6_requirePublished
set_option maxRecDepth 20000 in
theorem ggX6_share_X4_shareOf : GoodIn wsX6_share wsX4_shareOf := goodIn_r _ [20, 21, 30, 31, 32] (by decide +kernel) (by decide +kernel)
set_option maxRecDepth 20000 in
theorem gX6_share_X4_shareOf : GoodIn wsX6_share (wsV RX6 202 RX4 yX4_shareOf wsX4_shareOf) := goodIn_app (goodIn_of _ (by decide +kernel)) ggX6_share_X4_shareOf
theorem dX6_share_0 : decode cX6_share 0 = .ok (.iload_n 1, 1) := by decide +kernel
theorem dX6_share_1 : decode cX6_share 1 = .ok (.invokestatic 199, 3) := by decide +kernel
theorem dX6_share_4 : decode cX6_share 4 = .ok (.iload_n 2, 1) := by decide +kernel
theorem dX6_share_5 : decode cX6_share 5 = .ok (.invokestatic 53, 3) := by decide +kernel
theorem dX6_share_8 : decode cX6_share 8 = .ok (.aload_n 0, 1) := by decide +kernel
theorem dX6_share_9 : decode cX6_share 9 = .ok (.iload_n 3, 1) := by decide +kernel
theorem dX6_share_10 : decode cX6_share 10 = .ok (.invokevirtual 166, 3) := by decide +kernel
theorem dX6_share_13 : decode cX6_share 13 = .ok (.aload_n 0, 1) := by decide +kernel
theorem dX6_share_14 : decode cX6_share 14 = .ok (.getfield 19, 3) := by decide +kernel
theorem dX6_share_17 : decode cX6_share 17 = .ok (.iload_n 1, 1) := by decide +kernel
theorem dX6_share_18 : decode cX6_share 18 = .ok (.iload_n 2, 1) := by decide +kernel
theorem dX6_share_19 : decode cX6_share 19 = .ok (.iload_n 3, 1) := by decide +kernel
theorem dX6_share_20 : decode cX6_share 20 = .ok (.invokevirtual 202, 3) := by decide +kernel
theorem dX6_share_23 : decode cX6_share 23 = .ok (.dreturn, 1) := by decide +kernel
set_option maxRecDepth 20000 in
theorem ggX6_index_X6_requireKind : GoodIn wsX6_index wsX6_requireKind := goodIn_ca (goodIn_r _ [5, 6, 7] (by decide +kernel) (by decide +kernel)) (goodIn_sub (fun _ h => List.mem_cons_of_mem _ (List.mem_append_right _ h)) (by decide +kernel))
set_option maxRecDepth 20000 in
theorem gX6_index_X6_requireKind : GoodIn wsX6_index (va_wsS RX6 199 yX6_requireKind wsX6_requireKind) := goodIn_app (goodIn_of _ (by decide +kernel)) ggX6_index_X6_requireKind
set_option maxRecDepth 20000 in
theorem ggX6_index_X6_requirePublished : GoodIn wsX6_index wsX6_requirePublished := goodIn_ca (goodIn_r _ [11, 6, 7, 12, 19, 20, 21, 22, 23, 24, 25, 26] (by decide +kernel) (by decide +kernel)) (goodIn_sub (fun _ h => List.mem_cons_of_mem _ (List.mem_append_right _ h)) (by decide +kernel))
set_option maxRecDepth 20000 in
theorem gX6_index_X6_requirePublished : GoodIn wsX6_index (wsV RX6 166 RX6 yX6_requirePublished wsX6_requirePublished) := goodIn_app (goodIn_of _ (by decide +kernel)) ggX6_index_X6_requirePublished
set_option maxRecDepth 20000 in
theorem ggX6_index_X3_indexOf : GoodIn wsX6_index wsX3_indexOf := goodIn_r _ [17, 18, 27, 28, 29, 30, 31, 32, 33, 34] (by decide +kernel) (by decide +kernel)
set_option maxRecDepth 20000 in
theorem gX6_index_X3_indexOf : GoodIn wsX6_index (wsV RX6 152 RX3 yX3_indexOf wsX3_indexOf) := goodIn_app (goodIn_of _ (by decide +kernel)) ggX6_index_X3_indexOf
theorem dX6_index_0 : decode cX6_index 0 = .ok (.iload_n 1, 1) := by decide +kernel
theorem dX6_index_1 : decode cX6_index 1 = .ok (.invokestatic 199, 3) := by decide +kernel
theorem dX6_index_4 : decode cX6_index 4 = .ok (.aload_n 0, 1) := by decide +kernel
theorem dX6_index_5 : decode cX6_index 5 = .ok (.iload_n 2, 1) := by decide +kernel
theorem dX6_index_6 : decode cX6_index 6 = .ok (.invokevirtual 166, 3) := by decide +kernel
theorem dX6_index_9 : decode cX6_index 9 = .ok (.aload_n 0, 1) := by decide +kernel
theorem dX6_index_10 : decode cX6_index 10 = .ok (.getfield 28, 3) := by decide +kernel
theorem dX6_index_13 : decode cX6_index 13 = .ok (.iload_n 1, 1) := by decide +kernel
theorem dX6_index_14 : decode cX6_index 14 = .ok (.iload_n 2, 1) := by decide +kernel
theorem dX6_index_15 : decode cX6_index 15 = .ok (.invokevirtual 152, 3) := by decide +kernel
theorem dX6_index_18 : decode cX6_index 18 = .ok (.dreturn, 1) := by decide +kernel
set_option maxRecDepth 20000 in
theorem ggX6_indexAnew_X6_requireKind : GoodIn wsX6_indexAnew wsX6_requireKind := goodIn_ca (goodIn_r _ [5, 6, 7] (by decide +kernel) (by decide +kernel)) (goodIn_sub (fun _ h => List.mem_cons_of_mem _ (List.mem_append_right _ h)) (by decide +kernel))
set_option maxRecDepth 20000 in
theorem gX6_indexAnew_X6_requireKind : GoodIn wsX6_indexAnew (va_wsS RX6 199 yX6_requireKind wsX6_requireKind) := goodIn_app (goodIn_of _ (by decide +kernel)) ggX6_indexAnew_X6_requireKind
set_option maxRecDepth 20000 in
theorem ggX6_indexAnew_X6_requirePublished : GoodIn wsX6_indexAnew wsX6_requirePublished := goodIn_ca (goodIn_r _ [11, 6, 7, 12, 146, 147, 148, 149, 150, 151, 152, 153] (by decide +kernel) (by decide +kernel)) (goodIn_sub (fun _ h => List.mem_cons_of_mem _ (List.mem_append_right _ h)) (by decide +kernel))
set_option maxRecDepth 20000 in
theorem gX6_indexAnew_X6_requirePublished : GoodIn wsX6_indexAnew (wsV RX6 166 RX6 yX6_requirePublished wsX6_requirePublished) := goodIn_app (goodIn_of _ (by decide +kernel)) ggX6_indexAnew_X6_requirePublished
set_option maxRecDepth 20000 in
theorem ggX6_indexAnew_X3_redoThrough : GoodIn wsX6_indexAnew wsX3_redoThrough := goodIn_r _ [17, 18, 19, 20, 21, 16, 22, 23, 24, 25, 26, 27, 28, 29, 30, 31, 32, 33, 34, 35, 36, 37, 38, 39, 40, 41, 42, 43, 44, 45, 4, 46, 47, 48, 49, 50, 51, 52, 53, 54, 55, 56, 57, 58, 59, 60, 61, 62, 63, 64, 65, 66, 67, 68, 69, 70, 71, 72, 73, 74, 75, 76, 77, 78, 79, 80, 81, 82, 83, 84, 85, 86, 87, 88, 89, 90, 91, 92, 93, 94, 95, 96, 97, 98, 99, 100, 101, 102, 103, 104, 105, 106, 107, 108, 109, 110, 111, 112, 113, 114, 115, 116, 117, 118, 119, 120, 121, 122, 123, 124, 125, 126, 127, 128, 129, 130, 131, 132, 133, 134, 135, 136, 137, 138, 139, 140, 141, 142, 143, 144, 154, 155, 156, 157, 158, 159, 160, 161, 162, 163, 164, 165, 166, 167, 168, 169, 170, 171, 172, 173, 174, 175, 176, 177, 178, 179, 180, 181, 182, 183, 184, 185] (by decide +kernel) (by decide +kernel)
set_option maxRecDepth 20000 in
theorem gX6_indexAnew_X3_redoThrough : GoodIn wsX6_indexAnew (wsV RX6 206 RX3 yX3_redoThrough wsX3_redoThrough) := goodIn_app (goodIn_of _ (by decide +kernel)) ggX6_indexAnew_X3_redoThrough
set_option maxRecDepth 20000 in
theorem ggX6_indexAnew_X3_indexOf : GoodIn wsX6_indexAnew wsX3_indexOf := goodIn_r _ [129, 25, 154, 155, 156, 157, 158, 159, 160, 161] (by decide +kernel) (by decide +kernel)
set_option maxRecDepth 20000 in
theorem gX6_indexAnew_X3_indexOf : GoodIn wsX6_indexAnew (wsV RX6 152 RX3 yX3_indexOf wsX3_indexOf) := goodIn_app (goodIn_of _ (by decide +kernel)) ggX6_indexAnew_X3_indexOf
theorem dX6_indexAnew_0 : decode cX6_indexAnew 0 = .ok (.iload_n 1, 1) := by decide +kernel
theorem dX6_indexAnew_1 : decode cX6_indexAnew 1 = .ok (.invokestatic 199, 3) := by decide +kernel
theorem dX6_indexAnew_4 : decode cX6_indexAnew 4 = .ok (.aload_n 0, 1) := by decide +kernel
theorem dX6_indexAnew_5 : decode cX6_indexAnew 5 = .ok (.iload_n 2, 1) := by decide +kernel
theorem dX6_indexAnew_6 : decode cX6_indexAnew 6 = .ok (.invokevirtual 166, 3) := by decide +kernel
theorem dX6_indexAnew_9 : decode cX6_indexAnew 9 = .ok (.aload_n 0, 1) := by decide +kernel
theorem dX6_indexAnew_10 : decode cX6_indexAnew 10 = .ok (.getfield 32, 3) := by decide +kernel
theorem dX6_indexAnew_13 : decode cX6_indexAnew 13 = .ok (.iload_n 2, 1) := by decide +kernel
theorem dX6_indexAnew_14 : decode cX6_indexAnew 14 = .ok (.iconst 0, 1) := by decide +kernel
theorem dX6_indexAnew_15 : decode cX6_indexAnew 15 = .ok (.invokevirtual 206, 3) := by decide +kernel
theorem dX6_indexAnew_18 : decode cX6_indexAnew 18 = .ok (.aload_n 0, 1) := by decide +kernel
theorem dX6_indexAnew_19 : decode cX6_indexAnew 19 = .ok (.getfield 32, 3) := by decide +kernel
theorem dX6_indexAnew_22 : decode cX6_indexAnew 22 = .ok (.iload_n 1, 1) := by decide +kernel
theorem dX6_indexAnew_23 : decode cX6_indexAnew 23 = .ok (.iload_n 2, 1) := by decide +kernel
theorem dX6_indexAnew_24 : decode cX6_indexAnew 24 = .ok (.invokevirtual 152, 3) := by decide +kernel
theorem dX6_indexAnew_27 : decode cX6_indexAnew 27 = .ok (.dreturn, 1) := by decide +kernel
set_option maxRecDepth 20000 in
theorem ggX6_corrected_X6_requireKind : GoodIn wsX6_corrected wsX6_requireKind := goodIn_ca (goodIn_r _ [5, 6, 7] (by decide +kernel) (by decide +kernel)) (goodIn_sub (fun _ h => List.mem_cons_of_mem _ (List.mem_append_right _ h)) (by decide +kernel))
set_option maxRecDepth 20000 in
theorem gX6_corrected_X6_requireKind : GoodIn wsX6_corrected (va_wsS RX6 199 yX6_requireKind wsX6_requireKind) := goodIn_app (goodIn_of _ (by decide +kernel)) ggX6_corrected_X6_requireKind
set_option maxRecDepth 20000 in
theorem ggX6_corrected_X6_requirePublished : GoodIn wsX6_corrected wsX6_requirePublished := goodIn_ca (goodIn_r _ [11, 6, 7, 12, 146, 147, 148, 149, 150, 151, 152, 153] (by decide +kernel) (by decide +kernel)) (goodIn_sub (fun _ h => List.mem_cons_of_mem _ (List.mem_append_right _ h)) (by decide +kernel))
set_option maxRecDepth 20000 in
theorem gX6_corrected_X6_requirePublished : GoodIn wsX6_corrected (wsV RX6 166 RX6 yX6_requirePublished wsX6_requirePublished) := goodIn_app (goodIn_of _ (by decide +kernel)) ggX6_corrected_X6_requirePublished
set_option maxRecDepth 20000 in
theorem ggX6_corrected_X3_redoThrough : GoodIn wsX6_corrected wsX3_redoThrough := goodIn_r _ [17, 18, 19, 20, 21, 16, 22, 23, 24, 25, 26, 27, 28, 29, 30, 31, 32, 33, 34, 35, 36, 37, 38, 39, 40, 41, 42, 43, 44, 45, 4, 46, 47, 48, 49, 50, 51, 52, 53, 54, 55, 56, 57, 58, 59, 60, 61, 62, 63, 64, 65, 66, 67, 68, 69, 70, 71, 72, 73, 74, 75, 76, 77, 78, 79, 80, 81, 82, 83, 84, 85, 86, 87, 88, 89, 90, 91, 92, 93, 94, 95, 96, 97, 98, 99, 100, 101, 102, 103, 104, 105, 106, 107, 108, 109, 110, 111, 112, 113, 114, 115, 116, 117, 118, 119, 120, 121, 122, 123, 124, 125, 126, 127, 128, 129, 130, 131, 132, 133, 134, 135, 136, 137, 138, 139, 140, 141, 142, 143, 144, 154, 155, 156, 157, 158, 159, 160, 161, 162, 163, 164, 165, 166, 167, 168, 169, 170, 171, 172, 173, 174, 175, 176, 177, 178, 179, 180, 181, 182, 183, 184, 185] (by decide +kernel) (by decide +kernel)
set_option maxRecDepth 20000 in
theorem gX6_corrected_X3_redoThrough : GoodIn wsX6_corrected (wsV RX6 206 RX3 yX3_redoThrough wsX3_redoThrough) := goodIn_app (goodIn_of _ (by decide +kernel)) ggX6_corrected_X3_redoThrough
set_option maxRecDepth 20000 in
theorem ggX6_corrected_X3_indexOf : GoodIn wsX6_corrected wsX3_indexOf := goodIn_r _ [129, 25, 154, 155, 156, 157, 158, 159, 160, 161] (by decide +kernel) (by decide +kernel)
set_option maxRecDepth 20000 in
theorem gX6_corrected_X3_indexOf : GoodIn wsX6_corrected (wsV RX6 152 RX3 yX3_indexOf wsX3_indexOf) := goodIn_app (goodIn_of _ (by decide +kernel)) ggX6_corrected_X3_indexOf
theorem dX6_corrected_0 : decode cX6_corrected 0 = .ok (.iload_n 1, 1) := by decide +kernel
theorem dX6_corrected_1 : decode cX6_corrected 1 = .ok (.invokestatic 199, 3) := by decide +kernel
theorem dX6_corrected_4 : decode cX6_corrected 4 = .ok (.aload_n 0, 1) := by decide +kernel
theorem dX6_corrected_5 : decode cX6_corrected 5 = .ok (.iload_n 2, 1) := by decide +kernel
theorem dX6_corrected_6 : decode cX6_corrected 6 = .ok (.invokevirtual 166, 3) := by decide +kernel
theorem dX6_corrected_9 : decode cX6_corrected 9 = .ok (.aload_n 0, 1) := by decide +kernel
theorem dX6_corrected_10 : decode cX6_corrected 10 = .ok (.getfield 32, 3) := by decide +kernel
theorem dX6_corrected_13 : decode cX6_corrected 13 = .ok (.iload_n 2, 1) := by decide +kernel
theorem dX6_corrected_14 : decode cX6_corrected 14 = .ok (.iconst 1, 1) := by decide +kernel
theorem dX6_corrected_15 : decode cX6_corrected 15 = .ok (.invokevirtual 206, 3) := by decide +kernel
theorem dX6_corrected_18 : decode cX6_corrected 18 = .ok (.aload_n 0, 1) := by decide +kernel
theorem dX6_corrected_19 : decode cX6_corrected 19 = .ok (.getfield 32, 3) := by decide +kernel
theorem dX6_corrected_22 : decode cX6_corrected 22 = .ok (.iload_n 1, 1) := by decide +kernel
theorem dX6_corrected_23 : decode cX6_corrected 23 = .ok (.iload_n 2, 1) := by decide +kernel
theorem dX6_corrected_24 : decode cX6_corrected 24 = .ok (.invokevirtual 152, 3) := by decide +kernel
theorem dX6_corrected_27 : decode cX6_corrected 27 = .ok (.dreturn, 1) := by decide +kernel
set_option maxRecDepth 20000 in
theorem ggX6_published_X6_requirePublished : GoodIn wsX6_published wsX6_requirePublished := goodIn_ca (goodIn_r _ [6, 7, 8, 9, 10, 11, 12, 13, 14, 15, 16, 17] (by decide +kernel) (by decide +kernel)) (goodIn_sub (fun _ h => List.mem_cons_of_mem _ (List.mem_append_right _ h)) (by decide +kernel))
set_option maxRecDepth 20000 in
theorem gX6_published_X6_requirePublished : GoodIn wsX6_published (wsV RX6 166 RX6 yX6_requirePublished wsX6_requirePublished) := goodIn_app (goodIn_of _ (by decide +kernel)) ggX6_published_X6_requirePublished
theorem dX6_published_0 : decode cX6_published 0 = .ok (.aload_n 0, 1) := by decide +kernel
theorem dX6_published_1 : decode cX6_published 1 = .ok (.iload_n 1, 1) := by decide +kernel
theorem dX6_published_2 : decode cX6_published 2 = .ok (.invokevirtual 166, 3) := by decide +kernel
theorem dX6_published_5 : decode cX6_published 5 = .ok (.aload_n 0, 1) := by decide +kernel
theorem dX6_published_6 : decode cX6_published 6 = .ok (.getfield 35, 3) := by decide +kernel
theorem dX6_published_9 : decode cX6_published 9 = .ok (.iload_n 1, 1) := by decide +kernel
theorem dX6_published_10 : decode cX6_published 10 = .ok (.iaload, 1) := by decide +kernel
theorem dX6_published_11 : decode cX6_published 11 = .ok (.ireturn, 1) := by decide +kernel
set_option maxRecDepth 20000 in
theorem ggX6_core_X6_requirePublished : GoodIn wsX6_core wsX6_requirePublished := goodIn_ca (goodIn_r _ [6, 7, 8, 9, 21, 22, 23, 24, 25, 26, 27, 28] (by decide +kernel) (by decide +kernel)) (goodIn_sub (fun _ h => List.mem_cons_of_mem _ (List.mem_append_right _ h)) (by decide +kernel))
set_option maxRecDepth 20000 in
theorem gX6_core_X6_requirePublished : GoodIn wsX6_core (wsV RX6 166 RX6 yX6_requirePublished wsX6_requirePublished) := goodIn_app (goodIn_of _ (by decide +kernel)) ggX6_core_X6_requirePublished
set_option maxRecDepth 20000 in
theorem ggX6_core_X3_coreOf : GoodIn wsX6_core wsX3_coreOf := goodIn_r _ [14, 15, 16, 17, 18, 13, 19, 20, 29, 30, 31, 32, 33, 34, 35, 36] (by decide +kernel) (by decide +kernel)
set_option maxRecDepth 20000 in
theorem gX6_core_X3_coreOf : GoodIn wsX6_core (wsV RX6 212 RX3 yX3_coreOf wsX3_coreOf) := goodIn_app (goodIn_of _ (by decide +kernel)) ggX6_core_X3_coreOf
theorem dX6_core_0 : decode cX6_core 0 = .ok (.aload_n 0, 1) := by decide +kernel
theorem dX6_core_1 : decode cX6_core 1 = .ok (.iload_n 1, 1) := by decide +kernel
theorem dX6_core_2 : decode cX6_core 2 = .ok (.invokevirtual 166, 3) := by decide +kernel
theorem dX6_core_5 : decode cX6_core 5 = .ok (.aload_n 0, 1) := by decide +kernel
theorem dX6_core_6 : decode cX6_core 6 = .ok (.getfield 28, 3) := by decide +kernel
theorem dX6_core_9 : decode cX6_core 9 = .ok (.iload_n 1, 1) := by decide +kernel
theorem dX6_core_10 : decode cX6_core 10 = .ok (.invokevirtual 212, 3) := by decide +kernel
theorem dX6_core_13 : decode cX6_core 13 = .ok (.dreturn, 1) := by decide +kernel
set_option maxRecDepth 20000 in
theorem ggX6_direct_X6_requirePublished : GoodIn wsX6_direct wsX6_requirePublished := goodIn_ca (goodIn_r _ [6, 7, 8, 9, 28, 29, 30, 31, 32, 33, 34, 35] (by decide +kernel) (by decide +kernel)) (goodIn_sub (fun _ h => List.mem_cons_of_mem _ (List.mem_append_right _ h)) (by decide +kernel))
set_option maxRecDepth 20000 in
theorem gX6_direct_X6_requirePublished : GoodIn wsX6_direct (wsV RX6 166 RX6 yX6_requirePublished wsX6_requirePublished) := goodIn_app (goodIn_of _ (by decide +kernel)) ggX6_direct_X6_requirePublished
set_option maxRecDepth 20000 in
theorem ggX6_direct_X3_directOf : GoodIn wsX6_direct wsX3_directOf := goodIn_r _ [14, 15, 16, 17, 18, 19, 13, 20, 21, 22, 23, 24, 25, 26, 27, 36, 37, 38, 39, 40, 41, 42, 43, 44, 45, 46] (by decide +kernel) (by decide +kernel)
set_option maxRecDepth 20000 in
theorem gX6_direct_X3_directOf : GoodIn wsX6_direct (wsV RX6 216 RX3 yX3_directOf wsX3_directOf) := goodIn_app (goodIn_of _ (by decide +kernel)) ggX6_direct_X3_directOf
theorem dX6_direct_0 : decode cX6_direct 0 = .ok (.aload_n 0, 1) := by decide +kernel
theorem dX6_direct_1 : decode cX6_direct 1 = .ok (.iload_n 1, 1) := by decide +kernel
theorem dX6_direct_2 : decode cX6_direct 2 = .ok (.invokevirtual 166, 3) := by decide +kernel
theorem dX6_direct_5 : decode cX6_direct 5 = .ok (.aload_n 0, 1) := by decide +kernel
theorem dX6_direct_6 : decode cX6_direct 6 = .ok (.getfield 28, 3) := by decide +kernel
theorem dX6_direct_9 : decode cX6_direct 9 = .ok (.iload_n 1, 1) := by decide +kernel
theorem dX6_direct_10 : decode cX6_direct 10 = .ok (.invokevirtual 216, 3) := by decide +kernel
theorem dX6_direct_13 : decode cX6_direct 13 = .ok (.dreturn, 1) := by decide +kernel
set_option maxRecDepth 20000 in
theorem ggX6_doubts_X6_requirePublished : GoodIn wsX6_doubts wsX6_requirePublished := goodIn_ca (goodIn_r _ [6, 7, 8, 9, 58, 59, 60, 61, 62, 63, 64, 65] (by decide +kernel) (by decide +kernel)) (goodIn_sub (fun _ h => List.mem_cons_of_mem _ (List.mem_append_right _ h)) (by decide +kernel))
set_option maxRecDepth 20000 in
theorem gX6_doubts_X6_requirePublished : GoodIn wsX6_doubts (wsV RX6 166 RX6 yX6_requirePublished wsX6_requirePublished) := goodIn_app (goodIn_of _ (by decide +kernel)) ggX6_doubts_X6_requirePublished
set_option maxRecDepth 20000 in
theorem ggX6_doubts_X3_doubtsOf : GoodIn wsX6_doubts wsX3_doubtsOf := goodIn_r _ [14, 15, 16, 17, 18, 19, 20, 21, 22, 23, 24, 13, 25, 26, 27, 28, 29, 30, 31, 32, 33, 34, 35, 36, 37, 38, 39, 40, 41, 42, 43, 44, 45, 46, 47, 48, 49, 50, 51, 52, 53, 54, 55, 56, 57, 66, 67, 68, 69, 70, 71, 72, 73, 74, 75, 76, 77, 78, 79, 80, 81, 82, 83] (by decide +kernel) (by decide +kernel)
set_option maxRecDepth 20000 in
theorem gX6_doubts_X3_doubtsOf : GoodIn wsX6_doubts (wsV RX6 219 RX3 yX3_doubtsOf wsX3_doubtsOf) := goodIn_app (goodIn_of _ (by decide +kernel)) ggX6_doubts_X3_doubtsOf
theorem dX6_doubts_0 : decode cX6_doubts 0 = .ok (.aload_n 0, 1) := by decide +kernel
theorem dX6_doubts_1 : decode cX6_doubts 1 = .ok (.iload_n 1, 1) := by decide +kernel
theorem dX6_doubts_2 : decode cX6_doubts 2 = .ok (.invokevirtual 166, 3) := by decide +kernel
theorem dX6_doubts_5 : decode cX6_doubts 5 = .ok (.aload_n 0, 1) := by decide +kernel
theorem dX6_doubts_6 : decode cX6_doubts 6 = .ok (.getfield 28, 3) := by decide +kernel
theorem dX6_doubts_9 : decode cX6_doubts 9 = .ok (.iload_n 1, 1) := by decide +kernel
theorem dX6_doubts_10 : decode cX6_doubts 10 = .ok (.invokevirtual 219, 3) := by decide +kernel
theorem dX6_doubts_13 : decode cX6_doubts 13 = .ok (.ireturn, 1) := by decide +kernel
set_option maxRecDepth 20000 in
theorem ggX6_ofContract_X6_requireContract : GoodIn wsX6_ofContract wsX6_requireContract := goodIn_ca (goodIn_r _ [9, 1, 2, 3, 10, 11, 12, 13, 14, 15, 33, 34, 35, 36, 37, 38, 39, 40, 50, 51, 52] (by decide +kernel) (by decide +kernel)) (goodIn_sub (fun _ h => List.mem_cons_of_mem _ (List.mem_append_right _ h)) (by decide +kernel))
set_option maxRecDepth 20000 in
theorem gX6_ofContract_X6_requireContract : GoodIn wsX6_ofContract (wsV RX6 223 RX6 yX6_requireContract wsX6_requireContract) := goodIn_app (goodIn_of _ (by decide +kernel)) ggX6_ofContract_X6_requireContract
set_option maxRecDepth 20000 in
theorem ggX6_ofContract_Jx4a65c_get_915e3 : GoodIn wsX6_ofContract wsJx4a65c_get_915e3 := goodIn_r _ [19, 15, 20, 21, 22, 23, 24, 25, 26, 27, 28, 29, 30, 13, 31, 32, 50, 51, 52] (by decide +kernel) (by decide +kernel)
set_option maxRecDepth 20000 in
theorem gX6_ofContract_Jx4a65c_get_915e3 : GoodIn wsX6_ofContract (wsV RX6 93 RJx4a65c yJx4a65c_get_915e3 wsJx4a65c_get_915e3) := goodIn_app (goodIn_of _ (by decide +kernel)) ggX6_ofContract_Jx4a65c_get_915e3
theorem dX6_ofContract_0 : decode cX6_ofContract 0 = .ok (.aload_n 0, 1) := by decide +kernel
theorem dX6_ofContract_1 : decode cX6_ofContract 1 = .ok (.iload_n 1, 1) := by decide +kernel
theorem dX6_ofContract_2 : decode cX6_ofContract 2 = .ok (.invokevirtual 223, 3) := by decide +kernel
theorem dX6_ofContract_5 : decode cX6_ofContract 5 = .ok (.aload_n 0, 1) := by decide +kernel
theorem dX6_ofContract_6 : decode cX6_ofContract 6 = .ok (.getfield 45, 3) := by decide +kernel
theorem dX6_ofContract_9 : decode cX6_ofContract 9 = .ok (.iload_n 1, 1) := by decide +kernel
theorem dX6_ofContract_10 : decode cX6_ofContract 10 = .ok (.invokevirtual 93, 3) := by decide +kernel
theorem dX6_ofContract_13 : decode cX6_ofContract 13 = .ok (.checkcast 160, 3) := by decide +kernel
theorem dX6_ofContract_16 : decode cX6_ofContract 16 = .ok (.astore_n 3, 1) := by decide +kernel
theorem dX6_ofContract_17 : decode cX6_ofContract 17 = .ok (.iload_n 2, 1) := by decide +kernel
theorem dX6_ofContract_18 : decode cX6_ofContract 18 = .ok (.tableswitch 51 0 3 #[30, 35, 40, 46], 30) := by decide +kernel
theorem dX6_ofContract_48 : decode cX6_ofContract 48 = .ok (.aload_n 3, 1) := by decide +kernel
theorem dX6_ofContract_49 : decode cX6_ofContract 49 = .ok (.getfield 226, 3) := by decide +kernel
theorem dX6_ofContract_52 : decode cX6_ofContract 52 = .ok (.lreturn, 1) := by decide +kernel
theorem dX6_ofContract_53 : decode cX6_ofContract 53 = .ok (.aload_n 3, 1) := by decide +kernel
theorem dX6_ofContract_54 : decode cX6_ofContract 54 = .ok (.getfield 230, 3) := by decide +kernel
theorem dX6_ofContract_57 : decode cX6_ofContract 57 = .ok (.lreturn, 1) := by decide +kernel
theorem dX6_ofContract_58 : decode cX6_ofContract 58 = .ok (.aload_n 3, 1) := by decide +kernel
theorem dX6_ofContract_59 : decode cX6_ofContract 59 = .ok (.getfield 233, 3) := by decide +kernel
theorem dX6_ofContract_62 : decode cX6_ofContract 62 = .ok (.i2l, 1) := by decide +kernel
theorem dX6_ofContract_63 : decode cX6_ofContract 63 = .ok (.lreturn, 1) := by decide +kernel
theorem dX6_ofContract_64 : decode cX6_ofContract 64 = .ok (.aload_n 3, 1) := by decide +kernel
theorem dX6_ofContract_65 : decode cX6_ofContract 65 = .ok (.getfield 236, 3) := by decide +kernel
theorem dX6_ofContract_68 : decode cX6_ofContract 68 = .ok (.lreturn, 1) := by decide +kernel
theorem dX6_ofContract_69 : decode cX6_ofContract 69 = .ok (.new 133, 3) := by decide +kernel
theorem dX6_ofContract_72 : decode cX6_ofContract 72 = .ok (.dup, 1) := by decide +kernel
theorem dX6_ofContract_73 : decode cX6_ofContract 73 = .ok (.ldc 239, 2) := by decide +kernel
theorem dX6_ofContract_75 : decode cX6_ofContract 75 = .ok (.invokespecial 137, 3) := by decide +kernel
theorem dX6_ofContract_78 : decode cX6_ofContract 78 = .ok (.athrow, 1) := by decide +kernel
set_option maxRecDepth 20000 in
theorem ggX6_owed_X6_requireContract : GoodIn wsX6_owed wsX6_requireContract := goodIn_ca (goodIn_r _ [10, 11, 12, 4, 13, 14, 15, 16, 17, 18, 195, 196, 197, 198, 199, 200, 201, 202, 212, 213, 214] (by decide +kernel) (by decide +kernel)) (goodIn_sub (fun _ h => List.mem_cons_of_mem _ (List.mem_append_right _ h)) (by decide +kernel))
set_option maxRecDepth 20000 in
theorem gX6_owed_X6_requireContract : GoodIn wsX6_owed (wsV RX6 223 RX6 yX6_requireContract wsX6_requireContract) := goodIn_app (goodIn_of _ (by decide +kernel)) ggX6_owed_X6_requireContract
set_option maxRecDepth 20000 in
theorem ggX6_owed_X3_redoThrough : GoodIn wsX6_owed wsX3_redoThrough := goodIn_r _ [23, 24, 25, 26, 27, 22, 28, 29, 30, 31, 32, 33, 14, 15, 16, 17, 18, 34, 35, 36, 37, 38, 39, 40, 41, 42, 43, 44, 45, 46, 9, 47, 48, 49, 50, 51, 52, 53, 54, 55, 56, 57, 58, 59, 60, 61, 62, 63, 64, 65, 66, 67, 68, 69, 70, 71, 72, 73, 74, 75, 76, 77, 78, 79, 80, 81, 82, 83, 84, 85, 86, 87, 88, 89, 90, 91, 92, 93, 94, 95, 96, 97, 98, 99, 100, 101, 102, 103, 104, 105, 106, 107, 108, 109, 110, 111, 112, 113, 114, 115, 116, 117, 118, 119, 120, 121, 122, 123, 124, 125, 126, 127, 128, 129, 130, 131, 132, 133, 134, 135, 136, 137, 138, 139, 140, 141, 142, 143, 144, 145, 215, 216, 217, 218, 219, 220, 221, 222, 223, 224, 225, 226, 227, 228, 229, 230, 231, 232, 212, 213, 214, 233, 234, 235, 236, 237, 238, 239, 240, 241, 242, 243] (by decide +kernel) (by decide +kernel)
set_option maxRecDepth 20000 in
theorem gX6_owed_X3_redoThrough : GoodIn wsX6_owed (wsV RX6 206 RX3 yX3_redoThrough wsX3_redoThrough) := goodIn_app (goodIn_of _ (by decide +kernel)) ggX6_owed_X3_redoThrough
set_option maxRecDepth 20000 in
theorem ggX6_owed_X3_indexOf : GoodIn wsX6_owed wsX3_indexOf := goodIn_r _ [130, 31, 215, 216, 217, 218, 219, 220, 221, 222] (by decide +kernel) (by decide +kernel)
set_option maxRecDepth 20000 in
theorem gX6_owed_X3_indexOf : GoodIn wsX6_owed (wsV RX6 152 RX3 yX3_indexOf wsX3_indexOf) := goodIn_app (goodIn_of _ (by decide +kernel)) ggX6_owed_X3_indexOf
set_option maxRecDepth 20000 in
theorem ggX6_owed_X6_numberOf : GoodIn wsX6_owed wsX6_numberOf := goodIn_r _ [149, 150, 151, 152, 153] (by decide +kernel) (by decide +kernel)
set_option maxRecDepth 20000 in
theorem gX6_owed_X6_numberOf : GoodIn wsX6_owed (va_wsS RX6 156 yX6_numberOf wsX6_numberOf) := goodIn_app (goodIn_of _ (by decide +kernel)) ggX6_owed_X6_numberOf
set_option maxRecDepth 20000 in
theorem ggX6_owed_Jx4a65c_get_915e3 : GoodIn wsX6_owed wsJx4a65c_get_915e3 := goodIn_r _ [97, 18, 98, 99, 100, 101, 102, 103, 104, 105, 106, 107, 108, 16, 109, 110, 212, 213, 214] (by decide +kernel) (by decide +kernel)
set_option maxRecDepth 20000 in
theorem gX6_owed_Jx4a65c_get_915e3 : GoodIn wsX6_owed (wsV RX6 93 RJx4a65c yJx4a65c_get_915e3 wsJx4a65c_get_915e3) := goodIn_app (goodIn_of _ (by decide +kernel)) ggX6_owed_Jx4a65c_get_915e3
set_option maxRecDepth 20000 in
theorem ggX6_owed_X0_paidAnew : GoodIn wsX6_owed wsX0_paidAnew := goodIn_r _ [159, 160, 161, 158, 162, 163, 164, 165, 166, 167, 168, 169, 170, 171, 172, 173, 174, 175, 176, 177, 178, 179, 180, 181, 182, 183, 184, 185, 186, 187, 188, 189, 190, 191, 192, 193, 194, 203, 204, 205, 206, 207, 208, 209, 210, 211] (by decide +kernel) (by decide +kernel)
set_option maxRecDepth 20000 in
theorem gX6_owed_X0_paidAnew : GoodIn wsX6_owed (wsV RX6 241 RX0 yX0_paidAnew wsX0_paidAnew) := goodIn_app (goodIn_of _ (by decide +kernel)) ggX6_owed_X0_paidAnew
theorem dX6_owed_0 : decode cX6_owed 0 = .ok (.aload_n 0, 1) := by decide +kernel
theorem dX6_owed_1 : decode cX6_owed 1 = .ok (.iload_n 1, 1) := by decide +kernel
theorem dX6_owed_2 : decode cX6_owed 2 = .ok (.invokevirtual 223, 3) := by decide +kernel
theorem dX6_owed_5 : decode cX6_owed 5 = .ok (.aload_n 0, 1) := by decide +kernel
theorem dX6_owed_6 : decode cX6_owed 6 = .ok (.getfield 32, 3) := by decide +kernel
theorem dX6_owed_9 : decode cX6_owed 9 = .ok (.aload_n 0, 1) := by decide +kernel
theorem dX6_owed_10 : decode cX6_owed 10 = .ok (.getfield 49, 3) := by decide +kernel
theorem dX6_owed_13 : decode cX6_owed 13 = .ok (.iconst 1, 1) := by decide +kernel
theorem dX6_owed_14 : decode cX6_owed 14 = .ok (.isub, 1) := by decide +kernel
theorem dX6_owed_15 : decode cX6_owed 15 = .ok (.iconst 1, 1) := by decide +kernel
theorem dX6_owed_16 : decode cX6_owed 16 = .ok (.invokevirtual 206, 3) := by decide +kernel
theorem dX6_owed_19 : decode cX6_owed 19 = .ok (.iconst 0, 1) := by decide +kernel
theorem dX6_owed_20 : decode cX6_owed 20 = .ok (.istore_n 2, 1) := by decide +kernel
theorem dX6_owed_21 : decode cX6_owed 21 = .ok (.iload_n 2, 1) := by decide +kernel
theorem dX6_owed_22 : decode cX6_owed 22 = .ok (.aload_n 0, 1) := by decide +kernel
theorem dX6_owed_23 : decode cX6_owed 23 = .ok (.getfield 49, 3) := by decide +kernel
theorem dX6_owed_26 : decode cX6_owed 26 = .ok (.if_icmp .ge 27, 3) := by decide +kernel
theorem dX6_owed_29 : decode cX6_owed 29 = .ok (.aload_n 0, 1) := by decide +kernel
theorem dX6_owed_30 : decode cX6_owed 30 = .ok (.getfield 39, 3) := by decide +kernel
theorem dX6_owed_33 : decode cX6_owed 33 = .ok (.iload_n 2, 1) := by decide +kernel
theorem dX6_owed_34 : decode cX6_owed 34 = .ok (.aload_n 0, 1) := by decide +kernel
theorem dX6_owed_35 : decode cX6_owed 35 = .ok (.getfield 32, 3) := by decide +kernel
theorem dX6_owed_38 : decode cX6_owed 38 = .ok (.iconst 0, 1) := by decide +kernel
theorem dX6_owed_39 : decode cX6_owed 39 = .ok (.iload_n 2, 1) := by decide +kernel
theorem dX6_owed_40 : decode cX6_owed 40 = .ok (.invokevirtual 152, 3) := by decide +kernel
theorem dX6_owed_43 : decode cX6_owed 43 = .ok (.invokestatic 156, 3) := by decide +kernel
theorem dX6_owed_46 : decode cX6_owed 46 = .ok (.iastore, 1) := by decide +kernel
theorem dX6_owed_47 : decode cX6_owed 47 = .ok (.iinc 2 1, 3) := by decide +kernel
theorem dX6_owed_50 : decode cX6_owed 50 = .ok (.goto (-29), 3) := by decide +kernel
theorem dX6_owed_53 : decode cX6_owed 53 = .ok (.aload_n 0, 1) := by decide +kernel
theorem dX6_owed_54 : decode cX6_owed 54 = .ok (.getfield 45, 3) := by decide +kernel
theorem dX6_owed_57 : decode cX6_owed 57 = .ok (.iload_n 1, 1) := by decide +kernel
theorem dX6_owed_58 : decode cX6_owed 58 = .ok (.invokevirtual 93, 3) := by decide +kernel
theorem dX6_owed_61 : decode cX6_owed 61 = .ok (.checkcast 160, 3) := by decide +kernel
theorem dX6_owed_64 : decode cX6_owed 64 = .ok (.astore_n 2, 1) := by decide +kernel
theorem dX6_owed_65 : decode cX6_owed 65 = .ok (.aload_n 2, 1) := by decide +kernel
theorem dX6_owed_66 : decode cX6_owed 66 = .ok (.aload_n 0, 1) := by decide +kernel
theorem dX6_owed_67 : decode cX6_owed 67 = .ok (.getfield 49, 3) := by decide +kernel
theorem dX6_owed_70 : decode cX6_owed 70 = .ok (.aload_n 0, 1) := by decide +kernel
theorem dX6_owed_71 : decode cX6_owed 71 = .ok (.getfield 39, 3) := by decide +kernel
theorem dX6_owed_74 : decode cX6_owed 74 = .ok (.invokevirtual 241, 3) := by decide +kernel
theorem dX6_owed_77 : decode cX6_owed 77 = .ok (.aload_n 2, 1) := by decide +kernel
theorem dX6_owed_78 : decode cX6_owed 78 = .ok (.getfield 236, 3) := by decide +kernel
theorem dX6_owed_81 : decode cX6_owed 81 = .ok (.lsub, 1) := by decide +kernel
theorem dX6_owed_82 : decode cX6_owed 82 = .ok (.lreturn, 1) := by decide +kernel
set_option maxRecDepth 20000 in
theorem ggX6_count_Jx4a65c_size_8abf5 : GoodIn wsX6_count wsJx4a65c_size_8abf5 := goodIn_r _ [10, 11, 30, 31, 32] (by decide +kernel) (by decide +kernel)
set_option maxRecDepth 20000 in
theorem gX6_count_Jx4a65c_size_8abf5 : GoodIn wsX6_count (wsV RX6 64 RJx4a65c yJx4a65c_size_8abf5 wsJx4a65c_size_8abf5) := goodIn_app (goodIn_of _ (by decide +kernel)) ggX6_count_Jx4a65c_size_8abf5
theorem dX6_count_0 : decode cX6_count 0 = .ok (.iload_n 1, 1) := by decide +kernel
theorem dX6_count_1 : decode cX6_count 1 = .ok (.tableswitch 75 0 4 #[35, 46, 51, 59, 67], 35) := by decide +kernel
theorem dX6_count_36 : decode cX6_count 36 = .ok (.aload_n 0, 1) := by decide +kernel
theorem dX6_count_37 : decode cX6_count 37 = .ok (.getfield 12, 3) := by decide +kernel
theorem dX6_count_40 : decode cX6_count 40 = .ok (.getfield 61, 3) := by decide +kernel
theorem dX6_count_43 : decode cX6_count 43 = .ok (.invokevirtual 64, 3) := by decide +kernel
theorem dX6_count_46 : decode cX6_count 46 = .ok (.ireturn, 1) := by decide +kernel
theorem dX6_count_47 : decode cX6_count 47 = .ok (.aload_n 0, 1) := by decide +kernel
theorem dX6_count_48 : decode cX6_count 48 = .ok (.getfield 49, 3) := by decide +kernel
theorem dX6_count_51 : decode cX6_count 51 = .ok (.ireturn, 1) := by decide +kernel
theorem dX6_count_52 : decode cX6_count 52 = .ok (.aload_n 0, 1) := by decide +kernel
theorem dX6_count_53 : decode cX6_count 53 = .ok (.getfield 12, 3) := by decide +kernel
theorem dX6_count_56 : decode cX6_count 56 = .ok (.getfield 115, 3) := by decide +kernel
theorem dX6_count_59 : decode cX6_count 59 = .ok (.ireturn, 1) := by decide +kernel
theorem dX6_count_60 : decode cX6_count 60 = .ok (.aload_n 0, 1) := by decide +kernel
theorem dX6_count_61 : decode cX6_count 61 = .ok (.getfield 45, 3) := by decide +kernel
theorem dX6_count_64 : decode cX6_count 64 = .ok (.invokevirtual 64, 3) := by decide +kernel
theorem dX6_count_67 : decode cX6_count 67 = .ok (.ireturn, 1) := by decide +kernel
theorem dX6_count_68 : decode cX6_count 68 = .ok (.aload_n 0, 1) := by decide +kernel
theorem dX6_count_69 : decode cX6_count 69 = .ok (.getfield 12, 3) := by decide +kernel
theorem dX6_count_72 : decode cX6_count 72 = .ok (.getfield 245, 3) := by decide +kernel
theorem dX6_count_75 : decode cX6_count 75 = .ok (.ireturn, 1) := by decide +kernel
theorem dX6_count_76 : decode cX6_count 76 = .ok (.new 133, 3) := by decide +kernel
theorem dX6_count_79 : decode cX6_count 79 = .ok (.dup, 1) := by decide +kernel
theorem dX6_count_80 : decode cX6_count 80 = .ok (.ldc 248, 2) := by decide +kernel
theorem dX6_count_82 : decode cX6_count 82 = .ok (.invokespecial 137, 3) := by decide +kernel
theorem dX6_count_85 : decode cX6_count 85 = .ok (.athrow, 1) := by decide +kernel
theorem dX6_requireGroup_0 : decode cX6_requireGroup 0 = .ok (.iload_n 0, 1) := by decide +kernel
theorem dX6_requireGroup_1 : decode cX6_requireGroup 1 = .ok (.ifCond .lt 8, 3) := by decide +kernel
theorem dX6_requireGroup_4 : decode cX6_requireGroup 4 = .ok (.iload_n 0, 1) := by decide +kernel
theorem dX6_requireGroup_5 : decode cX6_requireGroup 5 = .ok (.iconst 4, 1) := by decide +kernel
theorem dX6_requireGroup_6 : decode cX6_requireGroup 6 = .ok (.if_icmp .lt 13, 3) := by decide +kernel
theorem dX6_requireGroup_9 : decode cX6_requireGroup 9 = .ok (.new 133, 3) := by decide +kernel
theorem dX6_requireGroup_12 : decode cX6_requireGroup 12 = .ok (.dup, 1) := by decide +kernel
theorem dX6_requireGroup_13 : decode cX6_requireGroup 13 = .ok (.ldc 250, 2) := by decide +kernel
theorem dX6_requireGroup_15 : decode cX6_requireGroup 15 = .ok (.invokespecial 137, 3) := by decide +kernel
theorem dX6_requireGroup_18 : decode cX6_requireGroup 18 = .ok (.athrow, 1) := by decide +kernel
theorem dX6_requireGroup_19 : decode cX6_requireGroup 19 = .ok (.return_, 1) := by decide +kernel
theorem dX6_requireOutlet_0 : decode cX6_requireOutlet 0 = .ok (.iload_n 0, 1) := by decide +kernel
theorem dX6_requireOutlet_1 : decode cX6_requireOutlet 1 = .ok (.ifCond .lt 8, 3) := by decide +kernel
theorem dX6_requireOutlet_4 : decode cX6_requireOutlet 4 = .ok (.iload_n 0, 1) := by decide +kernel
theorem dX6_requireOutlet_5 : decode cX6_requireOutlet 5 = .ok (.iconst 4, 1) := by decide +kernel
theorem dX6_requireOutlet_6 : decode cX6_requireOutlet 6 = .ok (.if_icmp .lt 13, 3) := by decide +kernel
theorem dX6_requireOutlet_9 : decode cX6_requireOutlet 9 = .ok (.new 133, 3) := by decide +kernel
theorem dX6_requireOutlet_12 : decode cX6_requireOutlet 12 = .ok (.dup, 1) := by decide +kernel
theorem dX6_requireOutlet_13 : decode cX6_requireOutlet 13 = .ok (.ldc 252, 2) := by decide +kernel
theorem dX6_requireOutlet_15 : decode cX6_requireOutlet 15 = .ok (.invokespecial 137, 3) := by decide +kernel
theorem dX6_requireOutlet_18 : decode cX6_requireOutlet 18 = .ok (.athrow, 1) := by decide +kernel
theorem dX6_requireOutlet_19 : decode cX6_requireOutlet 19 = .ok (.return_, 1) := by decide +kernel
theorem dX6_requireKind_0 : decode cX6_requireKind 0 = .ok (.iload_n 0, 1) := by decide +kernel
theorem dX6_requireKind_1 : decode cX6_requireKind 1 = .ok (.ifCond .lt 8, 3) := by decide +kernel
theorem dX6_requireKind_4 : decode cX6_requireKind 4 = .ok (.iload_n 0, 1) := by decide +kernel
theorem dX6_requireKind_5 : decode cX6_requireKind 5 = .ok (.iconst 5, 1) := by decide +kernel
theorem dX6_requireKind_6 : decode cX6_requireKind 6 = .ok (.if_icmp .lt 13, 3) := by decide +kernel
theorem dX6_requireKind_9 : decode cX6_requireKind 9 = .ok (.new 133, 3) := by decide +kernel
theorem dX6_requireKind_12 : decode cX6_requireKind 12 = .ok (.dup, 1) := by decide +kernel
theorem dX6_requireKind_13 : decode cX6_requireKind 13 = .ok (.ldc 254, 2) := by decide +kernel
theorem dX6_requireKind_15 : decode cX6_requireKind 15 = .ok (.invokespecial 137, 3) := by decide +kernel
theorem dX6_requireKind_18 : decode cX6_requireKind 18 = .ok (.athrow, 1) := by decide +kernel
theorem dX6_requireKind_19 : decode cX6_requireKind 19 = .ok (.return_, 1) := by decide +kernel
set_option maxRecDepth 20000 in
theorem ggX6_requireItem_Jx4a65c_size_8abf5 : GoodIn wsX6_requireItem wsJx4a65c_size_8abf5 := goodIn_r _ [8, 9, 28, 29, 30] (by decide +kernel) (by decide +kernel)
set_option maxRecDepth 20000 in
theorem gX6_requireItem_Jx4a65c_size_8abf5 : GoodIn wsX6_requireItem (wsV RX6 64 RJx4a65c yJx4a65c_size_8abf5 wsJx4a65c_size_8abf5) := goodIn_app (goodIn_of _ (by decide +kernel)) ggX6_requireItem_Jx4a65c_size_8abf5
theorem dX6_requireItem_0 : decode cX6_requireItem 0 = .ok (.iload_n 1, 1) := by decide +kernel
theorem dX6_requireItem_1 : decode cX6_requireItem 1 = .ok (.ifCond .lt 17, 3) := by decide +kernel
theorem dX6_requireItem_4 : decode cX6_requireItem 4 = .ok (.iload_n 1, 1) := by decide +kernel
theorem dX6_requireItem_5 : decode cX6_requireItem 5 = .ok (.aload_n 0, 1) := by decide +kernel
theorem dX6_requireItem_6 : decode cX6_requireItem 6 = .ok (.getfield 12, 3) := by decide +kernel
theorem dX6_requireItem_9 : decode cX6_requireItem 9 = .ok (.getfield 61, 3) := by decide +kernel
theorem dX6_requireItem_12 : decode cX6_requireItem 12 = .ok (.invokevirtual 64, 3) := by decide +kernel
theorem dX6_requireItem_15 : decode cX6_requireItem 15 = .ok (.if_icmp .lt 14, 3) := by decide +kernel
theorem dX6_requireItem_18 : decode cX6_requireItem 18 = .ok (.new 133, 3) := by decide +kernel
theorem dX6_requireItem_21 : decode cX6_requireItem 21 = .ok (.dup, 1) := by decide +kernel
theorem dX6_requireItem_22 : decode cX6_requireItem 22 = .ok (.ldc_w 256, 3) := by decide +kernel
theorem dX6_requireItem_25 : decode cX6_requireItem 25 = .ok (.invokespecial 137, 3) := by decide +kernel
theorem dX6_requireItem_28 : decode cX6_requireItem 28 = .ok (.athrow, 1) := by decide +kernel
theorem dX6_requireItem_29 : decode cX6_requireItem 29 = .ok (.return_, 1) := by decide +kernel
set_option maxRecDepth 20000 in
theorem ggX6_requireContract_Jx4a65c_size_8abf5 : GoodIn wsX6_requireContract wsJx4a65c_size_8abf5 := goodIn_r _ [8, 9, 18, 19, 20] (by decide +kernel) (by decide +kernel)
set_option maxRecDepth 20000 in
theorem gX6_requireContract_Jx4a65c_size_8abf5 : GoodIn wsX6_requireContract (wsV RX6 64 RJx4a65c yJx4a65c_size_8abf5 wsJx4a65c_size_8abf5) := goodIn_app (goodIn_of _ (by decide +kernel)) ggX6_requireContract_Jx4a65c_size_8abf5
theorem dX6_requireContract_0 : decode cX6_requireContract 0 = .ok (.iload_n 1, 1) := by decide +kernel
theorem dX6_requireContract_1 : decode cX6_requireContract 1 = .ok (.ifCond .lt 14, 3) := by decide +kernel
theorem dX6_requireContract_4 : decode cX6_requireContract 4 = .ok (.iload_n 1, 1) := by decide +kernel
theorem dX6_requireContract_5 : decode cX6_requireContract 5 = .ok (.aload_n 0, 1) := by decide +kernel
theorem dX6_requireContract_6 : decode cX6_requireContract 6 = .ok (.getfield 45, 3) := by decide +kernel
theorem dX6_requireContract_9 : decode cX6_requireContract 9 = .ok (.invokevirtual 64, 3) := by decide +kernel
theorem dX6_requireContract_12 : decode cX6_requireContract 12 = .ok (.if_icmp .lt 14, 3) := by decide +kernel
theorem dX6_requireContract_15 : decode cX6_requireContract 15 = .ok (.new 133, 3) := by decide +kernel
theorem dX6_requireContract_18 : decode cX6_requireContract 18 = .ok (.dup, 1) := by decide +kernel
theorem dX6_requireContract_19 : decode cX6_requireContract 19 = .ok (.ldc_w 258, 3) := by decide +kernel
theorem dX6_requireContract_22 : decode cX6_requireContract 22 = .ok (.invokespecial 137, 3) := by decide +kernel
theorem dX6_requireContract_25 : decode cX6_requireContract 25 = .ok (.athrow, 1) := by decide +kernel
theorem dX6_requireContract_26 : decode cX6_requireContract 26 = .ok (.return_, 1) := by decide +kernel
theorem dX6_requirePublished_0 : decode cX6_requirePublished 0 = .ok (.iload_n 1, 1) := by decide +kernel
theorem dX6_requirePublished_1 : decode cX6_requirePublished 1 = .ok (.ifCond .lt 11, 3) := by decide +kernel
theorem dX6_requirePublished_4 : decode cX6_requirePublished 4 = .ok (.iload_n 1, 1) := by decide +kernel
theorem dX6_requirePublished_5 : decode cX6_requirePublished 5 = .ok (.aload_n 0, 1) := by decide +kernel
theorem dX6_requirePublished_6 : decode cX6_requirePublished 6 = .ok (.getfield 49, 3) := by decide +kernel
theorem dX6_requirePublished_9 : decode cX6_requirePublished 9 = .ok (.if_icmp .lt 14, 3) := by decide +kernel
theorem dX6_requirePublished_12 : decode cX6_requirePublished 12 = .ok (.new 133, 3) := by decide +kernel
theorem dX6_requirePublished_15 : decode cX6_requirePublished 15 = .ok (.dup, 1) := by decide +kernel
theorem dX6_requirePublished_16 : decode cX6_requirePublished 16 = .ok (.ldc_w 260, 3) := by decide +kernel
theorem dX6_requirePublished_19 : decode cX6_requirePublished 19 = .ok (.invokespecial 137, 3) := by decide +kernel
theorem dX6_requirePublished_22 : decode cX6_requirePublished 22 = .ok (.athrow, 1) := by decide +kernel
theorem dX6_requirePublished_23 : decode cX6_requirePublished 23 = .ok (.return_, 1) := by decide +kernel
theorem dX6_requireRange_0 : decode cX6_requireRange 0 = .ok (.iload_n 0, 1) := by decide +kernel
theorem dX6_requireRange_1 : decode cX6_requireRange 1 = .ok (.iload_n 1, 1) := by decide +kernel
theorem dX6_requireRange_2 : decode cX6_requireRange 2 = .ok (.if_icmp .lt 8, 3) := by decide +kernel
theorem dX6_requireRange_5 : decode cX6_requireRange 5 = .ok (.iload_n 0, 1) := by decide +kernel
theorem dX6_requireRange_6 : decode cX6_requireRange 6 = .ok (.iload_n 2, 1) := by decide +kernel
theorem dX6_requireRange_7 : decode cX6_requireRange 7 = .ok (.if_icmp .le 14, 3) := by decide +kernel
theorem dX6_requireRange_10 : decode cX6_requireRange 10 = .ok (.new 262, 3) := by decide +kernel
theorem dX6_requireRange_13 : decode cX6_requireRange 13 = .ok (.dup, 1) := by decide +kernel
theorem dX6_requireRange_14 : decode cX6_requireRange 14 = .ok (.ldc_w 264, 3) := by decide +kernel
theorem dX6_requireRange_17 : decode cX6_requireRange 17 = .ok (.invokespecial 266, 3) := by decide +kernel
theorem dX6_requireRange_20 : decode cX6_requireRange 20 = .ok (.athrow, 1) := by decide +kernel
theorem dX6_requireRange_21 : decode cX6_requireRange 21 = .ok (.return_, 1) := by decide +kernel
theorem dX6_requireCollecting_0 : decode cX6_requireCollecting 0 = .ok (.aload_n 0, 1) := by decide +kernel
theorem dX6_requireCollecting_1 : decode cX6_requireCollecting 1 = .ok (.getfield 49, 3) := by decide +kernel
theorem dX6_requireCollecting_4 : decode cX6_requireCollecting 4 = .ok (.bipush 24, 2) := by decide +kernel
theorem dX6_requireCollecting_6 : decode cX6_requireCollecting 6 = .ok (.if_icmp .lt 14, 3) := by decide +kernel
theorem dX6_requireCollecting_9 : decode cX6_requireCollecting 9 = .ok (.new 68, 3) := by decide +kernel
theorem dX6_requireCollecting_12 : decode cX6_requireCollecting 12 = .ok (.dup, 1) := by decide +kernel
theorem dX6_requireCollecting_13 : decode cX6_requireCollecting 13 = .ok (.ldc_w 267, 3) := by decide +kernel
theorem dX6_requireCollecting_16 : decode cX6_requireCollecting 16 = .ok (.invokespecial 72, 3) := by decide +kernel
theorem dX6_requireCollecting_19 : decode cX6_requireCollecting 19 = .ok (.athrow, 1) := by decide +kernel
theorem dX6_requireCollecting_20 : decode cX6_requireCollecting 20 = .ok (.return_, 1) := by decide +kernel
set_option maxRecDepth 20000 in
theorem ggX6_requireQuote_X2_hasQuote : GoodIn wsX6_requireQuote wsX2_hasQuote := goodIn_r _ [8, 9, 18, 19, 20, 21, 22, 23, 24, 25, 26, 27] (by decide +kernel) (by decide +kernel)
set_option maxRecDepth 20000 in
theorem gX6_requireQuote_X2_hasQuote : GoodIn wsX6_requireQuote (wsV RX6 107 RX2 yX2_hasQuote wsX2_hasQuote) := goodIn_app (goodIn_of _ (by decide +kernel)) ggX6_requireQuote_X2_hasQuote
theorem dX6_requireQuote_0 : decode cX6_requireQuote 0 = .ok (.aload_n 0, 1) := by decide +kernel
theorem dX6_requireQuote_1 : decode cX6_requireQuote 1 = .ok (.getfield 12, 3) := by decide +kernel
theorem dX6_requireQuote_4 : decode cX6_requireQuote 4 = .ok (.iload_n 1, 1) := by decide +kernel
theorem dX6_requireQuote_5 : decode cX6_requireQuote 5 = .ok (.invokevirtual 107, 3) := by decide +kernel
theorem dX6_requireQuote_8 : decode cX6_requireQuote 8 = .ok (.ifCond .ne 14, 3) := by decide +kernel
theorem dX6_requireQuote_11 : decode cX6_requireQuote 11 = .ok (.new 68, 3) := by decide +kernel
theorem dX6_requireQuote_14 : decode cX6_requireQuote 14 = .ok (.dup, 1) := by decide +kernel
theorem dX6_requireQuote_15 : decode cX6_requireQuote 15 = .ok (.ldc_w 269, 3) := by decide +kernel
theorem dX6_requireQuote_18 : decode cX6_requireQuote 18 = .ok (.invokespecial 72, 3) := by decide +kernel
theorem dX6_requireQuote_21 : decode cX6_requireQuote 21 = .ok (.athrow, 1) := by decide +kernel
theorem dX6_requireQuote_22 : decode cX6_requireQuote 22 = .ok (.return_, 1) := by decide +kernel
theorem dX6_slotOf_0 : decode cX6_slotOf 0 = .ok (.iload_n 2, 1) := by decide +kernel
theorem dX6_slotOf_1 : decode cX6_slotOf 1 = .ok (.bipush 48, 2) := by decide +kernel
theorem dX6_slotOf_3 : decode cX6_slotOf 3 = .ok (.imul, 1) := by decide +kernel
theorem dX6_slotOf_4 : decode cX6_slotOf 4 = .ok (.iload_n 0, 1) := by decide +kernel
theorem dX6_slotOf_5 : decode cX6_slotOf 5 = .ok (.iconst 4, 1) := by decide +kernel
theorem dX6_slotOf_6 : decode cX6_slotOf 6 = .ok (.imul, 1) := by decide +kernel
theorem dX6_slotOf_7 : decode cX6_slotOf 7 = .ok (.iadd, 1) := by decide +kernel
theorem dX6_slotOf_8 : decode cX6_slotOf 8 = .ok (.iload_n 1, 1) := by decide +kernel
theorem dX6_slotOf_9 : decode cX6_slotOf 9 = .ok (.iadd, 1) := by decide +kernel
theorem dX6_slotOf_10 : decode cX6_slotOf 10 = .ok (.ireturn, 1) := by decide +kernel
theorem dX6_numberOf_0 : decode cX6_numberOf 0 = .ok (.dload_n 0, 1) := by decide +kernel
theorem dX6_numberOf_1 : decode cX6_numberOf 1 = .ok (.ldc2_w 271, 3) := by decide +kernel
theorem dX6_numberOf_4 : decode cX6_numberOf 4 = .ok (.dmul, 1) := by decide +kernel
theorem dX6_numberOf_5 : decode cX6_numberOf 5 = .ok (.ldc2_w 273, 3) := by decide +kernel
theorem dX6_numberOf_8 : decode cX6_numberOf 8 = .ok (.dadd, 1) := by decide +kernel
theorem dX6_numberOf_9 : decode cX6_numberOf 9 = .ok (.dstore_n 2, 1) := by decide +kernel
theorem dX6_numberOf_10 : decode cX6_numberOf 10 = .ok (.dload_n 2, 1) := by decide +kernel
theorem dX6_numberOf_11 : decode cX6_numberOf 11 = .ok (.ldc2_w 275, 3) := by decide +kernel
theorem dX6_numberOf_14 : decode cX6_numberOf 14 = .ok (.dcmp .l, 1) := by decide +kernel
theorem dX6_numberOf_15 : decode cX6_numberOf 15 = .ok (.ifCond .lt 7, 3) := by decide +kernel
theorem dX6_numberOf_18 : decode cX6_numberOf 18 = .ok (.ldc_w 277, 3) := by decide +kernel
theorem dX6_numberOf_21 : decode cX6_numberOf 21 = .ok (.ireturn, 1) := by decide +kernel
theorem dX6_numberOf_22 : decode cX6_numberOf 22 = .ok (.dload_n 2, 1) := by decide +kernel
theorem dX6_numberOf_23 : decode cX6_numberOf 23 = .ok (.dconst 1, 1) := by decide +kernel
theorem dX6_numberOf_24 : decode cX6_numberOf 24 = .ok (.dcmp .g, 1) := by decide +kernel
theorem dX6_numberOf_25 : decode cX6_numberOf 25 = .ok (.ifCond .ge 7, 3) := by decide +kernel
theorem dX6_numberOf_28 : decode cX6_numberOf 28 = .ok (.iconst 1, 1) := by decide +kernel
theorem dX6_numberOf_29 : decode cX6_numberOf 29 = .ok (.goto 5, 3) := by decide +kernel
theorem dX6_numberOf_32 : decode cX6_numberOf 32 = .ok (.dload_n 2, 1) := by decide +kernel
theorem dX6_numberOf_33 : decode cX6_numberOf 33 = .ok (.d2i, 1) := by decide +kernel
theorem dX6_numberOf_34 : decode cX6_numberOf 34 = .ok (.ireturn, 1) := by decide +kernel
