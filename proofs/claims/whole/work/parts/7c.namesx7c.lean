theorem dX7_price_9 : decode cX7_price 9 = .ok (.iload_n 2, 1) := by decide +kernel
theorem dX7_price_10 : decode cX7_price 10 = .ok (.invokestatic 115, 3) := by decide +kernel
theorem dX7_price_13 : decode cX7_price 13 = .ok (.ifCond .eq 15, 3) := by decide +kernel
theorem dX7_price_16 : decode cX7_price 16 = .ok (.aload_n 0, 1) := by decide +kernel
theorem dX7_price_17 : decode cX7_price 17 = .ok (.iload_n 3, 1) := by decide +kernel
theorem dX7_price_18 : decode cX7_price 18 = .ok (.invokevirtual 185, 3) := by decide +kernel
theorem dX7_price_21 : decode cX7_price 21 = .ok (.ifCond .eq 7, 3) := by decide +kernel
theorem dX7_price_24 : decode cX7_price 24 = .ok (.iconst 0, 1) := by decide +kernel
theorem dX7_price_25 : decode cX7_price 25 = .ok (.goto 4, 3) := by decide +kernel
theorem dX7_price_28 : decode cX7_price 28 = .ok (.iconst 1, 1) := by decide +kernel
theorem dX7_price_29 : decode cX7_price 29 = .ok (.putfield 94, 3) := by decide +kernel
theorem dX7_price_32 : decode cX7_price 32 = .ok (.aload_n 0, 1) := by decide +kernel
theorem dX7_price_33 : decode cX7_price 33 = .ok (.getfield 94, 3) := by decide +kernel
theorem dX7_price_36 : decode cX7_price 36 = .ok (.ifCond .le 7, 3) := by decide +kernel
theorem dX7_price_39 : decode cX7_price 39 = .ok (.dconst 0, 1) := by decide +kernel
theorem dX7_price_40 : decode cX7_price 40 = .ok (.goto 14, 3) := by decide +kernel
theorem dX7_price_43 : decode cX7_price 43 = .ok (.aload_n 0, 1) := by decide +kernel
theorem dX7_price_44 : decode cX7_price 44 = .ok (.getfield 47, 3) := by decide +kernel
theorem dX7_price_47 : decode cX7_price 47 = .ok (.iload_n 3, 1) := by decide +kernel
theorem dX7_price_48 : decode cX7_price 48 = .ok (.iload_n 1, 1) := by decide +kernel
theorem dX7_price_49 : decode cX7_price 49 = .ok (.iload_n 2, 1) := by decide +kernel
theorem dX7_price_50 : decode cX7_price 50 = .ok (.invokestatic 119, 3) := by decide +kernel
theorem dX7_price_53 : decode cX7_price 53 = .ok (.daload, 1) := by decide +kernel
theorem dX7_price_54 : decode cX7_price 54 = .ok (.dreturn, 1) := by decide +kernel
set_option maxRecDepth 20000 in
theorem ggX7_isMatched_X7_isItem : GoodIn wsX7_isMatched wsX7_isItem := goodIn_r _ [7, 8, 9, 10, 6, 11, 23, 24, 25, 26, 27, 28, 29, 30, 31, 32, 33, 34, 35, 36, 37, 38, 39, 40, 41, 42, 43, 44, 45, 46, 47, 48, 49, 50, 51, 52, 53, 54, 55] (by decide +kernel) (by decide +kernel)
set_option maxRecDepth 20000 in
theorem gX7_isMatched_X7_isItem : GoodIn wsX7_isMatched (wsV RX7 112 RX7 yX7_isItem wsX7_isItem) := goodIn_app (goodIn_of _ (by decide +kernel)) ggX7_isMatched_X7_isItem
set_option maxRecDepth 20000 in
theorem ggX7_isMatched_X7_isOutlet : GoodIn wsX7_isMatched wsX7_isOutlet := goodIn_r _ [14, 9, 10, 6, 11] (by decide +kernel) (by decide +kernel)
set_option maxRecDepth 20000 in
theorem gX7_isMatched_X7_isOutlet : GoodIn wsX7_isMatched (va_wsS RX7 115 yX7_isOutlet wsX7_isOutlet) := goodIn_app (goodIn_of _ (by decide +kernel)) ggX7_isMatched_X7_isOutlet
set_option maxRecDepth 20000 in
theorem ggX7_isMatched_X7_isPublished : GoodIn wsX7_isMatched wsX7_isPublished := goodIn_r _ [18, 19, 9, 10, 6, 11, 23, 24, 25, 26, 27, 28, 29, 30, 31, 32, 33, 34, 35, 36, 37, 38, 39, 40, 41, 42, 43, 44, 45, 46, 47, 48, 49, 50, 51, 52, 53, 54, 55] (by decide +kernel) (by decide +kernel)
set_option maxRecDepth 20000 in
theorem gX7_isMatched_X7_isPublished : GoodIn wsX7_isMatched (wsV RX7 185 RX7 yX7_isPublished wsX7_isPublished) := goodIn_app (goodIn_of _ (by decide +kernel)) ggX7_isMatched_X7_isPublished
set_option maxRecDepth 20000 in
theorem ggX7_isMatched_X7_cell : GoodIn wsX7_isMatched wsX7_cell := goodIn_r _ [22] (by decide +kernel) (by decide +kernel)
set_option maxRecDepth 20000 in
theorem gX7_isMatched_X7_cell : GoodIn wsX7_isMatched (va_wsS RX7 119 yX7_cell wsX7_cell) := goodIn_app (goodIn_of _ (by decide +kernel)) ggX7_isMatched_X7_cell
theorem dX7_isMatched_0 : decode cX7_isMatched 0 = .ok (.aload_n 0, 1) := by decide +kernel
theorem dX7_isMatched_1 : decode cX7_isMatched 1 = .ok (.aload_n 0, 1) := by decide +kernel
theorem dX7_isMatched_2 : decode cX7_isMatched 2 = .ok (.iload_n 1, 1) := by decide +kernel
theorem dX7_isMatched_3 : decode cX7_isMatched 3 = .ok (.invokevirtual 112, 3) := by decide +kernel
theorem dX7_isMatched_6 : decode cX7_isMatched 6 = .ok (.ifCond .eq 22, 3) := by decide +kernel
theorem dX7_isMatched_9 : decode cX7_isMatched 9 = .ok (.iload_n 2, 1) := by decide +kernel
theorem dX7_isMatched_10 : decode cX7_isMatched 10 = .ok (.invokestatic 115, 3) := by decide +kernel
theorem dX7_isMatched_13 : decode cX7_isMatched 13 = .ok (.ifCond .eq 15, 3) := by decide +kernel
theorem dX7_isMatched_16 : decode cX7_isMatched 16 = .ok (.aload_n 0, 1) := by decide +kernel
theorem dX7_isMatched_17 : decode cX7_isMatched 17 = .ok (.iload_n 3, 1) := by decide +kernel
theorem dX7_isMatched_18 : decode cX7_isMatched 18 = .ok (.invokevirtual 185, 3) := by decide +kernel
theorem dX7_isMatched_21 : decode cX7_isMatched 21 = .ok (.ifCond .eq 7, 3) := by decide +kernel
theorem dX7_isMatched_24 : decode cX7_isMatched 24 = .ok (.iconst 0, 1) := by decide +kernel
theorem dX7_isMatched_25 : decode cX7_isMatched 25 = .ok (.goto 4, 3) := by decide +kernel
theorem dX7_isMatched_28 : decode cX7_isMatched 28 = .ok (.iconst 1, 1) := by decide +kernel
theorem dX7_isMatched_29 : decode cX7_isMatched 29 = .ok (.putfield 94, 3) := by decide +kernel
theorem dX7_isMatched_32 : decode cX7_isMatched 32 = .ok (.aload_n 0, 1) := by decide +kernel
theorem dX7_isMatched_33 : decode cX7_isMatched 33 = .ok (.getfield 94, 3) := by decide +kernel
theorem dX7_isMatched_36 : decode cX7_isMatched 36 = .ok (.ifCond .ne 21, 3) := by decide +kernel
theorem dX7_isMatched_39 : decode cX7_isMatched 39 = .ok (.aload_n 0, 1) := by decide +kernel
theorem dX7_isMatched_40 : decode cX7_isMatched 40 = .ok (.getfield 51, 3) := by decide +kernel
theorem dX7_isMatched_43 : decode cX7_isMatched 43 = .ok (.iload_n 3, 1) := by decide +kernel
theorem dX7_isMatched_44 : decode cX7_isMatched 44 = .ok (.iload_n 1, 1) := by decide +kernel
theorem dX7_isMatched_45 : decode cX7_isMatched 45 = .ok (.iload_n 2, 1) := by decide +kernel
theorem dX7_isMatched_46 : decode cX7_isMatched 46 = .ok (.invokestatic 119, 3) := by decide +kernel
theorem dX7_isMatched_49 : decode cX7_isMatched 49 = .ok (.baload, 1) := by decide +kernel
theorem dX7_isMatched_50 : decode cX7_isMatched 50 = .ok (.ifCond .eq 7, 3) := by decide +kernel
theorem dX7_isMatched_53 : decode cX7_isMatched 53 = .ok (.iconst 1, 1) := by decide +kernel
theorem dX7_isMatched_54 : decode cX7_isMatched 54 = .ok (.goto 4, 3) := by decide +kernel
theorem dX7_isMatched_57 : decode cX7_isMatched 57 = .ok (.iconst 0, 1) := by decide +kernel
theorem dX7_isMatched_58 : decode cX7_isMatched 58 = .ok (.ireturn, 1) := by decide +kernel
set_option maxRecDepth 20000 in
theorem ggX7_relative_X7_isItem : GoodIn wsX7_relative wsX7_isItem := goodIn_r _ [7, 8, 9, 10, 6, 11, 17, 18, 19, 20, 21, 22, 23, 24, 25, 26, 27, 28, 29, 30, 31, 32, 33, 34, 35, 36, 37, 38, 39, 40, 41, 42, 43, 44, 45, 46, 47, 48, 49] (by decide +kernel) (by decide +kernel)
set_option maxRecDepth 20000 in
theorem gX7_relative_X7_isItem : GoodIn wsX7_relative (wsV RX7 112 RX7 yX7_isItem wsX7_isItem) := goodIn_app (goodIn_of _ (by decide +kernel)) ggX7_relative_X7_isItem
set_option maxRecDepth 20000 in
theorem ggX7_relative_X7_isPublished : GoodIn wsX7_relative wsX7_isPublished := goodIn_r _ [15, 16, 9, 10, 6, 11, 17, 18, 19, 20, 21, 22, 23, 24, 25, 26, 27, 28, 29, 30, 31, 32, 33, 34, 35, 36, 37, 38, 39, 40, 41, 42, 43, 44, 45, 46, 47, 48, 49] (by decide +kernel) (by decide +kernel)
set_option maxRecDepth 20000 in
theorem gX7_relative_X7_isPublished : GoodIn wsX7_relative (wsV RX7 185 RX7 yX7_isPublished wsX7_isPublished) := goodIn_app (goodIn_of _ (by decide +kernel)) ggX7_relative_X7_isPublished
theorem dX7_relative_0 : decode cX7_relative 0 = .ok (.aload_n 0, 1) := by decide +kernel
theorem dX7_relative_1 : decode cX7_relative 1 = .ok (.aload_n 0, 1) := by decide +kernel
theorem dX7_relative_2 : decode cX7_relative 2 = .ok (.iload_n 1, 1) := by decide +kernel
theorem dX7_relative_3 : decode cX7_relative 3 = .ok (.invokevirtual 112, 3) := by decide +kernel
theorem dX7_relative_6 : decode cX7_relative 6 = .ok (.ifCond .eq 15, 3) := by decide +kernel
theorem dX7_relative_9 : decode cX7_relative 9 = .ok (.aload_n 0, 1) := by decide +kernel
theorem dX7_relative_10 : decode cX7_relative 10 = .ok (.iload_n 2, 1) := by decide +kernel
theorem dX7_relative_11 : decode cX7_relative 11 = .ok (.invokevirtual 185, 3) := by decide +kernel
theorem dX7_relative_14 : decode cX7_relative 14 = .ok (.ifCond .eq 7, 3) := by decide +kernel
theorem dX7_relative_17 : decode cX7_relative 17 = .ok (.iconst 0, 1) := by decide +kernel
theorem dX7_relative_18 : decode cX7_relative 18 = .ok (.goto 4, 3) := by decide +kernel
theorem dX7_relative_21 : decode cX7_relative 21 = .ok (.iconst 1, 1) := by decide +kernel
theorem dX7_relative_22 : decode cX7_relative 22 = .ok (.putfield 94, 3) := by decide +kernel
theorem dX7_relative_25 : decode cX7_relative 25 = .ok (.aload_n 0, 1) := by decide +kernel
theorem dX7_relative_26 : decode cX7_relative 26 = .ok (.getfield 94, 3) := by decide +kernel
theorem dX7_relative_29 : decode cX7_relative 29 = .ok (.ifCond .le 7, 3) := by decide +kernel
theorem dX7_relative_32 : decode cX7_relative 32 = .ok (.dconst 0, 1) := by decide +kernel
theorem dX7_relative_33 : decode cX7_relative 33 = .ok (.goto 14, 3) := by decide +kernel
theorem dX7_relative_36 : decode cX7_relative 36 = .ok (.aload_n 0, 1) := by decide +kernel
theorem dX7_relative_37 : decode cX7_relative 37 = .ok (.getfield 54, 3) := by decide +kernel
theorem dX7_relative_40 : decode cX7_relative 40 = .ok (.bipush 12, 2) := by decide +kernel
theorem dX7_relative_42 : decode cX7_relative 42 = .ok (.iload_n 2, 1) := by decide +kernel
theorem dX7_relative_43 : decode cX7_relative 43 = .ok (.imul, 1) := by decide +kernel
theorem dX7_relative_44 : decode cX7_relative 44 = .ok (.iload_n 1, 1) := by decide +kernel
theorem dX7_relative_45 : decode cX7_relative 45 = .ok (.iadd, 1) := by decide +kernel
theorem dX7_relative_46 : decode cX7_relative 46 = .ok (.daload, 1) := by decide +kernel
theorem dX7_relative_47 : decode cX7_relative 47 = .ok (.dreturn, 1) := by decide +kernel
set_option maxRecDepth 20000 in
theorem ggX7_bounce_X7_isItem : GoodIn wsX7_bounce wsX7_isItem := goodIn_r _ [7, 8, 9, 10, 6, 11, 40, 41, 42, 43, 44, 45, 46, 47, 48, 49, 50, 51, 52, 53, 54, 55, 56, 57, 58, 59, 60, 61, 62, 63, 64, 65, 66, 67, 68, 69, 70, 71, 72] (by decide +kernel) (by decide +kernel)
set_option maxRecDepth 20000 in
theorem gX7_bounce_X7_isItem : GoodIn wsX7_bounce (wsV RX7 112 RX7 yX7_isItem wsX7_isItem) := goodIn_app (goodIn_of _ (by decide +kernel)) ggX7_bounce_X7_isItem
set_option maxRecDepth 20000 in
theorem ggX7_bounce_X7_isPublished : GoodIn wsX7_bounce wsX7_isPublished := goodIn_r _ [15, 16, 9, 10, 6, 11, 40, 41, 42, 43, 44, 45, 46, 47, 48, 49, 50, 51, 52, 53, 54, 55, 56, 57, 58, 59, 60, 61, 62, 63, 64, 65, 66, 67, 68, 69, 70, 71, 72] (by decide +kernel) (by decide +kernel)
set_option maxRecDepth 20000 in
theorem gX7_bounce_X7_isPublished : GoodIn wsX7_bounce (wsV RX7 185 RX7 yX7_isPublished wsX7_isPublished) := goodIn_app (goodIn_of _ (by decide +kernel)) ggX7_bounce_X7_isPublished
set_option maxRecDepth 20000 in
theorem ggX7_bounce_X7_meanOf : GoodIn wsX7_bounce wsX7_meanOf := goodIn_r _ [20, 21, 22, 23, 24, 6, 25, 26, 27, 28, 29, 30, 31, 32, 33, 34, 35, 36, 37, 38, 39, 40, 41, 42, 43, 44, 45, 46, 47, 48, 49, 50, 51, 52, 53, 54, 55, 56, 57, 58, 59, 60, 61, 62, 63, 64, 65, 66, 67, 68, 69, 70, 71, 72] (by decide +kernel) (by decide +kernel)
set_option maxRecDepth 20000 in
theorem gX7_bounce_X7_meanOf : GoodIn wsX7_bounce (wsV RX7 143 RX7 yX7_meanOf wsX7_meanOf) := goodIn_app (goodIn_of _ (by decide +kernel)) ggX7_bounce_X7_meanOf
theorem dX7_bounce_0 : decode cX7_bounce 0 = .ok (.aload_n 0, 1) := by decide +kernel
theorem dX7_bounce_1 : decode cX7_bounce 1 = .ok (.aload_n 0, 1) := by decide +kernel
theorem dX7_bounce_2 : decode cX7_bounce 2 = .ok (.iload_n 1, 1) := by decide +kernel
theorem dX7_bounce_3 : decode cX7_bounce 3 = .ok (.invokevirtual 112, 3) := by decide +kernel
theorem dX7_bounce_6 : decode cX7_bounce 6 = .ok (.ifCond .eq 15, 3) := by decide +kernel
theorem dX7_bounce_9 : decode cX7_bounce 9 = .ok (.aload_n 0, 1) := by decide +kernel
theorem dX7_bounce_10 : decode cX7_bounce 10 = .ok (.iload_n 2, 1) := by decide +kernel
theorem dX7_bounce_11 : decode cX7_bounce 11 = .ok (.invokevirtual 185, 3) := by decide +kernel
theorem dX7_bounce_14 : decode cX7_bounce 14 = .ok (.ifCond .eq 7, 3) := by decide +kernel
theorem dX7_bounce_17 : decode cX7_bounce 17 = .ok (.iconst 0, 1) := by decide +kernel
theorem dX7_bounce_18 : decode cX7_bounce 18 = .ok (.goto 4, 3) := by decide +kernel
theorem dX7_bounce_21 : decode cX7_bounce 21 = .ok (.iconst 1, 1) := by decide +kernel
theorem dX7_bounce_22 : decode cX7_bounce 22 = .ok (.putfield 94, 3) := by decide +kernel
theorem dX7_bounce_25 : decode cX7_bounce 25 = .ok (.aload_n 0, 1) := by decide +kernel
theorem dX7_bounce_26 : decode cX7_bounce 26 = .ok (.getfield 94, 3) := by decide +kernel
theorem dX7_bounce_29 : decode cX7_bounce 29 = .ok (.ifCond .gt 19, 3) := by decide +kernel
theorem dX7_bounce_32 : decode cX7_bounce 32 = .ok (.aload_n 0, 1) := by decide +kernel
theorem dX7_bounce_33 : decode cX7_bounce 33 = .ok (.getfield 54, 3) := by decide +kernel
theorem dX7_bounce_36 : decode cX7_bounce 36 = .ok (.bipush 12, 2) := by decide +kernel
theorem dX7_bounce_38 : decode cX7_bounce 38 = .ok (.iload_n 2, 1) := by decide +kernel
theorem dX7_bounce_39 : decode cX7_bounce 39 = .ok (.imul, 1) := by decide +kernel
theorem dX7_bounce_40 : decode cX7_bounce 40 = .ok (.iload_n 1, 1) := by decide +kernel
theorem dX7_bounce_41 : decode cX7_bounce 41 = .ok (.iadd, 1) := by decide +kernel
theorem dX7_bounce_42 : decode cX7_bounce 42 = .ok (.daload, 1) := by decide +kernel
theorem dX7_bounce_43 : decode cX7_bounce 43 = .ok (.dconst 0, 1) := by decide +kernel
theorem dX7_bounce_44 : decode cX7_bounce 44 = .ok (.dcmp .l, 1) := by decide +kernel
theorem dX7_bounce_45 : decode cX7_bounce 45 = .ok (.ifCond .ne 7, 3) := by decide +kernel
theorem dX7_bounce_48 : decode cX7_bounce 48 = .ok (.dconst 0, 1) := by decide +kernel
theorem dX7_bounce_49 : decode cX7_bounce 49 = .ok (.goto 23, 3) := by decide +kernel
theorem dX7_bounce_52 : decode cX7_bounce 52 = .ok (.aload_n 0, 1) := by decide +kernel
theorem dX7_bounce_53 : decode cX7_bounce 53 = .ok (.getfield 54, 3) := by decide +kernel
theorem dX7_bounce_56 : decode cX7_bounce 56 = .ok (.bipush 12, 2) := by decide +kernel
theorem dX7_bounce_58 : decode cX7_bounce 58 = .ok (.iload_n 2, 1) := by decide +kernel
theorem dX7_bounce_59 : decode cX7_bounce 59 = .ok (.imul, 1) := by decide +kernel
theorem dX7_bounce_60 : decode cX7_bounce 60 = .ok (.iload_n 1, 1) := by decide +kernel
theorem dX7_bounce_61 : decode cX7_bounce 61 = .ok (.iadd, 1) := by decide +kernel
theorem dX7_bounce_62 : decode cX7_bounce 62 = .ok (.daload, 1) := by decide +kernel
theorem dX7_bounce_63 : decode cX7_bounce 63 = .ok (.aload_n 0, 1) := by decide +kernel
theorem dX7_bounce_64 : decode cX7_bounce 64 = .ok (.iload_n 2, 1) := by decide +kernel
theorem dX7_bounce_65 : decode cX7_bounce 65 = .ok (.iload_n 1, 1) := by decide +kernel
theorem dX7_bounce_66 : decode cX7_bounce 66 = .ok (.iconst 0, 1) := by decide +kernel
theorem dX7_bounce_67 : decode cX7_bounce 67 = .ok (.iconst 1, 1) := by decide +kernel
theorem dX7_bounce_68 : decode cX7_bounce 68 = .ok (.invokevirtual 143, 3) := by decide +kernel
theorem dX7_bounce_71 : decode cX7_bounce 71 = .ok (.dmul, 1) := by decide +kernel
theorem dX7_bounce_72 : decode cX7_bounce 72 = .ok (.dreturn, 1) := by decide +kernel
set_option maxRecDepth 20000 in
theorem ggX7_ofGroup_X7_isGroup : GoodIn wsX7_ofGroup wsX7_isGroup := goodIn_r _ [6, 7, 8, 5, 9] (by decide +kernel) (by decide +kernel)
set_option maxRecDepth 20000 in
theorem gX7_ofGroup_X7_isGroup : GoodIn wsX7_ofGroup (va_wsS RX7 108 yX7_isGroup wsX7_isGroup) := goodIn_app (goodIn_of _ (by decide +kernel)) ggX7_ofGroup_X7_isGroup
set_option maxRecDepth 20000 in
theorem ggX7_ofGroup_X7_isPublished : GoodIn wsX7_ofGroup wsX7_isPublished := goodIn_r _ [13, 14, 7, 8, 5, 9, 15, 16, 17, 18, 19, 20, 21, 22, 23, 24, 25, 26, 27, 28, 29, 30, 31, 32, 33, 34, 35, 36, 37, 38, 39, 40, 41, 42, 43, 44, 45, 46, 47] (by decide +kernel) (by decide +kernel)
set_option maxRecDepth 20000 in
theorem gX7_ofGroup_X7_isPublished : GoodIn wsX7_ofGroup (wsV RX7 185 RX7 yX7_isPublished wsX7_isPublished) := goodIn_app (goodIn_of _ (by decide +kernel)) ggX7_ofGroup_X7_isPublished
theorem dX7_ofGroup_0 : decode cX7_ofGroup 0 = .ok (.aload_n 0, 1) := by decide +kernel
theorem dX7_ofGroup_1 : decode cX7_ofGroup 1 = .ok (.iload_n 1, 1) := by decide +kernel
theorem dX7_ofGroup_2 : decode cX7_ofGroup 2 = .ok (.invokestatic 108, 3) := by decide +kernel
theorem dX7_ofGroup_5 : decode cX7_ofGroup 5 = .ok (.ifCond .eq 15, 3) := by decide +kernel
theorem dX7_ofGroup_8 : decode cX7_ofGroup 8 = .ok (.aload_n 0, 1) := by decide +kernel
theorem dX7_ofGroup_9 : decode cX7_ofGroup 9 = .ok (.iload_n 2, 1) := by decide +kernel
theorem dX7_ofGroup_10 : decode cX7_ofGroup 10 = .ok (.invokevirtual 185, 3) := by decide +kernel
theorem dX7_ofGroup_13 : decode cX7_ofGroup 13 = .ok (.ifCond .eq 7, 3) := by decide +kernel
theorem dX7_ofGroup_16 : decode cX7_ofGroup 16 = .ok (.iconst 0, 1) := by decide +kernel
theorem dX7_ofGroup_17 : decode cX7_ofGroup 17 = .ok (.goto 4, 3) := by decide +kernel
theorem dX7_ofGroup_20 : decode cX7_ofGroup 20 = .ok (.iconst 1, 1) := by decide +kernel
theorem dX7_ofGroup_21 : decode cX7_ofGroup 21 = .ok (.putfield 94, 3) := by decide +kernel
theorem dX7_ofGroup_24 : decode cX7_ofGroup 24 = .ok (.aload_n 0, 1) := by decide +kernel
theorem dX7_ofGroup_25 : decode cX7_ofGroup 25 = .ok (.getfield 94, 3) := by decide +kernel
theorem dX7_ofGroup_28 : decode cX7_ofGroup 28 = .ok (.ifCond .le 7, 3) := by decide +kernel
theorem dX7_ofGroup_31 : decode cX7_ofGroup 31 = .ok (.dconst 0, 1) := by decide +kernel
theorem dX7_ofGroup_32 : decode cX7_ofGroup 32 = .ok (.goto 13, 3) := by decide +kernel
theorem dX7_ofGroup_35 : decode cX7_ofGroup 35 = .ok (.aload_n 0, 1) := by decide +kernel
theorem dX7_ofGroup_36 : decode cX7_ofGroup 36 = .ok (.getfield 57, 3) := by decide +kernel
theorem dX7_ofGroup_39 : decode cX7_ofGroup 39 = .ok (.iconst 4, 1) := by decide +kernel
theorem dX7_ofGroup_40 : decode cX7_ofGroup 40 = .ok (.iload_n 2, 1) := by decide +kernel
theorem dX7_ofGroup_41 : decode cX7_ofGroup 41 = .ok (.imul, 1) := by decide +kernel
theorem dX7_ofGroup_42 : decode cX7_ofGroup 42 = .ok (.iload_n 1, 1) := by decide +kernel
theorem dX7_ofGroup_43 : decode cX7_ofGroup 43 = .ok (.iadd, 1) := by decide +kernel
theorem dX7_ofGroup_44 : decode cX7_ofGroup 44 = .ok (.daload, 1) := by decide +kernel
theorem dX7_ofGroup_45 : decode cX7_ofGroup 45 = .ok (.dreturn, 1) := by decide +kernel
set_option maxRecDepth 20000 in
theorem ggX7_isKind_X7_in : GoodIn wsX7_isKind wsX7_in := goodIn_r _ [4] (by decide +kernel) (by decide +kernel)
set_option maxRecDepth 20000 in
theorem gX7_isKind_X7_in : GoodIn wsX7_isKind (va_wsS RX7 101 yX7_in wsX7_in) := goodIn_app (goodIn_of _ (by decide +kernel)) ggX7_isKind_X7_in
theorem dX7_isKind_0 : decode cX7_isKind 0 = .ok (.iload_n 0, 1) := by decide +kernel
theorem dX7_isKind_1 : decode cX7_isKind 1 = .ok (.iconst 0, 1) := by decide +kernel
theorem dX7_isKind_2 : decode cX7_isKind 2 = .ok (.iconst 4, 1) := by decide +kernel
theorem dX7_isKind_3 : decode cX7_isKind 3 = .ok (.invokestatic 101, 3) := by decide +kernel
theorem dX7_isKind_6 : decode cX7_isKind 6 = .ok (.ireturn, 1) := by decide +kernel
set_option maxRecDepth 20000 in
theorem ggX7_share_X7_isKind : GoodIn wsX7_share wsX7_isKind := goodIn_r _ [5, 6, 7, 4, 8] (by decide +kernel) (by decide +kernel)
set_option maxRecDepth 20000 in
theorem gX7_share_X7_isKind : GoodIn wsX7_share (va_wsS RX7 191 yX7_isKind wsX7_isKind) := goodIn_app (goodIn_of _ (by decide +kernel)) ggX7_share_X7_isKind
set_option maxRecDepth 20000 in
theorem ggX7_share_X7_isGroup : GoodIn wsX7_share wsX7_isGroup := goodIn_r _ [11, 6, 7, 4, 8] (by decide +kernel) (by decide +kernel)
set_option maxRecDepth 20000 in
theorem gX7_share_X7_isGroup : GoodIn wsX7_share (va_wsS RX7 108 yX7_isGroup wsX7_isGroup) := goodIn_app (goodIn_of _ (by decide +kernel)) ggX7_share_X7_isGroup
set_option maxRecDepth 20000 in
theorem ggX7_share_X7_isPublished : GoodIn wsX7_share wsX7_isPublished := goodIn_r _ [15, 16, 6, 7, 4, 8, 23, 24, 25, 26, 27, 28, 29, 30, 31, 32, 33, 34, 35, 36, 37, 38, 39, 40, 41, 42, 43, 44, 45, 46, 47, 48, 49, 50, 51, 52, 53, 54, 55] (by decide +kernel) (by decide +kernel)
set_option maxRecDepth 20000 in
theorem gX7_share_X7_isPublished : GoodIn wsX7_share (wsV RX7 185 RX7 yX7_isPublished wsX7_isPublished) := goodIn_app (goodIn_of _ (by decide +kernel)) ggX7_share_X7_isPublished
set_option maxRecDepth 20000 in
theorem ggX7_share_X7_shareOf : GoodIn wsX7_share wsX7_shareOf := goodIn_r _ [20, 21, 22, 23, 24, 25, 26, 27, 28, 29, 30, 31, 32, 33, 34, 35, 36, 37, 38, 39, 40, 41, 42, 43, 44, 45, 46, 47, 48, 49, 50, 51, 52, 53, 54, 55] (by decide +kernel) (by decide +kernel)
set_option maxRecDepth 20000 in
theorem gX7_share_X7_shareOf : GoodIn wsX7_share (wsV RX7 153 RX7 yX7_shareOf wsX7_shareOf) := goodIn_app (goodIn_of _ (by decide +kernel)) ggX7_share_X7_shareOf
theorem dX7_share_0 : decode cX7_share 0 = .ok (.aload_n 0, 1) := by decide +kernel
theorem dX7_share_1 : decode cX7_share 1 = .ok (.iload_n 1, 1) := by decide +kernel
theorem dX7_share_2 : decode cX7_share 2 = .ok (.invokestatic 191, 3) := by decide +kernel
theorem dX7_share_5 : decode cX7_share 5 = .ok (.ifCond .eq 22, 3) := by decide +kernel
theorem dX7_share_8 : decode cX7_share 8 = .ok (.iload_n 2, 1) := by decide +kernel
theorem dX7_share_9 : decode cX7_share 9 = .ok (.invokestatic 108, 3) := by decide +kernel
theorem dX7_share_12 : decode cX7_share 12 = .ok (.ifCond .eq 15, 3) := by decide +kernel
theorem dX7_share_15 : decode cX7_share 15 = .ok (.aload_n 0, 1) := by decide +kernel
theorem dX7_share_16 : decode cX7_share 16 = .ok (.iload_n 3, 1) := by decide +kernel
theorem dX7_share_17 : decode cX7_share 17 = .ok (.invokevirtual 185, 3) := by decide +kernel
theorem dX7_share_20 : decode cX7_share 20 = .ok (.ifCond .eq 7, 3) := by decide +kernel
theorem dX7_share_23 : decode cX7_share 23 = .ok (.iconst 0, 1) := by decide +kernel
theorem dX7_share_24 : decode cX7_share 24 = .ok (.goto 4, 3) := by decide +kernel
theorem dX7_share_27 : decode cX7_share 27 = .ok (.iconst 1, 1) := by decide +kernel
theorem dX7_share_28 : decode cX7_share 28 = .ok (.putfield 94, 3) := by decide +kernel
theorem dX7_share_31 : decode cX7_share 31 = .ok (.aload_n 0, 1) := by decide +kernel
theorem dX7_share_32 : decode cX7_share 32 = .ok (.getfield 94, 3) := by decide +kernel
theorem dX7_share_35 : decode cX7_share 35 = .ok (.ifCond .le 7, 3) := by decide +kernel
theorem dX7_share_38 : decode cX7_share 38 = .ok (.dconst 0, 1) := by decide +kernel
theorem dX7_share_39 : decode cX7_share 39 = .ok (.goto 10, 3) := by decide +kernel
theorem dX7_share_42 : decode cX7_share 42 = .ok (.aload_n 0, 1) := by decide +kernel
theorem dX7_share_43 : decode cX7_share 43 = .ok (.iload_n 1, 1) := by decide +kernel
theorem dX7_share_44 : decode cX7_share 44 = .ok (.iload_n 2, 1) := by decide +kernel
theorem dX7_share_45 : decode cX7_share 45 = .ok (.iload_n 3, 1) := by decide +kernel
theorem dX7_share_46 : decode cX7_share 46 = .ok (.invokevirtual 153, 3) := by decide +kernel
theorem dX7_share_49 : decode cX7_share 49 = .ok (.dreturn, 1) := by decide +kernel
set_option maxRecDepth 20000 in
theorem ggX7_index_X7_isKind : GoodIn wsX7_index wsX7_isKind := goodIn_r _ [6, 7, 8, 5, 9] (by decide +kernel) (by decide +kernel)
set_option maxRecDepth 20000 in
theorem gX7_index_X7_isKind : GoodIn wsX7_index (va_wsS RX7 191 yX7_isKind wsX7_isKind) := goodIn_app (goodIn_of _ (by decide +kernel)) ggX7_index_X7_isKind
set_option maxRecDepth 20000 in
theorem ggX7_index_X7_isPublished : GoodIn wsX7_index wsX7_isPublished := goodIn_r _ [13, 14, 7, 8, 5, 9, 15, 16, 17, 18, 19, 20, 21, 22, 23, 24, 25, 26, 27, 28, 29, 30, 31, 32, 33, 34, 35, 36, 37, 38, 39, 40, 41, 42, 43, 44, 45, 46, 47] (by decide +kernel) (by decide +kernel)
set_option maxRecDepth 20000 in
theorem gX7_index_X7_isPublished : GoodIn wsX7_index (wsV RX7 185 RX7 yX7_isPublished wsX7_isPublished) := goodIn_app (goodIn_of _ (by decide +kernel)) ggX7_index_X7_isPublished
theorem dX7_index_0 : decode cX7_index 0 = .ok (.aload_n 0, 1) := by decide +kernel
theorem dX7_index_1 : decode cX7_index 1 = .ok (.iload_n 1, 1) := by decide +kernel
theorem dX7_index_2 : decode cX7_index 2 = .ok (.invokestatic 191, 3) := by decide +kernel
theorem dX7_index_5 : decode cX7_index 5 = .ok (.ifCond .eq 15, 3) := by decide +kernel
theorem dX7_index_8 : decode cX7_index 8 = .ok (.aload_n 0, 1) := by decide +kernel
theorem dX7_index_9 : decode cX7_index 9 = .ok (.iload_n 2, 1) := by decide +kernel
theorem dX7_index_10 : decode cX7_index 10 = .ok (.invokevirtual 185, 3) := by decide +kernel
theorem dX7_index_13 : decode cX7_index 13 = .ok (.ifCond .eq 7, 3) := by decide +kernel
theorem dX7_index_16 : decode cX7_index 16 = .ok (.iconst 0, 1) := by decide +kernel
theorem dX7_index_17 : decode cX7_index 17 = .ok (.goto 4, 3) := by decide +kernel
theorem dX7_index_20 : decode cX7_index 20 = .ok (.iconst 1, 1) := by decide +kernel
theorem dX7_index_21 : decode cX7_index 21 = .ok (.putfield 94, 3) := by decide +kernel
theorem dX7_index_24 : decode cX7_index 24 = .ok (.aload_n 0, 1) := by decide +kernel
theorem dX7_index_25 : decode cX7_index 25 = .ok (.getfield 94, 3) := by decide +kernel
theorem dX7_index_28 : decode cX7_index 28 = .ok (.ifCond .le 7, 3) := by decide +kernel
theorem dX7_index_31 : decode cX7_index 31 = .ok (.dconst 0, 1) := by decide +kernel
theorem dX7_index_32 : decode cX7_index 32 = .ok (.goto 13, 3) := by decide +kernel
theorem dX7_index_35 : decode cX7_index 35 = .ok (.aload_n 0, 1) := by decide +kernel
theorem dX7_index_36 : decode cX7_index 36 = .ok (.getfield 60, 3) := by decide +kernel
theorem dX7_index_39 : decode cX7_index 39 = .ok (.iconst 5, 1) := by decide +kernel
theorem dX7_index_40 : decode cX7_index 40 = .ok (.iload_n 2, 1) := by decide +kernel
theorem dX7_index_41 : decode cX7_index 41 = .ok (.imul, 1) := by decide +kernel
theorem dX7_index_42 : decode cX7_index 42 = .ok (.iload_n 1, 1) := by decide +kernel
theorem dX7_index_43 : decode cX7_index 43 = .ok (.iadd, 1) := by decide +kernel
theorem dX7_index_44 : decode cX7_index 44 = .ok (.daload, 1) := by decide +kernel
theorem dX7_index_45 : decode cX7_index 45 = .ok (.dreturn, 1) := by decide +kernel
set_option maxRecDepth 20000 in
theorem ggX7_indexAnew_X7_index : GoodIn wsX7_indexAnew wsX7_index := goodIn_r _ [5, 6, 7, 8, 9, 4, 10, 11, 12, 13, 14, 15, 16, 17, 18, 19, 20, 21, 22, 23, 24, 25, 26, 27, 28, 29, 30, 31, 32, 33, 34, 35, 36, 37, 38, 39, 40, 41, 42, 43, 44, 45, 46, 47, 48, 49, 50, 51] (by decide +kernel) (by decide +kernel)
set_option maxRecDepth 20000 in
theorem gX7_indexAnew_X7_index : GoodIn wsX7_indexAnew (wsV RX7 194 RX7 yX7_index wsX7_index) := goodIn_app (goodIn_of _ (by decide +kernel)) ggX7_indexAnew_X7_index
theorem dX7_indexAnew_0 : decode cX7_indexAnew 0 = .ok (.aload_n 0, 1) := by decide +kernel
theorem dX7_indexAnew_1 : decode cX7_indexAnew 1 = .ok (.iload_n 1, 1) := by decide +kernel
theorem dX7_indexAnew_2 : decode cX7_indexAnew 2 = .ok (.iload_n 2, 1) := by decide +kernel
theorem dX7_indexAnew_3 : decode cX7_indexAnew 3 = .ok (.invokevirtual 194, 3) := by decide +kernel
theorem dX7_indexAnew_6 : decode cX7_indexAnew 6 = .ok (.dreturn, 1) := by decide +kernel
set_option maxRecDepth 20000 in
theorem ggX7_corrected_X7_isKind : GoodIn wsX7_corrected wsX7_isKind := goodIn_r _ [6, 7, 8, 5, 9] (by decide +kernel) (by decide +kernel)
set_option maxRecDepth 20000 in
theorem gX7_corrected_X7_isKind : GoodIn wsX7_corrected (va_wsS RX7 191 yX7_isKind wsX7_isKind) := goodIn_app (goodIn_of _ (by decide +kernel)) ggX7_corrected_X7_isKind
set_option maxRecDepth 20000 in
theorem ggX7_corrected_X7_isPublished : GoodIn wsX7_corrected wsX7_isPublished := goodIn_r _ [13, 14, 7, 8, 5, 9, 73, 74, 75, 76, 77, 78, 79, 80, 81, 82, 83, 84, 85, 86, 87, 88, 89, 90, 91, 92, 93, 94, 95, 96, 97, 98, 99, 100, 101, 102, 103, 104, 105] (by decide +kernel) (by decide +kernel)
set_option maxRecDepth 20000 in
theorem gX7_corrected_X7_isPublished : GoodIn wsX7_corrected (wsV RX7 185 RX7 yX7_isPublished wsX7_isPublished) := goodIn_app (goodIn_of _ (by decide +kernel)) ggX7_corrected_X7_isPublished
set_option maxRecDepth 20000 in
theorem ggX7_corrected_X7_corrects : GoodIn wsX7_corrected wsX7_corrects := goodIn_r _ [18, 19, 20, 21, 5, 22, 23, 24, 25, 26, 2, 27, 28, 29, 30, 31, 32, 33, 34, 35, 36, 37, 38, 39, 40, 41, 42, 43, 44, 45, 46, 47, 48, 49, 50, 51, 52, 53, 54, 55, 56, 57, 58, 59, 60, 61, 62, 63, 64, 65, 66, 67, 68, 69, 70, 71, 72, 73, 74, 75, 76, 77, 78, 79, 80, 81, 82, 83, 84, 85, 86, 87, 88, 89, 90, 91, 92, 93, 94, 95, 96, 97, 98, 99, 100, 101, 102, 103, 104, 105] (by decide +kernel) (by decide +kernel)
set_option maxRecDepth 20000 in
theorem gX7_corrected_X7_corrects : GoodIn wsX7_corrected (wsV RX7 196 RX7 yX7_corrects wsX7_corrects) := goodIn_app (goodIn_of _ (by decide +kernel)) ggX7_corrected_X7_corrects
theorem dX7_corrected_0 : decode cX7_corrected 0 = .ok (.aload_n 0, 1) := by decide +kernel
theorem dX7_corrected_1 : decode cX7_corrected 1 = .ok (.iload_n 1, 1) := by decide +kernel
theorem dX7_corrected_2 : decode cX7_corrected 2 = .ok (.invokestatic 191, 3) := by decide +kernel
theorem dX7_corrected_5 : decode cX7_corrected 5 = .ok (.ifCond .eq 15, 3) := by decide +kernel
theorem dX7_corrected_8 : decode cX7_corrected 8 = .ok (.aload_n 0, 1) := by decide +kernel
theorem dX7_corrected_9 : decode cX7_corrected 9 = .ok (.iload_n 2, 1) := by decide +kernel
theorem dX7_corrected_10 : decode cX7_corrected 10 = .ok (.invokevirtual 185, 3) := by decide +kernel
theorem dX7_corrected_13 : decode cX7_corrected 13 = .ok (.ifCond .eq 7, 3) := by decide +kernel
theorem dX7_corrected_16 : decode cX7_corrected 16 = .ok (.iconst 0, 1) := by decide +kernel
theorem dX7_corrected_17 : decode cX7_corrected 17 = .ok (.goto 4, 3) := by decide +kernel
theorem dX7_corrected_20 : decode cX7_corrected 20 = .ok (.iconst 1, 1) := by decide +kernel
theorem dX7_corrected_21 : decode cX7_corrected 21 = .ok (.putfield 94, 3) := by decide +kernel
theorem dX7_corrected_24 : decode cX7_corrected 24 = .ok (.aload_n 0, 1) := by decide +kernel
theorem dX7_corrected_25 : decode cX7_corrected 25 = .ok (.getfield 94, 3) := by decide +kernel
theorem dX7_corrected_28 : decode cX7_corrected 28 = .ok (.ifCond .le 5, 3) := by decide +kernel
theorem dX7_corrected_31 : decode cX7_corrected 31 = .ok (.dconst 0, 1) := by decide +kernel
theorem dX7_corrected_32 : decode cX7_corrected 32 = .ok (.dreturn, 1) := by decide +kernel
theorem dX7_corrected_33 : decode cX7_corrected 33 = .ok (.aload_n 0, 1) := by decide +kernel
theorem dX7_corrected_34 : decode cX7_corrected 34 = .ok (.iload_n 2, 1) := by decide +kernel
theorem dX7_corrected_35 : decode cX7_corrected 35 = .ok (.invokevirtual 196, 3) := by decide +kernel
theorem dX7_corrected_38 : decode cX7_corrected 38 = .ok (.aload_n 0, 1) := by decide +kernel
theorem dX7_corrected_39 : decode cX7_corrected 39 = .ok (.getfield 60, 3) := by decide +kernel
theorem dX7_corrected_42 : decode cX7_corrected 42 = .ok (.iconst 5, 1) := by decide +kernel
theorem dX7_corrected_43 : decode cX7_corrected 43 = .ok (.bipush 24, 2) := by decide +kernel
theorem dX7_corrected_45 : decode cX7_corrected 45 = .ok (.iload_n 2, 1) := by decide +kernel
theorem dX7_corrected_46 : decode cX7_corrected 46 = .ok (.iadd, 1) := by decide +kernel
theorem dX7_corrected_47 : decode cX7_corrected 47 = .ok (.imul, 1) := by decide +kernel
theorem dX7_corrected_48 : decode cX7_corrected 48 = .ok (.iload_n 1, 1) := by decide +kernel
theorem dX7_corrected_49 : decode cX7_corrected 49 = .ok (.iadd, 1) := by decide +kernel
theorem dX7_corrected_50 : decode cX7_corrected 50 = .ok (.daload, 1) := by decide +kernel
theorem dX7_corrected_51 : decode cX7_corrected 51 = .ok (.dreturn, 1) := by decide +kernel
set_option maxRecDepth 20000 in
theorem ggX7_published_X7_isPublished : GoodIn wsX7_published wsX7_isPublished := goodIn_r _ [7, 8, 9, 10, 6, 11, 12, 13, 14, 15, 16, 17, 18, 19, 20, 21, 22, 23, 24, 25, 26, 27, 28, 29, 30, 31, 32, 33, 34, 35, 36, 37, 38, 39, 40, 41, 42, 43, 44] (by decide +kernel) (by decide +kernel)
set_option maxRecDepth 20000 in
theorem gX7_published_X7_isPublished : GoodIn wsX7_published (wsV RX7 185 RX7 yX7_isPublished wsX7_isPublished) := goodIn_app (goodIn_of _ (by decide +kernel)) ggX7_published_X7_isPublished
theorem dX7_published_0 : decode cX7_published 0 = .ok (.aload_n 0, 1) := by decide +kernel
theorem dX7_published_1 : decode cX7_published 1 = .ok (.aload_n 0, 1) := by decide +kernel
theorem dX7_published_2 : decode cX7_published 2 = .ok (.iload_n 1, 1) := by decide +kernel
theorem dX7_published_3 : decode cX7_published 3 = .ok (.invokevirtual 185, 3) := by decide +kernel
theorem dX7_published_6 : decode cX7_published 6 = .ok (.ifCond .eq 7, 3) := by decide +kernel
theorem dX7_published_9 : decode cX7_published 9 = .ok (.iconst 0, 1) := by decide +kernel
theorem dX7_published_10 : decode cX7_published 10 = .ok (.goto 4, 3) := by decide +kernel
theorem dX7_published_13 : decode cX7_published 13 = .ok (.iconst 1, 1) := by decide +kernel
theorem dX7_published_14 : decode cX7_published 14 = .ok (.putfield 94, 3) := by decide +kernel
theorem dX7_published_17 : decode cX7_published 17 = .ok (.aload_n 0, 1) := by decide +kernel
theorem dX7_published_18 : decode cX7_published 18 = .ok (.getfield 94, 3) := by decide +kernel
theorem dX7_published_21 : decode cX7_published 21 = .ok (.ifCond .le 7, 3) := by decide +kernel
theorem dX7_published_24 : decode cX7_published 24 = .ok (.iconst 0, 1) := by decide +kernel
theorem dX7_published_25 : decode cX7_published 25 = .ok (.goto 9, 3) := by decide +kernel
theorem dX7_published_28 : decode cX7_published 28 = .ok (.aload_n 0, 1) := by decide +kernel
theorem dX7_published_29 : decode cX7_published 29 = .ok (.getfield 63, 3) := by decide +kernel
theorem dX7_published_32 : decode cX7_published 32 = .ok (.iload_n 1, 1) := by decide +kernel
theorem dX7_published_33 : decode cX7_published 33 = .ok (.iaload, 1) := by decide +kernel
theorem dX7_published_34 : decode cX7_published 34 = .ok (.ireturn, 1) := by decide +kernel
set_option maxRecDepth 20000 in
theorem ggX7_growth_X7_isPublished : GoodIn wsX7_growth wsX7_isPublished := goodIn_r _ [7, 8, 9, 10, 6, 11, 12, 13, 14, 15, 16, 17, 18, 19, 20, 21, 22, 23, 24, 25, 26, 27, 28, 29, 30, 31, 32, 33, 34, 35, 36, 37, 38, 39, 40, 41, 42, 43, 44] (by decide +kernel) (by decide +kernel)
set_option maxRecDepth 20000 in
theorem gX7_growth_X7_isPublished : GoodIn wsX7_growth (wsV RX7 185 RX7 yX7_isPublished wsX7_isPublished) := goodIn_app (goodIn_of _ (by decide +kernel)) ggX7_growth_X7_isPublished
theorem dX7_growth_0 : decode cX7_growth 0 = .ok (.aload_n 0, 1) := by decide +kernel
theorem dX7_growth_1 : decode cX7_growth 1 = .ok (.aload_n 0, 1) := by decide +kernel
theorem dX7_growth_2 : decode cX7_growth 2 = .ok (.iload_n 1, 1) := by decide +kernel
theorem dX7_growth_3 : decode cX7_growth 3 = .ok (.invokevirtual 185, 3) := by decide +kernel
theorem dX7_growth_6 : decode cX7_growth 6 = .ok (.ifCond .eq 13, 3) := by decide +kernel
theorem dX7_growth_9 : decode cX7_growth 9 = .ok (.iload_n 1, 1) := by decide +kernel
theorem dX7_growth_10 : decode cX7_growth 10 = .ok (.bipush 11, 2) := by decide +kernel
theorem dX7_growth_12 : decode cX7_growth 12 = .ok (.if_icmp .le 7, 3) := by decide +kernel
theorem dX7_growth_15 : decode cX7_growth 15 = .ok (.iconst 0, 1) := by decide +kernel
theorem dX7_growth_16 : decode cX7_growth 16 = .ok (.goto 4, 3) := by decide +kernel
theorem dX7_growth_19 : decode cX7_growth 19 = .ok (.iconst 1, 1) := by decide +kernel
theorem dX7_growth_20 : decode cX7_growth 20 = .ok (.putfield 94, 3) := by decide +kernel
theorem dX7_growth_23 : decode cX7_growth 23 = .ok (.aload_n 0, 1) := by decide +kernel
theorem dX7_growth_24 : decode cX7_growth 24 = .ok (.getfield 94, 3) := by decide +kernel
theorem dX7_growth_27 : decode cX7_growth 27 = .ok (.ifCond .le 7, 3) := by decide +kernel
theorem dX7_growth_30 : decode cX7_growth 30 = .ok (.fconst 0, 1) := by decide +kernel
theorem dX7_growth_31 : decode cX7_growth 31 = .ok (.goto 27, 3) := by decide +kernel
theorem dX7_growth_34 : decode cX7_growth 34 = .ok (.aload_n 0, 1) := by decide +kernel
theorem dX7_growth_35 : decode cX7_growth 35 = .ok (.getfield 60, 3) := by decide +kernel
theorem dX7_growth_38 : decode cX7_growth 38 = .ok (.iconst 5, 1) := by decide +kernel
theorem dX7_growth_39 : decode cX7_growth 39 = .ok (.iload_n 1, 1) := by decide +kernel
theorem dX7_growth_40 : decode cX7_growth 40 = .ok (.imul, 1) := by decide +kernel
theorem dX7_growth_41 : decode cX7_growth 41 = .ok (.daload, 1) := by decide +kernel
theorem dX7_growth_42 : decode cX7_growth 42 = .ok (.d2f, 1) := by decide +kernel
theorem dX7_growth_43 : decode cX7_growth 43 = .ok (.aload_n 0, 1) := by decide +kernel
theorem dX7_growth_44 : decode cX7_growth 44 = .ok (.getfield 60, 3) := by decide +kernel
theorem dX7_growth_47 : decode cX7_growth 47 = .ok (.iconst 5, 1) := by decide +kernel
theorem dX7_growth_48 : decode cX7_growth 48 = .ok (.iload_n 1, 1) := by decide +kernel
theorem dX7_growth_49 : decode cX7_growth 49 = .ok (.bipush 12, 2) := by decide +kernel
theorem dX7_growth_51 : decode cX7_growth 51 = .ok (.isub, 1) := by decide +kernel
theorem dX7_growth_52 : decode cX7_growth 52 = .ok (.imul, 1) := by decide +kernel
theorem dX7_growth_53 : decode cX7_growth 53 = .ok (.daload, 1) := by decide +kernel
theorem dX7_growth_54 : decode cX7_growth 54 = .ok (.d2f, 1) := by decide +kernel
theorem dX7_growth_55 : decode cX7_growth 55 = .ok (.fdiv, 1) := by decide +kernel
theorem dX7_growth_56 : decode cX7_growth 56 = .ok (.fconst 1, 1) := by decide +kernel
theorem dX7_growth_57 : decode cX7_growth 57 = .ok (.fsub, 1) := by decide +kernel
theorem dX7_growth_58 : decode cX7_growth 58 = .ok (.freturn, 1) := by decide +kernel
set_option maxRecDepth 20000 in
theorem ggX7_core_X7_isPublished : GoodIn wsX7_core wsX7_isPublished := goodIn_r _ [8, 9, 10, 11, 7, 12, 13, 14, 15, 16, 17, 18, 19, 20, 21, 22, 23, 24, 25, 26, 27, 28, 29, 30, 31, 32, 33, 34, 35, 36, 37, 38, 39, 40, 41, 42, 43, 44, 45] (by decide +kernel) (by decide +kernel)
set_option maxRecDepth 20000 in
theorem gX7_core_X7_isPublished : GoodIn wsX7_core (wsV RX7 185 RX7 yX7_isPublished wsX7_isPublished) := goodIn_app (goodIn_of _ (by decide +kernel)) ggX7_core_X7_isPublished
theorem dX7_core_0 : decode cX7_core 0 = .ok (.aload_n 0, 1) := by decide +kernel
theorem dX7_core_1 : decode cX7_core 1 = .ok (.aload_n 0, 1) := by decide +kernel
theorem dX7_core_2 : decode cX7_core 2 = .ok (.iload_n 1, 1) := by decide +kernel
theorem dX7_core_3 : decode cX7_core 3 = .ok (.invokevirtual 185, 3) := by decide +kernel
theorem dX7_core_6 : decode cX7_core 6 = .ok (.ifCond .eq 7, 3) := by decide +kernel
theorem dX7_core_9 : decode cX7_core 9 = .ok (.iconst 0, 1) := by decide +kernel
theorem dX7_core_10 : decode cX7_core 10 = .ok (.goto 4, 3) := by decide +kernel
theorem dX7_core_13 : decode cX7_core 13 = .ok (.iconst 1, 1) := by decide +kernel
theorem dX7_core_14 : decode cX7_core 14 = .ok (.putfield 94, 3) := by decide +kernel
theorem dX7_core_17 : decode cX7_core 17 = .ok (.aload_n 0, 1) := by decide +kernel
theorem dX7_core_18 : decode cX7_core 18 = .ok (.getfield 94, 3) := by decide +kernel
theorem dX7_core_21 : decode cX7_core 21 = .ok (.ifCond .le 5, 3) := by decide +kernel
theorem dX7_core_24 : decode cX7_core 24 = .ok (.dconst 0, 1) := by decide +kernel
theorem dX7_core_25 : decode cX7_core 25 = .ok (.dreturn, 1) := by decide +kernel
theorem dX7_core_26 : decode cX7_core 26 = .ok (.iconst 0, 1) := by decide +kernel
theorem dX7_core_27 : decode cX7_core 27 = .ok (.istore_n 2, 1) := by decide +kernel
theorem dX7_core_28 : decode cX7_core 28 = .ok (.iconst 1, 1) := by decide +kernel
theorem dX7_core_29 : decode cX7_core 29 = .ok (.istore_n 3, 1) := by decide +kernel
theorem dX7_core_30 : decode cX7_core 30 = .ok (.iload_n 3, 1) := by decide +kernel
theorem dX7_core_31 : decode cX7_core 31 = .ok (.iconst 4, 1) := by decide +kernel
theorem dX7_core_32 : decode cX7_core 32 = .ok (.if_icmp .ge 39, 3) := by decide +kernel
theorem dX7_core_35 : decode cX7_core 35 = .ok (.aload_n 0, 1) := by decide +kernel
theorem dX7_core_36 : decode cX7_core 36 = .ok (.getfield 57, 3) := by decide +kernel
theorem dX7_core_39 : decode cX7_core 39 = .ok (.iconst 4, 1) := by decide +kernel
theorem dX7_core_40 : decode cX7_core 40 = .ok (.iload_n 1, 1) := by decide +kernel
theorem dX7_core_41 : decode cX7_core 41 = .ok (.imul, 1) := by decide +kernel
theorem dX7_core_42 : decode cX7_core 42 = .ok (.iload_n 3, 1) := by decide +kernel
theorem dX7_core_43 : decode cX7_core 43 = .ok (.iadd, 1) := by decide +kernel
theorem dX7_core_44 : decode cX7_core 44 = .ok (.daload, 1) := by decide +kernel
theorem dX7_core_45 : decode cX7_core 45 = .ok (.aload_n 0, 1) := by decide +kernel
theorem dX7_core_46 : decode cX7_core 46 = .ok (.getfield 57, 3) := by decide +kernel
theorem dX7_core_49 : decode cX7_core 49 = .ok (.iconst 4, 1) := by decide +kernel
theorem dX7_core_50 : decode cX7_core 50 = .ok (.iload_n 1, 1) := by decide +kernel
theorem dX7_core_51 : decode cX7_core 51 = .ok (.imul, 1) := by decide +kernel
theorem dX7_core_52 : decode cX7_core 52 = .ok (.iload_n 2, 1) := by decide +kernel
theorem dX7_core_53 : decode cX7_core 53 = .ok (.iadd, 1) := by decide +kernel
theorem dX7_core_54 : decode cX7_core 54 = .ok (.daload, 1) := by decide +kernel
theorem dX7_core_55 : decode cX7_core 55 = .ok (.dcmp .l, 1) := by decide +kernel
theorem dX7_core_56 : decode cX7_core 56 = .ok (.ifCond .le 7, 3) := by decide +kernel
theorem dX7_core_59 : decode cX7_core 59 = .ok (.iload_n 3, 1) := by decide +kernel
theorem dX7_core_60 : decode cX7_core 60 = .ok (.goto 4, 3) := by decide +kernel
theorem dX7_core_63 : decode cX7_core 63 = .ok (.iload_n 2, 1) := by decide +kernel
theorem dX7_core_64 : decode cX7_core 64 = .ok (.istore_n 2, 1) := by decide +kernel
theorem dX7_core_65 : decode cX7_core 65 = .ok (.iinc 3 1, 3) := by decide +kernel
theorem dX7_core_68 : decode cX7_core 68 = .ok (.goto (-38), 3) := by decide +kernel
theorem dX7_core_71 : decode cX7_core 71 = .ok (.iconst (-1), 1) := by decide +kernel
theorem dX7_core_72 : decode cX7_core 72 = .ok (.istore_n 3, 1) := by decide +kernel
theorem dX7_core_73 : decode cX7_core 73 = .ok (.iconst 0, 1) := by decide +kernel
theorem dX7_core_74 : decode cX7_core 74 = .ok (.istore 4, 2) := by decide +kernel
theorem dX7_core_76 : decode cX7_core 76 = .ok (.iload 4, 2) := by decide +kernel
theorem dX7_core_78 : decode cX7_core 78 = .ok (.iconst 4, 1) := by decide +kernel
theorem dX7_core_79 : decode cX7_core 79 = .ok (.if_icmp .ge 64, 3) := by decide +kernel
theorem dX7_core_82 : decode cX7_core 82 = .ok (.iload 4, 2) := by decide +kernel
theorem dX7_core_84 : decode cX7_core 84 = .ok (.iload_n 2, 1) := by decide +kernel
theorem dX7_core_85 : decode cX7_core 85 = .ok (.if_icmp .eq 37, 3) := by decide +kernel
theorem dX7_core_88 : decode cX7_core 88 = .ok (.iload_n 3, 1) := by decide +kernel
theorem dX7_core_89 : decode cX7_core 89 = .ok (.iconst (-1), 1) := by decide +kernel
theorem dX7_core_90 : decode cX7_core 90 = .ok (.if_icmp .eq 28, 3) := by decide +kernel
theorem dX7_core_93 : decode cX7_core 93 = .ok (.aload_n 0, 1) := by decide +kernel
theorem dX7_core_94 : decode cX7_core 94 = .ok (.getfield 57, 3) := by decide +kernel
theorem dX7_core_97 : decode cX7_core 97 = .ok (.iconst 4, 1) := by decide +kernel
theorem dX7_core_98 : decode cX7_core 98 = .ok (.iload_n 1, 1) := by decide +kernel
theorem dX7_core_99 : decode cX7_core 99 = .ok (.imul, 1) := by decide +kernel
theorem dX7_core_100 : decode cX7_core 100 = .ok (.iload 4, 2) := by decide +kernel
theorem dX7_core_102 : decode cX7_core 102 = .ok (.iadd, 1) := by decide +kernel
theorem dX7_core_103 : decode cX7_core 103 = .ok (.daload, 1) := by decide +kernel
theorem dX7_core_104 : decode cX7_core 104 = .ok (.aload_n 0, 1) := by decide +kernel
theorem dX7_core_105 : decode cX7_core 105 = .ok (.getfield 57, 3) := by decide +kernel
theorem dX7_core_108 : decode cX7_core 108 = .ok (.iconst 4, 1) := by decide +kernel
theorem dX7_core_109 : decode cX7_core 109 = .ok (.iload_n 1, 1) := by decide +kernel
theorem dX7_core_110 : decode cX7_core 110 = .ok (.imul, 1) := by decide +kernel
theorem dX7_core_111 : decode cX7_core 111 = .ok (.iload_n 3, 1) := by decide +kernel
theorem dX7_core_112 : decode cX7_core 112 = .ok (.iadd, 1) := by decide +kernel
theorem dX7_core_113 : decode cX7_core 113 = .ok (.daload, 1) := by decide +kernel
theorem dX7_core_114 : decode cX7_core 114 = .ok (.dcmp .g, 1) := by decide +kernel
theorem dX7_core_115 : decode cX7_core 115 = .ok (.ifCond .ge 7, 3) := by decide +kernel
theorem dX7_core_118 : decode cX7_core 118 = .ok (.iconst 1, 1) := by decide +kernel
theorem dX7_core_119 : decode cX7_core 119 = .ok (.goto 4, 3) := by decide +kernel
theorem dX7_core_122 : decode cX7_core 122 = .ok (.iconst 0, 1) := by decide +kernel
theorem dX7_core_123 : decode cX7_core 123 = .ok (.istore 5, 2) := by decide +kernel
theorem dX7_core_125 : decode cX7_core 125 = .ok (.iload 5, 2) := by decide +kernel
theorem dX7_core_127 : decode cX7_core 127 = .ok (.ifCond .eq 8, 3) := by decide +kernel
theorem dX7_core_130 : decode cX7_core 130 = .ok (.iload 4, 2) := by decide +kernel
theorem dX7_core_132 : decode cX7_core 132 = .ok (.goto 4, 3) := by decide +kernel
theorem dX7_core_135 : decode cX7_core 135 = .ok (.iload_n 3, 1) := by decide +kernel
theorem dX7_core_136 : decode cX7_core 136 = .ok (.istore_n 3, 1) := by decide +kernel
theorem dX7_core_137 : decode cX7_core 137 = .ok (.iinc 4 1, 3) := by decide +kernel
theorem dX7_core_140 : decode cX7_core 140 = .ok (.goto (-64), 3) := by decide +kernel
theorem dX7_core_143 : decode cX7_core 143 = .ok (.dconst 0, 1) := by decide +kernel
theorem dX7_core_144 : decode cX7_core 144 = .ok (.dstore 4, 2) := by decide +kernel
theorem dX7_core_146 : decode cX7_core 146 = .ok (.iconst 0, 1) := by decide +kernel
theorem dX7_core_147 : decode cX7_core 147 = .ok (.istore 6, 2) := by decide +kernel
theorem dX7_core_149 : decode cX7_core 149 = .ok (.iload 6, 2) := by decide +kernel
theorem dX7_core_151 : decode cX7_core 151 = .ok (.iconst 4, 1) := by decide +kernel
theorem dX7_core_152 : decode cX7_core 152 = .ok (.if_icmp .ge 41, 3) := by decide +kernel
theorem dX7_core_155 : decode cX7_core 155 = .ok (.dload 4, 2) := by decide +kernel
theorem dX7_core_157 : decode cX7_core 157 = .ok (.iload 6, 2) := by decide +kernel
theorem dX7_core_159 : decode cX7_core 159 = .ok (.iload_n 2, 1) := by decide +kernel
theorem dX7_core_160 : decode cX7_core 160 = .ok (.if_icmp .eq 9, 3) := by decide +kernel
theorem dX7_core_163 : decode cX7_core 163 = .ok (.iload 6, 2) := by decide +kernel
theorem dX7_core_165 : decode cX7_core 165 = .ok (.iload_n 3, 1) := by decide +kernel
theorem dX7_core_166 : decode cX7_core 166 = .ok (.if_icmp .ne 7, 3) := by decide +kernel
theorem dX7_core_169 : decode cX7_core 169 = .ok (.dconst 0, 1) := by decide +kernel
theorem dX7_core_170 : decode cX7_core 170 = .ok (.goto 14, 3) := by decide +kernel
theorem dX7_core_173 : decode cX7_core 173 = .ok (.aload_n 0, 1) := by decide +kernel
theorem dX7_core_174 : decode cX7_core 174 = .ok (.getfield 57, 3) := by decide +kernel
theorem dX7_core_177 : decode cX7_core 177 = .ok (.iconst 4, 1) := by decide +kernel
theorem dX7_core_178 : decode cX7_core 178 = .ok (.iload_n 1, 1) := by decide +kernel
theorem dX7_core_179 : decode cX7_core 179 = .ok (.imul, 1) := by decide +kernel
theorem dX7_core_180 : decode cX7_core 180 = .ok (.iload 6, 2) := by decide +kernel
theorem dX7_core_182 : decode cX7_core 182 = .ok (.iadd, 1) := by decide +kernel
theorem dX7_core_183 : decode cX7_core 183 = .ok (.daload, 1) := by decide +kernel
theorem dX7_core_184 : decode cX7_core 184 = .ok (.dadd, 1) := by decide +kernel
theorem dX7_core_185 : decode cX7_core 185 = .ok (.dstore 4, 2) := by decide +kernel
theorem dX7_core_187 : decode cX7_core 187 = .ok (.iinc 6 1, 3) := by decide +kernel
theorem dX7_core_190 : decode cX7_core 190 = .ok (.goto (-41), 3) := by decide +kernel
theorem dX7_core_193 : decode cX7_core 193 = .ok (.dload 4, 2) := by decide +kernel
theorem dX7_core_195 : decode cX7_core 195 = .ok (.ldc2_w 200, 3) := by decide +kernel
theorem dX7_core_198 : decode cX7_core 198 = .ok (.ddiv, 1) := by decide +kernel
theorem dX7_core_199 : decode cX7_core 199 = .ok (.dreturn, 1) := by decide +kernel
set_option maxRecDepth 20000 in
theorem ggX7_direct_X7_isPublished : GoodIn wsX7_direct wsX7_isPublished := goodIn_r _ [8, 9, 10, 11, 7, 12, 19, 20, 21, 22, 23, 24, 25, 26, 27, 28, 29, 30, 31, 32, 33, 34, 35, 36, 37, 38, 39, 40, 41, 42, 43, 44, 45, 46, 47, 48, 49, 50, 51] (by decide +kernel) (by decide +kernel)
set_option maxRecDepth 20000 in
theorem gX7_direct_X7_isPublished : GoodIn wsX7_direct (wsV RX7 185 RX7 yX7_isPublished wsX7_isPublished) := goodIn_app (goodIn_of _ (by decide +kernel)) ggX7_direct_X7_isPublished
set_option maxRecDepth 20000 in
theorem ggX7_direct_X7_shareOf : GoodIn wsX7_direct wsX7_shareOf := goodIn_r _ [16, 17, 18, 19, 20, 21, 22, 23, 24, 25, 26, 27, 28, 29, 30, 31, 32, 33, 34, 35, 36, 37, 38, 39, 40, 41, 42, 43, 44, 45, 46, 47, 48, 49, 50, 51] (by decide +kernel) (by decide +kernel)
set_option maxRecDepth 20000 in
theorem gX7_direct_X7_shareOf : GoodIn wsX7_direct (wsV RX7 153 RX7 yX7_shareOf wsX7_shareOf) := goodIn_app (goodIn_of _ (by decide +kernel)) ggX7_direct_X7_shareOf
theorem dX7_direct_0 : decode cX7_direct 0 = .ok (.aload_n 0, 1) := by decide +kernel
theorem dX7_direct_1 : decode cX7_direct 1 = .ok (.aload_n 0, 1) := by decide +kernel
theorem dX7_direct_2 : decode cX7_direct 2 = .ok (.iload_n 1, 1) := by decide +kernel
theorem dX7_direct_3 : decode cX7_direct 3 = .ok (.invokevirtual 185, 3) := by decide +kernel
theorem dX7_direct_6 : decode cX7_direct 6 = .ok (.ifCond .eq 7, 3) := by decide +kernel
theorem dX7_direct_9 : decode cX7_direct 9 = .ok (.iconst 0, 1) := by decide +kernel
theorem dX7_direct_10 : decode cX7_direct 10 = .ok (.goto 4, 3) := by decide +kernel
theorem dX7_direct_13 : decode cX7_direct 13 = .ok (.iconst 1, 1) := by decide +kernel
theorem dX7_direct_14 : decode cX7_direct 14 = .ok (.putfield 94, 3) := by decide +kernel
theorem dX7_direct_17 : decode cX7_direct 17 = .ok (.aload_n 0, 1) := by decide +kernel
theorem dX7_direct_18 : decode cX7_direct 18 = .ok (.getfield 94, 3) := by decide +kernel
theorem dX7_direct_21 : decode cX7_direct 21 = .ok (.ifCond .le 5, 3) := by decide +kernel
theorem dX7_direct_24 : decode cX7_direct 24 = .ok (.dconst 0, 1) := by decide +kernel
theorem dX7_direct_25 : decode cX7_direct 25 = .ok (.dreturn, 1) := by decide +kernel
theorem dX7_direct_26 : decode cX7_direct 26 = .ok (.dconst 0, 1) := by decide +kernel
theorem dX7_direct_27 : decode cX7_direct 27 = .ok (.dstore_n 2, 1) := by decide +kernel
theorem dX7_direct_28 : decode cX7_direct 28 = .ok (.iconst 0, 1) := by decide +kernel
theorem dX7_direct_29 : decode cX7_direct 29 = .ok (.istore 4, 2) := by decide +kernel
theorem dX7_direct_31 : decode cX7_direct 31 = .ok (.iload 4, 2) := by decide +kernel
theorem dX7_direct_33 : decode cX7_direct 33 = .ok (.iconst 4, 1) := by decide +kernel
theorem dX7_direct_34 : decode cX7_direct 34 = .ok (.if_icmp .ge 58, 3) := by decide +kernel
theorem dX7_direct_37 : decode cX7_direct 37 = .ok (.dconst 1, 1) := by decide +kernel
theorem dX7_direct_38 : decode cX7_direct 38 = .ok (.dstore 5, 2) := by decide +kernel
theorem dX7_direct_40 : decode cX7_direct 40 = .ok (.iconst 1, 1) := by decide +kernel
theorem dX7_direct_41 : decode cX7_direct 41 = .ok (.istore 7, 2) := by decide +kernel
theorem dX7_direct_43 : decode cX7_direct 43 = .ok (.iload 7, 2) := by decide +kernel
theorem dX7_direct_45 : decode cX7_direct 45 = .ok (.iload_n 1, 1) := by decide +kernel
theorem dX7_direct_46 : decode cX7_direct 46 = .ok (.if_icmp .gt 26, 3) := by decide +kernel
theorem dX7_direct_49 : decode cX7_direct 49 = .ok (.dload 5, 2) := by decide +kernel
theorem dX7_direct_51 : decode cX7_direct 51 = .ok (.aload_n 0, 1) := by decide +kernel
theorem dX7_direct_52 : decode cX7_direct 52 = .ok (.getfield 57, 3) := by decide +kernel
theorem dX7_direct_55 : decode cX7_direct 55 = .ok (.iconst 4, 1) := by decide +kernel
theorem dX7_direct_56 : decode cX7_direct 56 = .ok (.iload 7, 2) := by decide +kernel
theorem dX7_direct_58 : decode cX7_direct 58 = .ok (.imul, 1) := by decide +kernel
theorem dX7_direct_59 : decode cX7_direct 59 = .ok (.iload 4, 2) := by decide +kernel
theorem dX7_direct_61 : decode cX7_direct 61 = .ok (.iadd, 1) := by decide +kernel
theorem dX7_direct_62 : decode cX7_direct 62 = .ok (.daload, 1) := by decide +kernel
theorem dX7_direct_63 : decode cX7_direct 63 = .ok (.dmul, 1) := by decide +kernel
theorem dX7_direct_64 : decode cX7_direct 64 = .ok (.dstore 5, 2) := by decide +kernel
theorem dX7_direct_66 : decode cX7_direct 66 = .ok (.iinc 7 1, 3) := by decide +kernel
theorem dX7_direct_69 : decode cX7_direct 69 = .ok (.goto (-26), 3) := by decide +kernel
theorem dX7_direct_72 : decode cX7_direct 72 = .ok (.dload_n 2, 1) := by decide +kernel
theorem dX7_direct_73 : decode cX7_direct 73 = .ok (.aload_n 0, 1) := by decide +kernel
theorem dX7_direct_74 : decode cX7_direct 74 = .ok (.iconst 0, 1) := by decide +kernel
theorem dX7_direct_75 : decode cX7_direct 75 = .ok (.iload 4, 2) := by decide +kernel
theorem dX7_direct_77 : decode cX7_direct 77 = .ok (.iload_n 1, 1) := by decide +kernel
theorem dX7_direct_78 : decode cX7_direct 78 = .ok (.invokevirtual 153, 3) := by decide +kernel
theorem dX7_direct_81 : decode cX7_direct 81 = .ok (.dload 5, 2) := by decide +kernel
theorem dX7_direct_83 : decode cX7_direct 83 = .ok (.dmul, 1) := by decide +kernel
theorem dX7_direct_84 : decode cX7_direct 84 = .ok (.dadd, 1) := by decide +kernel
theorem dX7_direct_85 : decode cX7_direct 85 = .ok (.dstore_n 2, 1) := by decide +kernel
theorem dX7_direct_86 : decode cX7_direct 86 = .ok (.iinc 4 1, 3) := by decide +kernel
theorem dX7_direct_89 : decode cX7_direct 89 = .ok (.goto (-58), 3) := by decide +kernel
theorem dX7_direct_92 : decode cX7_direct 92 = .ok (.ldc2_w 157, 3) := by decide +kernel
theorem dX7_direct_95 : decode cX7_direct 95 = .ok (.dload_n 2, 1) := by decide +kernel
theorem dX7_direct_96 : decode cX7_direct 96 = .ok (.dmul, 1) := by decide +kernel
theorem dX7_direct_97 : decode cX7_direct 97 = .ok (.dreturn, 1) := by decide +kernel
set_option maxRecDepth 20000 in
theorem ggX7_doubts_X7_isPublished : GoodIn wsX7_doubts wsX7_isPublished := goodIn_r _ [9, 10, 11, 12, 8, 13, 24, 25, 26, 27, 28, 29, 30, 31, 32, 33, 34, 35, 36, 37, 38, 39, 40, 41, 42, 43, 44, 45, 46, 47, 48, 49, 50, 51, 52, 53, 54, 55, 56] (by decide +kernel) (by decide +kernel)
set_option maxRecDepth 20000 in
theorem gX7_doubts_X7_isPublished : GoodIn wsX7_doubts (wsV RX7 185 RX7 yX7_isPublished wsX7_isPublished) := goodIn_app (goodIn_of _ (by decide +kernel)) ggX7_doubts_X7_isPublished
set_option maxRecDepth 20000 in
theorem ggX7_doubts_X7_base : GoodIn wsX7_doubts wsX7_base := goodIn_r _ [17, 18, 19, 20, 21, 22, 8, 23, 24, 25, 26, 27, 28, 29, 30, 31, 32, 33, 34, 35, 36, 37, 38, 39, 40, 41, 42, 43, 44, 45, 46, 47, 48, 49, 50, 51, 52, 53, 54, 55, 56] (by decide +kernel) (by decide +kernel)
set_option maxRecDepth 20000 in
theorem gX7_doubts_X7_base : GoodIn wsX7_doubts (wsV RX7 131 RX7 yX7_base wsX7_base) := goodIn_app (goodIn_of _ (by decide +kernel)) ggX7_doubts_X7_base
theorem dX7_doubts_0 : decode cX7_doubts 0 = .ok (.aload_n 0, 1) := by decide +kernel
theorem dX7_doubts_1 : decode cX7_doubts 1 = .ok (.aload_n 0, 1) := by decide +kernel
theorem dX7_doubts_2 : decode cX7_doubts 2 = .ok (.iload_n 1, 1) := by decide +kernel
theorem dX7_doubts_3 : decode cX7_doubts 3 = .ok (.invokevirtual 185, 3) := by decide +kernel
theorem dX7_doubts_6 : decode cX7_doubts 6 = .ok (.ifCond .eq 7, 3) := by decide +kernel
theorem dX7_doubts_9 : decode cX7_doubts 9 = .ok (.iconst 0, 1) := by decide +kernel
theorem dX7_doubts_10 : decode cX7_doubts 10 = .ok (.goto 4, 3) := by decide +kernel
theorem dX7_doubts_13 : decode cX7_doubts 13 = .ok (.iconst 1, 1) := by decide +kernel
theorem dX7_doubts_14 : decode cX7_doubts 14 = .ok (.putfield 94, 3) := by decide +kernel
theorem dX7_doubts_17 : decode cX7_doubts 17 = .ok (.iconst 0, 1) := by decide +kernel
theorem dX7_doubts_18 : decode cX7_doubts 18 = .ok (.istore_n 2, 1) := by decide +kernel
theorem dX7_doubts_19 : decode cX7_doubts 19 = .ok (.iconst 0, 1) := by decide +kernel
theorem dX7_doubts_20 : decode cX7_doubts 20 = .ok (.istore_n 3, 1) := by decide +kernel
theorem dX7_doubts_21 : decode cX7_doubts 21 = .ok (.iload_n 3, 1) := by decide +kernel
theorem dX7_doubts_22 : decode cX7_doubts 22 = .ok (.iconst 4, 1) := by decide +kernel
theorem dX7_doubts_23 : decode cX7_doubts 23 = .ok (.aload_n 0, 1) := by decide +kernel
theorem dX7_doubts_24 : decode cX7_doubts 24 = .ok (.getfield 98, 3) := by decide +kernel
theorem dX7_doubts_27 : decode cX7_doubts 27 = .ok (.imul, 1) := by decide +kernel
theorem dX7_doubts_28 : decode cX7_doubts 28 = .ok (.if_icmp .ge 81, 3) := by decide +kernel
theorem dX7_doubts_31 : decode cX7_doubts 31 = .ok (.aload_n 0, 1) := by decide +kernel
theorem dX7_doubts_32 : decode cX7_doubts 32 = .ok (.getfield 94, 3) := by decide +kernel
theorem dX7_doubts_35 : decode cX7_doubts 35 = .ok (.ifCond .ne 74, 3) := by decide +kernel
theorem dX7_doubts_38 : decode cX7_doubts 38 = .ok (.aload_n 0, 1) := by decide +kernel
theorem dX7_doubts_39 : decode cX7_doubts 39 = .ok (.getfield 19, 3) := by decide +kernel
theorem dX7_doubts_42 : decode cX7_doubts 42 = .ok (.bipush 48, 2) := by decide +kernel
theorem dX7_doubts_44 : decode cX7_doubts 44 = .ok (.iload_n 1, 1) := by decide +kernel
theorem dX7_doubts_45 : decode cX7_doubts 45 = .ok (.imul, 1) := by decide +kernel
theorem dX7_doubts_46 : decode cX7_doubts 46 = .ok (.iload_n 3, 1) := by decide +kernel
theorem dX7_doubts_47 : decode cX7_doubts 47 = .ok (.iadd, 1) := by decide +kernel
theorem dX7_doubts_48 : decode cX7_doubts 48 = .ok (.iaload, 1) := by decide +kernel
theorem dX7_doubts_49 : decode cX7_doubts 49 = .ok (.ifCond .le 24, 3) := by decide +kernel
theorem dX7_doubts_52 : decode cX7_doubts 52 = .ok (.aload_n 0, 1) := by decide +kernel
theorem dX7_doubts_53 : decode cX7_doubts 53 = .ok (.iload_n 1, 1) := by decide +kernel
theorem dX7_doubts_54 : decode cX7_doubts 54 = .ok (.iload_n 3, 1) := by decide +kernel
theorem dX7_doubts_55 : decode cX7_doubts 55 = .ok (.iconst 4, 1) := by decide +kernel
theorem dX7_doubts_56 : decode cX7_doubts 56 = .ok (.idiv, 1) := by decide +kernel
theorem dX7_doubts_57 : decode cX7_doubts 57 = .ok (.iload_n 3, 1) := by decide +kernel
theorem dX7_doubts_58 : decode cX7_doubts 58 = .ok (.iconst 4, 1) := by decide +kernel
theorem dX7_doubts_59 : decode cX7_doubts 59 = .ok (.irem, 1) := by decide +kernel
theorem dX7_doubts_60 : decode cX7_doubts 60 = .ok (.iconst 0, 1) := by decide +kernel
theorem dX7_doubts_61 : decode cX7_doubts 61 = .ok (.invokevirtual 131, 3) := by decide +kernel
theorem dX7_doubts_64 : decode cX7_doubts 64 = .ok (.dconst 0, 1) := by decide +kernel
theorem dX7_doubts_65 : decode cX7_doubts 65 = .ok (.dcmp .l, 1) := by decide +kernel
theorem dX7_doubts_66 : decode cX7_doubts 66 = .ok (.ifCond .le 7, 3) := by decide +kernel
theorem dX7_doubts_69 : decode cX7_doubts 69 = .ok (.iconst 1, 1) := by decide +kernel
theorem dX7_doubts_70 : decode cX7_doubts 70 = .ok (.goto 4, 3) := by decide +kernel
theorem dX7_doubts_73 : decode cX7_doubts 73 = .ok (.iconst 0, 1) := by decide +kernel
theorem dX7_doubts_74 : decode cX7_doubts 74 = .ok (.istore 4, 2) := by decide +kernel
theorem dX7_doubts_76 : decode cX7_doubts 76 = .ok (.iload_n 2, 1) := by decide +kernel
theorem dX7_doubts_77 : decode cX7_doubts 77 = .ok (.iload 4, 2) := by decide +kernel
theorem dX7_doubts_79 : decode cX7_doubts 79 = .ok (.ifCond .eq 21, 3) := by decide +kernel
theorem dX7_doubts_82 : decode cX7_doubts 82 = .ok (.aload_n 0, 1) := by decide +kernel
theorem dX7_doubts_83 : decode cX7_doubts 83 = .ok (.getfield 51, 3) := by decide +kernel
theorem dX7_doubts_86 : decode cX7_doubts 86 = .ok (.bipush 48, 2) := by decide +kernel
theorem dX7_doubts_88 : decode cX7_doubts 88 = .ok (.iload_n 1, 1) := by decide +kernel
theorem dX7_doubts_89 : decode cX7_doubts 89 = .ok (.imul, 1) := by decide +kernel
theorem dX7_doubts_90 : decode cX7_doubts 90 = .ok (.iload_n 3, 1) := by decide +kernel
theorem dX7_doubts_91 : decode cX7_doubts 91 = .ok (.iadd, 1) := by decide +kernel
theorem dX7_doubts_92 : decode cX7_doubts 92 = .ok (.baload, 1) := by decide +kernel
theorem dX7_doubts_93 : decode cX7_doubts 93 = .ok (.ifCond .ne 7, 3) := by decide +kernel
theorem dX7_doubts_96 : decode cX7_doubts 96 = .ok (.iconst 1, 1) := by decide +kernel
theorem dX7_doubts_97 : decode cX7_doubts 97 = .ok (.goto 4, 3) := by decide +kernel
theorem dX7_doubts_100 : decode cX7_doubts 100 = .ok (.iconst 0, 1) := by decide +kernel
theorem dX7_doubts_101 : decode cX7_doubts 101 = .ok (.iadd, 1) := by decide +kernel
theorem dX7_doubts_102 : decode cX7_doubts 102 = .ok (.istore_n 2, 1) := by decide +kernel
theorem dX7_doubts_103 : decode cX7_doubts 103 = .ok (.iinc 3 1, 3) := by decide +kernel
theorem dX7_doubts_106 : decode cX7_doubts 106 = .ok (.goto (-85), 3) := by decide +kernel
theorem dX7_doubts_109 : decode cX7_doubts 109 = .ok (.iload_n 2, 1) := by decide +kernel
theorem dX7_doubts_110 : decode cX7_doubts 110 = .ok (.ireturn, 1) := by decide +kernel
set_option maxRecDepth 20000 in
theorem ggX7_ofContract_X7_in : GoodIn wsX7_ofContract wsX7_in := goodIn_r _ [10] (by decide +kernel) (by decide +kernel)
set_option maxRecDepth 20000 in
theorem gX7_ofContract_X7_in : GoodIn wsX7_ofContract (va_wsS RX7 101 yX7_in wsX7_in) := goodIn_app (goodIn_of _ (by decide +kernel)) ggX7_ofContract_X7_in
theorem dX7_ofContract_0 : decode cX7_ofContract 0 = .ok (.aload_n 0, 1) := by decide +kernel
theorem dX7_ofContract_1 : decode cX7_ofContract 1 = .ok (.iload_n 1, 1) := by decide +kernel
theorem dX7_ofContract_2 : decode cX7_ofContract 2 = .ok (.iconst 0, 1) := by decide +kernel
theorem dX7_ofContract_3 : decode cX7_ofContract 3 = .ok (.aload_n 0, 1) := by decide +kernel
theorem dX7_ofContract_4 : decode cX7_ofContract 4 = .ok (.getfield 174, 3) := by decide +kernel
theorem dX7_ofContract_7 : decode cX7_ofContract 7 = .ok (.iconst 1, 1) := by decide +kernel
theorem dX7_ofContract_8 : decode cX7_ofContract 8 = .ok (.isub, 1) := by decide +kernel
theorem dX7_ofContract_9 : decode cX7_ofContract 9 = .ok (.invokestatic 101, 3) := by decide +kernel
theorem dX7_ofContract_12 : decode cX7_ofContract 12 = .ok (.ifCond .eq 16, 3) := by decide +kernel
theorem dX7_ofContract_15 : decode cX7_ofContract 15 = .ok (.iload_n 2, 1) := by decide +kernel
theorem dX7_ofContract_16 : decode cX7_ofContract 16 = .ok (.iconst 0, 1) := by decide +kernel
theorem dX7_ofContract_17 : decode cX7_ofContract 17 = .ok (.iconst 3, 1) := by decide +kernel
theorem dX7_ofContract_18 : decode cX7_ofContract 18 = .ok (.invokestatic 101, 3) := by decide +kernel
theorem dX7_ofContract_21 : decode cX7_ofContract 21 = .ok (.ifCond .eq 7, 3) := by decide +kernel
theorem dX7_ofContract_24 : decode cX7_ofContract 24 = .ok (.iconst 0, 1) := by decide +kernel
theorem dX7_ofContract_25 : decode cX7_ofContract 25 = .ok (.goto 4, 3) := by decide +kernel
theorem dX7_ofContract_28 : decode cX7_ofContract 28 = .ok (.iconst 1, 1) := by decide +kernel
theorem dX7_ofContract_29 : decode cX7_ofContract 29 = .ok (.putfield 94, 3) := by decide +kernel
theorem dX7_ofContract_32 : decode cX7_ofContract 32 = .ok (.aload_n 0, 1) := by decide +kernel
theorem dX7_ofContract_33 : decode cX7_ofContract 33 = .ok (.getfield 94, 3) := by decide +kernel
theorem dX7_ofContract_36 : decode cX7_ofContract 36 = .ok (.ifCond .le 5, 3) := by decide +kernel
theorem dX7_ofContract_39 : decode cX7_ofContract 39 = .ok (.lconst 0, 1) := by decide +kernel
theorem dX7_ofContract_40 : decode cX7_ofContract 40 = .ok (.lreturn, 1) := by decide +kernel
theorem dX7_ofContract_41 : decode cX7_ofContract 41 = .ok (.iload_n 2, 1) := by decide +kernel
theorem dX7_ofContract_42 : decode cX7_ofContract 42 = .ok (.ifCond .ne 12, 3) := by decide +kernel
theorem dX7_ofContract_45 : decode cX7_ofContract 45 = .ok (.aload_n 0, 1) := by decide +kernel
theorem dX7_ofContract_46 : decode cX7_ofContract 46 = .ok (.getfield 82, 3) := by decide +kernel
theorem dX7_ofContract_49 : decode cX7_ofContract 49 = .ok (.iload_n 1, 1) := by decide +kernel
theorem dX7_ofContract_50 : decode cX7_ofContract 50 = .ok (.laload, 1) := by decide +kernel
theorem dX7_ofContract_51 : decode cX7_ofContract 51 = .ok (.goto 38, 3) := by decide +kernel
theorem dX7_ofContract_54 : decode cX7_ofContract 54 = .ok (.iload_n 2, 1) := by decide +kernel
theorem dX7_ofContract_55 : decode cX7_ofContract 55 = .ok (.iconst 1, 1) := by decide +kernel
theorem dX7_ofContract_56 : decode cX7_ofContract 56 = .ok (.if_icmp .ne 12, 3) := by decide +kernel
theorem dX7_ofContract_59 : decode cX7_ofContract 59 = .ok (.aload_n 0, 1) := by decide +kernel
theorem dX7_ofContract_60 : decode cX7_ofContract 60 = .ok (.getfield 85, 3) := by decide +kernel
theorem dX7_ofContract_63 : decode cX7_ofContract 63 = .ok (.iload_n 1, 1) := by decide +kernel
theorem dX7_ofContract_64 : decode cX7_ofContract 64 = .ok (.laload, 1) := by decide +kernel
theorem dX7_ofContract_65 : decode cX7_ofContract 65 = .ok (.goto 24, 3) := by decide +kernel
theorem dX7_ofContract_68 : decode cX7_ofContract 68 = .ok (.iload_n 2, 1) := by decide +kernel
theorem dX7_ofContract_69 : decode cX7_ofContract 69 = .ok (.iconst 2, 1) := by decide +kernel
theorem dX7_ofContract_70 : decode cX7_ofContract 70 = .ok (.if_icmp .ne 13, 3) := by decide +kernel
theorem dX7_ofContract_73 : decode cX7_ofContract 73 = .ok (.aload_n 0, 1) := by decide +kernel
theorem dX7_ofContract_74 : decode cX7_ofContract 74 = .ok (.getfield 88, 3) := by decide +kernel
theorem dX7_ofContract_77 : decode cX7_ofContract 77 = .ok (.iload_n 1, 1) := by decide +kernel
theorem dX7_ofContract_78 : decode cX7_ofContract 78 = .ok (.iaload, 1) := by decide +kernel
theorem dX7_ofContract_79 : decode cX7_ofContract 79 = .ok (.i2l, 1) := by decide +kernel
theorem dX7_ofContract_80 : decode cX7_ofContract 80 = .ok (.goto 9, 3) := by decide +kernel
theorem dX7_ofContract_83 : decode cX7_ofContract 83 = .ok (.aload_n 0, 1) := by decide +kernel
theorem dX7_ofContract_84 : decode cX7_ofContract 84 = .ok (.getfield 91, 3) := by decide +kernel
theorem dX7_ofContract_87 : decode cX7_ofContract 87 = .ok (.iload_n 1, 1) := by decide +kernel
theorem dX7_ofContract_88 : decode cX7_ofContract 88 = .ok (.laload, 1) := by decide +kernel
theorem dX7_ofContract_89 : decode cX7_ofContract 89 = .ok (.lreturn, 1) := by decide +kernel
set_option maxRecDepth 20000 in
theorem ggX7_owed_X7_in : GoodIn wsX7_owed wsX7_in := goodIn_r _ [12] (by decide +kernel) (by decide +kernel)
set_option maxRecDepth 20000 in
theorem gX7_owed_X7_in : GoodIn wsX7_owed (va_wsS RX7 101 yX7_in wsX7_in) := goodIn_app (goodIn_of _ (by decide +kernel)) ggX7_owed_X7_in
set_option maxRecDepth 20000 in
theorem ggX7_owed_X7_corrects : GoodIn wsX7_owed wsX7_corrects := goodIn_r _ [16, 17, 18, 19, 11, 20, 21, 22, 23, 24, 25, 26, 27, 28, 6, 29, 30, 31, 32, 33, 34, 35, 36, 37, 38, 39, 40, 41, 42, 43, 44, 45, 46, 47, 48, 49, 50, 51, 52, 53, 54, 55, 56, 57, 58, 59, 60, 61, 62, 63, 64, 65, 66, 67, 68, 69, 70, 82, 83, 84, 85, 86, 87, 88, 89, 90, 91, 92, 93, 94, 95, 96, 97, 98, 99, 100, 101, 102, 103, 104, 105, 106, 107, 108, 109, 110, 111, 112, 113, 114] (by decide +kernel) (by decide +kernel)
set_option maxRecDepth 20000 in
theorem gX7_owed_X7_corrects : GoodIn wsX7_owed (wsV RX7 196 RX7 yX7_corrects wsX7_corrects) := goodIn_app (goodIn_of _ (by decide +kernel)) ggX7_owed_X7_corrects
set_option maxRecDepth 20000 in
theorem ggX7_owed_X7_ties : GoodIn wsX7_owed wsX7_ties := goodIn_r _ [74, 75, 76, 77, 82, 83, 84, 85, 86, 87, 88, 89, 90, 91, 92, 93, 94, 95, 96, 97, 98, 99, 100, 101, 102, 103, 104, 105, 106, 107, 108, 109, 110, 111, 112, 113, 114] (by decide +kernel) (by decide +kernel)
set_option maxRecDepth 20000 in
theorem gX7_owed_X7_ties : GoodIn wsX7_owed (wsV RX7 177 RX7 yX7_ties wsX7_ties) := goodIn_app (goodIn_of _ (by decide +kernel)) ggX7_owed_X7_ties
set_option maxRecDepth 20000 in
theorem ggX7_owed_X7_tied : GoodIn wsX7_owed wsX7_tied := goodIn_r _ [80, 81] (by decide +kernel) (by decide +kernel)
set_option maxRecDepth 20000 in
theorem gX7_owed_X7_tied : GoodIn wsX7_owed (va_wsS RX7 181 yX7_tied wsX7_tied) := goodIn_app (goodIn_of _ (by decide +kernel)) ggX7_owed_X7_tied
theorem dX7_owed_0 : decode cX7_owed 0 = .ok (.aload_n 0, 1) := by decide +kernel
theorem dX7_owed_1 : decode cX7_owed 1 = .ok (.iload_n 1, 1) := by decide +kernel
theorem dX7_owed_2 : decode cX7_owed 2 = .ok (.iconst 0, 1) := by decide +kernel
theorem dX7_owed_3 : decode cX7_owed 3 = .ok (.aload_n 0, 1) := by decide +kernel
theorem dX7_owed_4 : decode cX7_owed 4 = .ok (.getfield 174, 3) := by decide +kernel
theorem dX7_owed_7 : decode cX7_owed 7 = .ok (.iconst 1, 1) := by decide +kernel
theorem dX7_owed_8 : decode cX7_owed 8 = .ok (.isub, 1) := by decide +kernel
theorem dX7_owed_9 : decode cX7_owed 9 = .ok (.invokestatic 101, 3) := by decide +kernel
theorem dX7_owed_12 : decode cX7_owed 12 = .ok (.ifCond .eq 7, 3) := by decide +kernel
theorem dX7_owed_15 : decode cX7_owed 15 = .ok (.iconst 0, 1) := by decide +kernel
theorem dX7_owed_16 : decode cX7_owed 16 = .ok (.goto 4, 3) := by decide +kernel
theorem dX7_owed_19 : decode cX7_owed 19 = .ok (.iconst 1, 1) := by decide +kernel
theorem dX7_owed_20 : decode cX7_owed 20 = .ok (.putfield 94, 3) := by decide +kernel
theorem dX7_owed_23 : decode cX7_owed 23 = .ok (.aload_n 0, 1) := by decide +kernel
theorem dX7_owed_24 : decode cX7_owed 24 = .ok (.getfield 94, 3) := by decide +kernel
theorem dX7_owed_27 : decode cX7_owed 27 = .ok (.ifCond .le 5, 3) := by decide +kernel
theorem dX7_owed_30 : decode cX7_owed 30 = .ok (.lconst 0, 1) := by decide +kernel
theorem dX7_owed_31 : decode cX7_owed 31 = .ok (.lreturn, 1) := by decide +kernel
theorem dX7_owed_32 : decode cX7_owed 32 = .ok (.aload_n 0, 1) := by decide +kernel
theorem dX7_owed_33 : decode cX7_owed 33 = .ok (.aload_n 0, 1) := by decide +kernel
theorem dX7_owed_34 : decode cX7_owed 34 = .ok (.getfield 105, 3) := by decide +kernel
theorem dX7_owed_37 : decode cX7_owed 37 = .ok (.iconst 1, 1) := by decide +kernel
theorem dX7_owed_38 : decode cX7_owed 38 = .ok (.isub, 1) := by decide +kernel
theorem dX7_owed_39 : decode cX7_owed 39 = .ok (.invokevirtual 196, 3) := by decide +kernel
theorem dX7_owed_42 : decode cX7_owed 42 = .ok (.aload_n 0, 1) := by decide +kernel
theorem dX7_owed_43 : decode cX7_owed 43 = .ok (.getfield 75, 3) := by decide +kernel
theorem dX7_owed_46 : decode cX7_owed 46 = .ok (.iload_n 1, 1) := by decide +kernel
theorem dX7_owed_47 : decode cX7_owed 47 = .ok (.laload, 1) := by decide +kernel
theorem dX7_owed_48 : decode cX7_owed 48 = .ok (.lstore_n 2, 1) := by decide +kernel
theorem dX7_owed_49 : decode cX7_owed 49 = .ok (.aload_n 0, 1) := by decide +kernel
theorem dX7_owed_50 : decode cX7_owed 50 = .ok (.getfield 79, 3) := by decide +kernel
theorem dX7_owed_53 : decode cX7_owed 53 = .ok (.iload_n 1, 1) := by decide +kernel
theorem dX7_owed_54 : decode cX7_owed 54 = .ok (.iaload, 1) := by decide +kernel
theorem dX7_owed_55 : decode cX7_owed 55 = .ok (.istore 4, 2) := by decide +kernel
theorem dX7_owed_57 : decode cX7_owed 57 = .ok (.aload_n 0, 1) := by decide +kernel
theorem dX7_owed_58 : decode cX7_owed 58 = .ok (.getfield 63, 3) := by decide +kernel
theorem dX7_owed_61 : decode cX7_owed 61 = .ok (.bipush 24, 2) := by decide +kernel
theorem dX7_owed_63 : decode cX7_owed 63 = .ok (.iload 4, 2) := by decide +kernel
theorem dX7_owed_65 : decode cX7_owed 65 = .ok (.iadd, 1) := by decide +kernel
theorem dX7_owed_66 : decode cX7_owed 66 = .ok (.iaload, 1) := by decide +kernel
theorem dX7_owed_67 : decode cX7_owed 67 = .ok (.i2l, 1) := by decide +kernel
theorem dX7_owed_68 : decode cX7_owed 68 = .ok (.lstore 5, 2) := by decide +kernel
theorem dX7_owed_70 : decode cX7_owed 70 = .ok (.lconst 0, 1) := by decide +kernel
theorem dX7_owed_71 : decode cX7_owed 71 = .ok (.lstore 7, 2) := by decide +kernel
theorem dX7_owed_73 : decode cX7_owed 73 = .ok (.aload_n 0, 1) := by decide +kernel
theorem dX7_owed_74 : decode cX7_owed 74 = .ok (.getfield 79, 3) := by decide +kernel
theorem dX7_owed_77 : decode cX7_owed 77 = .ok (.iload_n 1, 1) := by decide +kernel
theorem dX7_owed_78 : decode cX7_owed 78 = .ok (.iaload, 1) := by decide +kernel
theorem dX7_owed_79 : decode cX7_owed 79 = .ok (.iconst 1, 1) := by decide +kernel
theorem dX7_owed_80 : decode cX7_owed 80 = .ok (.iadd, 1) := by decide +kernel
theorem dX7_owed_81 : decode cX7_owed 81 = .ok (.istore 9, 2) := by decide +kernel
theorem dX7_owed_83 : decode cX7_owed 83 = .ok (.iload 9, 2) := by decide +kernel
theorem dX7_owed_85 : decode cX7_owed 85 = .ok (.aload_n 0, 1) := by decide +kernel
theorem dX7_owed_86 : decode cX7_owed 86 = .ok (.getfield 105, 3) := by decide +kernel
theorem dX7_owed_89 : decode cX7_owed 89 = .ok (.if_icmp .ge 89, 3) := by decide +kernel
theorem dX7_owed_92 : decode cX7_owed 92 = .ok (.iload 9, 2) := by decide +kernel
theorem dX7_owed_94 : decode cX7_owed 94 = .ok (.aload_n 0, 1) := by decide +kernel
theorem dX7_owed_95 : decode cX7_owed 95 = .ok (.getfield 66, 3) := by decide +kernel
theorem dX7_owed_98 : decode cX7_owed 98 = .ok (.iload_n 1, 1) := by decide +kernel
theorem dX7_owed_99 : decode cX7_owed 99 = .ok (.iaload, 1) := by decide +kernel
theorem dX7_owed_100 : decode cX7_owed 100 = .ok (.isub, 1) := by decide +kernel
theorem dX7_owed_101 : decode cX7_owed 101 = .ok (.istore 10, 2) := by decide +kernel
theorem dX7_owed_103 : decode cX7_owed 103 = .ok (.iload 10, 2) := by decide +kernel
theorem dX7_owed_105 : decode cX7_owed 105 = .ok (.iload 4, 2) := by decide +kernel
theorem dX7_owed_107 : decode cX7_owed 107 = .ok (.if_icmp .le 59, 3) := by decide +kernel
theorem dX7_owed_110 : decode cX7_owed 110 = .ok (.aload_n 0, 1) := by decide +kernel
theorem dX7_owed_111 : decode cX7_owed 111 = .ok (.iload_n 1, 1) := by decide +kernel
theorem dX7_owed_112 : decode cX7_owed 112 = .ok (.aload_n 0, 1) := by decide +kernel
theorem dX7_owed_113 : decode cX7_owed 113 = .ok (.getfield 63, 3) := by decide +kernel
theorem dX7_owed_116 : decode cX7_owed 116 = .ok (.bipush 24, 2) := by decide +kernel
theorem dX7_owed_118 : decode cX7_owed 118 = .ok (.iload 10, 2) := by decide +kernel
theorem dX7_owed_120 : decode cX7_owed 120 = .ok (.iadd, 1) := by decide +kernel
theorem dX7_owed_121 : decode cX7_owed 121 = .ok (.iaload, 1) := by decide +kernel
theorem dX7_owed_122 : decode cX7_owed 122 = .ok (.i2l, 1) := by decide +kernel
theorem dX7_owed_123 : decode cX7_owed 123 = .ok (.lload 5, 2) := by decide +kernel
theorem dX7_owed_125 : decode cX7_owed 125 = .ok (.invokevirtual 177, 3) := by decide +kernel
theorem dX7_owed_128 : decode cX7_owed 128 = .ok (.ifCond .eq 38, 3) := by decide +kernel
theorem dX7_owed_131 : decode cX7_owed 131 = .ok (.lload_n 2, 1) := by decide +kernel
theorem dX7_owed_132 : decode cX7_owed 132 = .ok (.aload_n 0, 1) := by decide +kernel
theorem dX7_owed_133 : decode cX7_owed 133 = .ok (.getfield 63, 3) := by decide +kernel
theorem dX7_owed_136 : decode cX7_owed 136 = .ok (.bipush 24, 2) := by decide +kernel
theorem dX7_owed_138 : decode cX7_owed 138 = .ok (.iload 10, 2) := by decide +kernel
theorem dX7_owed_140 : decode cX7_owed 140 = .ok (.iadd, 1) := by decide +kernel
theorem dX7_owed_141 : decode cX7_owed 141 = .ok (.iaload, 1) := by decide +kernel
theorem dX7_owed_142 : decode cX7_owed 142 = .ok (.i2l, 1) := by decide +kernel
theorem dX7_owed_143 : decode cX7_owed 143 = .ok (.lload 5, 2) := by decide +kernel
theorem dX7_owed_145 : decode cX7_owed 145 = .ok (.invokestatic 181, 3) := by decide +kernel
theorem dX7_owed_148 : decode cX7_owed 148 = .ok (.lstore_n 2, 1) := by decide +kernel
theorem dX7_owed_149 : decode cX7_owed 149 = .ok (.aload_n 0, 1) := by decide +kernel
theorem dX7_owed_150 : decode cX7_owed 150 = .ok (.getfield 63, 3) := by decide +kernel
theorem dX7_owed_153 : decode cX7_owed 153 = .ok (.bipush 24, 2) := by decide +kernel
theorem dX7_owed_155 : decode cX7_owed 155 = .ok (.iload 10, 2) := by decide +kernel
theorem dX7_owed_157 : decode cX7_owed 157 = .ok (.iadd, 1) := by decide +kernel
theorem dX7_owed_158 : decode cX7_owed 158 = .ok (.iaload, 1) := by decide +kernel
theorem dX7_owed_159 : decode cX7_owed 159 = .ok (.i2l, 1) := by decide +kernel
theorem dX7_owed_160 : decode cX7_owed 160 = .ok (.lstore 5, 2) := by decide +kernel
theorem dX7_owed_162 : decode cX7_owed 162 = .ok (.iload 10, 2) := by decide +kernel
theorem dX7_owed_164 : decode cX7_owed 164 = .ok (.istore 4, 2) := by decide +kernel
theorem dX7_owed_166 : decode cX7_owed 166 = .ok (.lload 7, 2) := by decide +kernel
theorem dX7_owed_168 : decode cX7_owed 168 = .ok (.lload_n 2, 1) := by decide +kernel
theorem dX7_owed_169 : decode cX7_owed 169 = .ok (.ladd, 1) := by decide +kernel
theorem dX7_owed_170 : decode cX7_owed 170 = .ok (.lstore 7, 2) := by decide +kernel
theorem dX7_owed_172 : decode cX7_owed 172 = .ok (.iinc 9 1, 3) := by decide +kernel
theorem dX7_owed_175 : decode cX7_owed 175 = .ok (.goto (-92), 3) := by decide +kernel
theorem dX7_owed_178 : decode cX7_owed 178 = .ok (.lload 7, 2) := by decide +kernel
theorem dX7_owed_180 : decode cX7_owed 180 = .ok (.aload_n 0, 1) := by decide +kernel
theorem dX7_owed_181 : decode cX7_owed 181 = .ok (.getfield 91, 3) := by decide +kernel
theorem dX7_owed_184 : decode cX7_owed 184 = .ok (.iload_n 1, 1) := by decide +kernel
theorem dX7_owed_185 : decode cX7_owed 185 = .ok (.laload, 1) := by decide +kernel
theorem dX7_owed_186 : decode cX7_owed 186 = .ok (.lsub, 1) := by decide +kernel
theorem dX7_owed_187 : decode cX7_owed 187 = .ok (.lreturn, 1) := by decide +kernel
set_option maxRecDepth 20000 in
theorem ggX7_count_X7_in : GoodIn wsX7_count wsX7_in := goodIn_r _ [10] (by decide +kernel) (by decide +kernel)
set_option maxRecDepth 20000 in
theorem gX7_count_X7_in : GoodIn wsX7_count (va_wsS RX7 101 yX7_in wsX7_in) := goodIn_app (goodIn_of _ (by decide +kernel)) ggX7_count_X7_in
theorem dX7_count_0 : decode cX7_count 0 = .ok (.aload_n 0, 1) := by decide +kernel
theorem dX7_count_1 : decode cX7_count 1 = .ok (.iload_n 1, 1) := by decide +kernel
theorem dX7_count_2 : decode cX7_count 2 = .ok (.iconst 0, 1) := by decide +kernel
theorem dX7_count_3 : decode cX7_count 3 = .ok (.iconst 4, 1) := by decide +kernel
theorem dX7_count_4 : decode cX7_count 4 = .ok (.invokestatic 101, 3) := by decide +kernel
theorem dX7_count_7 : decode cX7_count 7 = .ok (.ifCond .eq 7, 3) := by decide +kernel
theorem dX7_count_10 : decode cX7_count 10 = .ok (.iconst 0, 1) := by decide +kernel
theorem dX7_count_11 : decode cX7_count 11 = .ok (.goto 4, 3) := by decide +kernel
theorem dX7_count_14 : decode cX7_count 14 = .ok (.iconst 1, 1) := by decide +kernel
theorem dX7_count_15 : decode cX7_count 15 = .ok (.putfield 94, 3) := by decide +kernel
theorem dX7_count_18 : decode cX7_count 18 = .ok (.aload_n 0, 1) := by decide +kernel
theorem dX7_count_19 : decode cX7_count 19 = .ok (.getfield 94, 3) := by decide +kernel
theorem dX7_count_22 : decode cX7_count 22 = .ok (.ifCond .le 5, 3) := by decide +kernel
theorem dX7_count_25 : decode cX7_count 25 = .ok (.iconst 0, 1) := by decide +kernel
theorem dX7_count_26 : decode cX7_count 26 = .ok (.ireturn, 1) := by decide +kernel
theorem dX7_count_27 : decode cX7_count 27 = .ok (.iload_n 1, 1) := by decide +kernel
theorem dX7_count_28 : decode cX7_count 28 = .ok (.ifCond .ne 10, 3) := by decide +kernel
theorem dX7_count_31 : decode cX7_count 31 = .ok (.aload_n 0, 1) := by decide +kernel
theorem dX7_count_32 : decode cX7_count 32 = .ok (.getfield 98, 3) := by decide +kernel
theorem dX7_count_35 : decode cX7_count 35 = .ok (.goto 43, 3) := by decide +kernel
theorem dX7_count_38 : decode cX7_count 38 = .ok (.iload_n 1, 1) := by decide +kernel
theorem dX7_count_39 : decode cX7_count 39 = .ok (.iconst 1, 1) := by decide +kernel
theorem dX7_count_40 : decode cX7_count 40 = .ok (.if_icmp .ne 10, 3) := by decide +kernel
theorem dX7_count_43 : decode cX7_count 43 = .ok (.aload_n 0, 1) := by decide +kernel
theorem dX7_count_44 : decode cX7_count 44 = .ok (.getfield 105, 3) := by decide +kernel
theorem dX7_count_47 : decode cX7_count 47 = .ok (.goto 31, 3) := by decide +kernel
theorem dX7_count_50 : decode cX7_count 50 = .ok (.iload_n 1, 1) := by decide +kernel
theorem dX7_count_51 : decode cX7_count 51 = .ok (.iconst 2, 1) := by decide +kernel
theorem dX7_count_52 : decode cX7_count 52 = .ok (.if_icmp .ne 10, 3) := by decide +kernel
theorem dX7_count_55 : decode cX7_count 55 = .ok (.aload_n 0, 1) := by decide +kernel
theorem dX7_count_56 : decode cX7_count 56 = .ok (.getfield 123, 3) := by decide +kernel
theorem dX7_count_59 : decode cX7_count 59 = .ok (.goto 19, 3) := by decide +kernel
theorem dX7_count_62 : decode cX7_count 62 = .ok (.iload_n 1, 1) := by decide +kernel
theorem dX7_count_63 : decode cX7_count 63 = .ok (.iconst 3, 1) := by decide +kernel
theorem dX7_count_64 : decode cX7_count 64 = .ok (.if_icmp .ne 10, 3) := by decide +kernel
theorem dX7_count_67 : decode cX7_count 67 = .ok (.aload_n 0, 1) := by decide +kernel
theorem dX7_count_68 : decode cX7_count 68 = .ok (.getfield 174, 3) := by decide +kernel
theorem dX7_count_71 : decode cX7_count 71 = .ok (.goto 7, 3) := by decide +kernel
theorem dX7_count_74 : decode cX7_count 74 = .ok (.aload_n 0, 1) := by decide +kernel
theorem dX7_count_75 : decode cX7_count 75 = .ok (.getfield 188, 3) := by decide +kernel
theorem dX7_count_78 : decode cX7_count 78 = .ok (.ireturn, 1) := by decide +kernel
