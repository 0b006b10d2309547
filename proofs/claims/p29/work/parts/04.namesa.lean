theorem dX0_init_0 : decode cX0_init 0 = .ok (.aload_n 0, 1) := by decide +kernel
theorem dX0_init_1 : decode cX0_init 1 = .ok (.invokespecial 3, 3) := by decide +kernel
theorem dX0_init_4 : decode cX0_init 4 = .ok (.aload_n 0, 1) := by decide +kernel
theorem dX0_init_5 : decode cX0_init 5 = .ok (.iload_n 1, 1) := by decide +kernel
theorem dX0_init_6 : decode cX0_init 6 = .ok (.putfield 9, 3) := by decide +kernel
theorem dX0_init_9 : decode cX0_init 9 = .ok (.aload_n 0, 1) := by decide +kernel
theorem dX0_init_10 : decode cX0_init 10 = .ok (.iload_n 2, 1) := by decide +kernel
theorem dX0_init_11 : decode cX0_init 11 = .ok (.putfield 15, 3) := by decide +kernel
theorem dX0_init_14 : decode cX0_init 14 = .ok (.aload_n 0, 1) := by decide +kernel
theorem dX0_init_15 : decode cX0_init 15 = .ok (.iload_n 3, 1) := by decide +kernel
theorem dX0_init_16 : decode cX0_init 16 = .ok (.putfield 18, 3) := by decide +kernel
theorem dX0_init_19 : decode cX0_init 19 = .ok (.aload_n 0, 1) := by decide +kernel
theorem dX0_init_20 : decode cX0_init 20 = .ok (.iload 4, 2) := by decide +kernel
theorem dX0_init_22 : decode cX0_init 22 = .ok (.putfield 21, 3) := by decide +kernel
theorem dX0_init_25 : decode cX0_init 25 = .ok (.return_, 1) := by decide +kernel
theorem dX0_begin_0 : decode cX0_begin 0 = .ok (.aload_n 0, 1) := by decide +kernel
theorem dX0_begin_1 : decode cX0_begin 1 = .ok (.iload_n 1, 1) := by decide +kernel
theorem dX0_begin_2 : decode cX0_begin 2 = .ok (.putfield 25, 3) := by decide +kernel
theorem dX0_begin_5 : decode cX0_begin 5 = .ok (.aload_n 0, 1) := by decide +kernel
theorem dX0_begin_6 : decode cX0_begin 6 = .ok (.aload_n 0, 1) := by decide +kernel
theorem dX0_begin_7 : decode cX0_begin 7 = .ok (.getfield 9, 3) := by decide +kernel
theorem dX0_begin_10 : decode cX0_begin 10 = .ok (.i2l, 1) := by decide +kernel
theorem dX0_begin_11 : decode cX0_begin 11 = .ok (.putfield 28, 3) := by decide +kernel
theorem dX0_begin_14 : decode cX0_begin 14 = .ok (.aload_n 0, 1) := by decide +kernel
theorem dX0_begin_15 : decode cX0_begin 15 = .ok (.aload_n 2, 1) := by decide +kernel
theorem dX0_begin_16 : decode cX0_begin 16 = .ok (.iload_n 1, 1) := by decide +kernel
theorem dX0_begin_17 : decode cX0_begin 17 = .ok (.iaload, 1) := by decide +kernel
theorem dX0_begin_18 : decode cX0_begin 18 = .ok (.i2l, 1) := by decide +kernel
theorem dX0_begin_19 : decode cX0_begin 19 = .ok (.putfield 32, 3) := by decide +kernel
theorem dX0_begin_22 : decode cX0_begin 22 = .ok (.aload_n 0, 1) := by decide +kernel
theorem dX0_begin_23 : decode cX0_begin 23 = .ok (.iload_n 1, 1) := by decide +kernel
theorem dX0_begin_24 : decode cX0_begin 24 = .ok (.putfield 35, 3) := by decide +kernel
theorem dX0_begin_27 : decode cX0_begin 27 = .ok (.aload_n 0, 1) := by decide +kernel
theorem dX0_begin_28 : decode cX0_begin 28 = .ok (.lconst 0, 1) := by decide +kernel
theorem dX0_begin_29 : decode cX0_begin 29 = .ok (.putfield 38, 3) := by decide +kernel
theorem dX0_begin_32 : decode cX0_begin 32 = .ok (.return_, 1) := by decide +kernel
set_option maxRecDepth 20000 in
theorem ggX0_pay_X0_isTriggeredBy : GoodIn wsX0_pay wsX0_isTriggeredBy := goodIn_r _ [15, 4, 16, 17, 18, 19, 20, 21, 22, 23, 24, 25, 26, 27] (by decide +kernel) (by decide +kernel)
set_option maxRecDepth 20000 in
theorem gX0_pay_X0_isTriggeredBy : GoodIn wsX0_pay (wsV RX0 41 RX0 yX0_isTriggeredBy wsX0_isTriggeredBy) := goodIn_app (goodIn_of _ (by decide +kernel)) ggX0_pay_X0_isTriggeredBy
theorem dX0_pay_0 : decode cX0_pay 0 = .ok (.iload_n 1, 1) := by decide +kernel
theorem dX0_pay_1 : decode cX0_pay 1 = .ok (.aload_n 0, 1) := by decide +kernel
theorem dX0_pay_2 : decode cX0_pay 2 = .ok (.getfield 15, 3) := by decide +kernel
theorem dX0_pay_5 : decode cX0_pay 5 = .ok (.isub, 1) := by decide +kernel
theorem dX0_pay_6 : decode cX0_pay 6 = .ok (.istore_n 3, 1) := by decide +kernel
theorem dX0_pay_7 : decode cX0_pay 7 = .ok (.iload_n 3, 1) := by decide +kernel
theorem dX0_pay_8 : decode cX0_pay 8 = .ok (.aload_n 0, 1) := by decide +kernel
theorem dX0_pay_9 : decode cX0_pay 9 = .ok (.getfield 35, 3) := by decide +kernel
theorem dX0_pay_12 : decode cX0_pay 12 = .ok (.if_icmp .le 51, 3) := by decide +kernel
theorem dX0_pay_15 : decode cX0_pay 15 = .ok (.aload_n 0, 1) := by decide +kernel
theorem dX0_pay_16 : decode cX0_pay 16 = .ok (.aload_n 2, 1) := by decide +kernel
theorem dX0_pay_17 : decode cX0_pay 17 = .ok (.iload_n 3, 1) := by decide +kernel
theorem dX0_pay_18 : decode cX0_pay 18 = .ok (.iaload, 1) := by decide +kernel
theorem dX0_pay_19 : decode cX0_pay 19 = .ok (.i2l, 1) := by decide +kernel
theorem dX0_pay_20 : decode cX0_pay 20 = .ok (.invokevirtual 41, 3) := by decide +kernel
theorem dX0_pay_23 : decode cX0_pay 23 = .ok (.ifCond .eq 40, 3) := by decide +kernel
theorem dX0_pay_26 : decode cX0_pay 26 = .ok (.aload_n 0, 1) := by decide +kernel
theorem dX0_pay_27 : decode cX0_pay 27 = .ok (.aload_n 0, 1) := by decide +kernel
theorem dX0_pay_28 : decode cX0_pay 28 = .ok (.getfield 28, 3) := by decide +kernel
theorem dX0_pay_31 : decode cX0_pay 31 = .ok (.aload_n 2, 1) := by decide +kernel
theorem dX0_pay_32 : decode cX0_pay 32 = .ok (.iload_n 3, 1) := by decide +kernel
theorem dX0_pay_33 : decode cX0_pay 33 = .ok (.iaload, 1) := by decide +kernel
theorem dX0_pay_34 : decode cX0_pay 34 = .ok (.i2l, 1) := by decide +kernel
theorem dX0_pay_35 : decode cX0_pay 35 = .ok (.lmul, 1) := by decide +kernel
theorem dX0_pay_36 : decode cX0_pay 36 = .ok (.aload_n 0, 1) := by decide +kernel
theorem dX0_pay_37 : decode cX0_pay 37 = .ok (.getfield 32, 3) := by decide +kernel
theorem dX0_pay_40 : decode cX0_pay 40 = .ok (.ldiv, 1) := by decide +kernel
theorem dX0_pay_41 : decode cX0_pay 41 = .ok (.ldc2_w 45, 3) := by decide +kernel
theorem dX0_pay_44 : decode cX0_pay 44 = .ok (.invokestatic 47, 3) := by decide +kernel
theorem dX0_pay_47 : decode cX0_pay 47 = .ok (.putfield 28, 3) := by decide +kernel
theorem dX0_pay_50 : decode cX0_pay 50 = .ok (.aload_n 0, 1) := by decide +kernel
theorem dX0_pay_51 : decode cX0_pay 51 = .ok (.aload_n 2, 1) := by decide +kernel
theorem dX0_pay_52 : decode cX0_pay 52 = .ok (.iload_n 3, 1) := by decide +kernel
theorem dX0_pay_53 : decode cX0_pay 53 = .ok (.iaload, 1) := by decide +kernel
theorem dX0_pay_54 : decode cX0_pay 54 = .ok (.i2l, 1) := by decide +kernel
theorem dX0_pay_55 : decode cX0_pay 55 = .ok (.putfield 32, 3) := by decide +kernel
theorem dX0_pay_58 : decode cX0_pay 58 = .ok (.aload_n 0, 1) := by decide +kernel
theorem dX0_pay_59 : decode cX0_pay 59 = .ok (.iload_n 3, 1) := by decide +kernel
theorem dX0_pay_60 : decode cX0_pay 60 = .ok (.putfield 35, 3) := by decide +kernel
theorem dX0_pay_63 : decode cX0_pay 63 = .ok (.aload_n 0, 1) := by decide +kernel
theorem dX0_pay_64 : decode cX0_pay 64 = .ok (.dup, 1) := by decide +kernel
theorem dX0_pay_65 : decode cX0_pay 65 = .ok (.getfield 38, 3) := by decide +kernel
theorem dX0_pay_68 : decode cX0_pay 68 = .ok (.aload_n 0, 1) := by decide +kernel
theorem dX0_pay_69 : decode cX0_pay 69 = .ok (.getfield 28, 3) := by decide +kernel
theorem dX0_pay_72 : decode cX0_pay 72 = .ok (.ladd, 1) := by decide +kernel
theorem dX0_pay_73 : decode cX0_pay 73 = .ok (.putfield 38, 3) := by decide +kernel
theorem dX0_pay_76 : decode cX0_pay 76 = .ok (.return_, 1) := by decide +kernel
theorem dX0_isTriggeredBy_0 : decode cX0_isTriggeredBy 0 = .ok (.aload_n 0, 1) := by decide +kernel
theorem dX0_isTriggeredBy_1 : decode cX0_isTriggeredBy 1 = .ok (.getfield 32, 3) := by decide +kernel
theorem dX0_isTriggeredBy_4 : decode cX0_isTriggeredBy 4 = .ok (.lconst 1, 1) := by decide +kernel
theorem dX0_isTriggeredBy_5 : decode cX0_isTriggeredBy 5 = .ok (.lcmp, 1) := by decide +kernel
theorem dX0_isTriggeredBy_6 : decode cX0_isTriggeredBy 6 = .ok (.ifCond .ge 5, 3) := by decide +kernel
theorem dX0_isTriggeredBy_9 : decode cX0_isTriggeredBy 9 = .ok (.iconst 0, 1) := by decide +kernel
theorem dX0_isTriggeredBy_10 : decode cX0_isTriggeredBy 10 = .ok (.ireturn, 1) := by decide +kernel
theorem dX0_isTriggeredBy_11 : decode cX0_isTriggeredBy 11 = .ok (.lload_n 1, 1) := by decide +kernel
theorem dX0_isTriggeredBy_12 : decode cX0_isTriggeredBy 12 = .ok (.ldc2_w 53, 3) := by decide +kernel
theorem dX0_isTriggeredBy_15 : decode cX0_isTriggeredBy 15 = .ok (.lmul, 1) := by decide +kernel
theorem dX0_isTriggeredBy_16 : decode cX0_isTriggeredBy 16 = .ok (.aload_n 0, 1) := by decide +kernel
theorem dX0_isTriggeredBy_17 : decode cX0_isTriggeredBy 17 = .ok (.getfield 32, 3) := by decide +kernel
theorem dX0_isTriggeredBy_20 : decode cX0_isTriggeredBy 20 = .ok (.sipush 1000, 3) := by decide +kernel
theorem dX0_isTriggeredBy_23 : decode cX0_isTriggeredBy 23 = .ok (.aload_n 0, 1) := by decide +kernel
theorem dX0_isTriggeredBy_24 : decode cX0_isTriggeredBy 24 = .ok (.getfield 18, 3) := by decide +kernel
theorem dX0_isTriggeredBy_27 : decode cX0_isTriggeredBy 27 = .ok (.iadd, 1) := by decide +kernel
theorem dX0_isTriggeredBy_28 : decode cX0_isTriggeredBy 28 = .ok (.i2l, 1) := by decide +kernel
theorem dX0_isTriggeredBy_29 : decode cX0_isTriggeredBy 29 = .ok (.lmul, 1) := by decide +kernel
theorem dX0_isTriggeredBy_30 : decode cX0_isTriggeredBy 30 = .ok (.lcmp, 1) := by decide +kernel
theorem dX0_isTriggeredBy_31 : decode cX0_isTriggeredBy 31 = .ok (.ifCond .ge 33, 3) := by decide +kernel
theorem dX0_isTriggeredBy_34 : decode cX0_isTriggeredBy 34 = .ok (.aload_n 0, 1) := by decide +kernel
theorem dX0_isTriggeredBy_35 : decode cX0_isTriggeredBy 35 = .ok (.getfield 21, 3) := by decide +kernel
theorem dX0_isTriggeredBy_38 : decode cX0_isTriggeredBy 38 = .ok (.ifCond .ne 30, 3) := by decide +kernel
theorem dX0_isTriggeredBy_41 : decode cX0_isTriggeredBy 41 = .ok (.lload_n 1, 1) := by decide +kernel
theorem dX0_isTriggeredBy_42 : decode cX0_isTriggeredBy 42 = .ok (.ldc2_w 53, 3) := by decide +kernel
theorem dX0_isTriggeredBy_45 : decode cX0_isTriggeredBy 45 = .ok (.lmul, 1) := by decide +kernel
theorem dX0_isTriggeredBy_46 : decode cX0_isTriggeredBy 46 = .ok (.aload_n 0, 1) := by decide +kernel
theorem dX0_isTriggeredBy_47 : decode cX0_isTriggeredBy 47 = .ok (.getfield 32, 3) := by decide +kernel
theorem dX0_isTriggeredBy_50 : decode cX0_isTriggeredBy 50 = .ok (.sipush 1000, 3) := by decide +kernel
theorem dX0_isTriggeredBy_53 : decode cX0_isTriggeredBy 53 = .ok (.aload_n 0, 1) := by decide +kernel
theorem dX0_isTriggeredBy_54 : decode cX0_isTriggeredBy 54 = .ok (.getfield 18, 3) := by decide +kernel
theorem dX0_isTriggeredBy_57 : decode cX0_isTriggeredBy 57 = .ok (.isub, 1) := by decide +kernel
theorem dX0_isTriggeredBy_58 : decode cX0_isTriggeredBy 58 = .ok (.i2l, 1) := by decide +kernel
theorem dX0_isTriggeredBy_59 : decode cX0_isTriggeredBy 59 = .ok (.lmul, 1) := by decide +kernel
theorem dX0_isTriggeredBy_60 : decode cX0_isTriggeredBy 60 = .ok (.lcmp, 1) := by decide +kernel
theorem dX0_isTriggeredBy_61 : decode cX0_isTriggeredBy 61 = .ok (.ifCond .gt 7, 3) := by decide +kernel
theorem dX0_isTriggeredBy_64 : decode cX0_isTriggeredBy 64 = .ok (.iconst 1, 1) := by decide +kernel
theorem dX0_isTriggeredBy_65 : decode cX0_isTriggeredBy 65 = .ok (.goto 4, 3) := by decide +kernel
theorem dX0_isTriggeredBy_68 : decode cX0_isTriggeredBy 68 = .ok (.iconst 0, 1) := by decide +kernel
theorem dX0_isTriggeredBy_69 : decode cX0_isTriggeredBy 69 = .ok (.ireturn, 1) := by decide +kernel
set_option maxRecDepth 20000 in
theorem ggX0_paidAnew_X0_init : GoodIn wsX0_paidAnew wsX0_init := goodIn_r _ [12, 13, 14, 15, 4, 5, 6, 7, 37, 38, 39, 40, 41, 42, 43, 44, 45] (by decide +kernel) (by decide +kernel)
set_option maxRecDepth 20000 in
theorem gX0_paidAnew_X0_init : GoodIn wsX0_paidAnew (wsX0_init) := ggX0_paidAnew_X0_init
set_option maxRecDepth 20000 in
theorem ggX0_paidAnew_X0_begin : GoodIn wsX0_paidAnew wsX0_begin := goodIn_r _ [19, 8, 4, 20, 21, 22, 9, 37, 38, 39, 40, 41, 42, 43, 44, 45] (by decide +kernel) (by decide +kernel)
set_option maxRecDepth 20000 in
theorem gX0_paidAnew_X0_begin : GoodIn wsX0_paidAnew (wsV RX0 58 RX0 yX0_begin wsX0_begin) := goodIn_app (goodIn_of _ (by decide +kernel)) ggX0_paidAnew_X0_begin
set_option maxRecDepth 20000 in
theorem ggX0_paidAnew_X0_pay : GoodIn wsX0_paidAnew wsX0_pay := goodIn_r _ [26, 5, 22, 20, 21, 27, 28, 29, 30, 31, 9, 32, 33, 34, 3, 35, 36, 6, 7, 37, 38, 39, 40, 41, 42, 43, 44, 45] (by decide +kernel) (by decide +kernel)
set_option maxRecDepth 20000 in
theorem gX0_paidAnew_X0_pay : GoodIn wsX0_paidAnew (wsV RX0 62 RX0 yX0_pay wsX0_pay) := goodIn_app (goodIn_of _ (by decide +kernel)) ggX0_paidAnew_X0_pay
theorem dX0_paidAnew_0 : decode cX0_paidAnew 0 = .ok (.new 10, 3) := by decide +kernel
theorem dX0_paidAnew_3 : decode cX0_paidAnew 3 = .ok (.dup, 1) := by decide +kernel
theorem dX0_paidAnew_4 : decode cX0_paidAnew 4 = .ok (.aload_n 0, 1) := by decide +kernel
theorem dX0_paidAnew_5 : decode cX0_paidAnew 5 = .ok (.getfield 9, 3) := by decide +kernel
theorem dX0_paidAnew_8 : decode cX0_paidAnew 8 = .ok (.aload_n 0, 1) := by decide +kernel
theorem dX0_paidAnew_9 : decode cX0_paidAnew 9 = .ok (.getfield 15, 3) := by decide +kernel
theorem dX0_paidAnew_12 : decode cX0_paidAnew 12 = .ok (.aload_n 0, 1) := by decide +kernel
theorem dX0_paidAnew_13 : decode cX0_paidAnew 13 = .ok (.getfield 18, 3) := by decide +kernel
theorem dX0_paidAnew_16 : decode cX0_paidAnew 16 = .ok (.aload_n 0, 1) := by decide +kernel
theorem dX0_paidAnew_17 : decode cX0_paidAnew 17 = .ok (.getfield 21, 3) := by decide +kernel
theorem dX0_paidAnew_20 : decode cX0_paidAnew 20 = .ok (.invokespecial 55, 3) := by decide +kernel
theorem dX0_paidAnew_23 : decode cX0_paidAnew 23 = .ok (.astore_n 3, 1) := by decide +kernel
theorem dX0_paidAnew_24 : decode cX0_paidAnew 24 = .ok (.aload_n 3, 1) := by decide +kernel
theorem dX0_paidAnew_25 : decode cX0_paidAnew 25 = .ok (.aload_n 0, 1) := by decide +kernel
theorem dX0_paidAnew_26 : decode cX0_paidAnew 26 = .ok (.getfield 25, 3) := by decide +kernel
theorem dX0_paidAnew_29 : decode cX0_paidAnew 29 = .ok (.aload_n 2, 1) := by decide +kernel
theorem dX0_paidAnew_30 : decode cX0_paidAnew 30 = .ok (.invokevirtual 58, 3) := by decide +kernel
theorem dX0_paidAnew_33 : decode cX0_paidAnew 33 = .ok (.aload_n 0, 1) := by decide +kernel
theorem dX0_paidAnew_34 : decode cX0_paidAnew 34 = .ok (.getfield 25, 3) := by decide +kernel
theorem dX0_paidAnew_37 : decode cX0_paidAnew 37 = .ok (.iconst 1, 1) := by decide +kernel
theorem dX0_paidAnew_38 : decode cX0_paidAnew 38 = .ok (.iadd, 1) := by decide +kernel
theorem dX0_paidAnew_39 : decode cX0_paidAnew 39 = .ok (.istore 4, 2) := by decide +kernel
theorem dX0_paidAnew_41 : decode cX0_paidAnew 41 = .ok (.iload 4, 2) := by decide +kernel
theorem dX0_paidAnew_43 : decode cX0_paidAnew 43 = .ok (.iload_n 1, 1) := by decide +kernel
theorem dX0_paidAnew_44 : decode cX0_paidAnew 44 = .ok (.if_icmp .ge 16, 3) := by decide +kernel
theorem dX0_paidAnew_47 : decode cX0_paidAnew 47 = .ok (.aload_n 3, 1) := by decide +kernel
theorem dX0_paidAnew_48 : decode cX0_paidAnew 48 = .ok (.iload 4, 2) := by decide +kernel
theorem dX0_paidAnew_50 : decode cX0_paidAnew 50 = .ok (.aload_n 2, 1) := by decide +kernel
theorem dX0_paidAnew_51 : decode cX0_paidAnew 51 = .ok (.invokevirtual 62, 3) := by decide +kernel
theorem dX0_paidAnew_54 : decode cX0_paidAnew 54 = .ok (.iinc 4 1, 3) := by decide +kernel
theorem dX0_paidAnew_57 : decode cX0_paidAnew 57 = .ok (.goto (-16), 3) := by decide +kernel
theorem dX0_paidAnew_60 : decode cX0_paidAnew 60 = .ok (.aload_n 3, 1) := by decide +kernel
theorem dX0_paidAnew_61 : decode cX0_paidAnew 61 = .ok (.getfield 38, 3) := by decide +kernel
theorem dX0_paidAnew_64 : decode cX0_paidAnew 64 = .ok (.lreturn, 1) := by decide +kernel
theorem dX1_init_0 : decode cX1_init 0 = .ok (.aload_n 0, 1) := by decide +kernel
theorem dX1_init_1 : decode cX1_init 1 = .ok (.invokespecial 3, 3) := by decide +kernel
theorem dX1_init_4 : decode cX1_init 4 = .ok (.aload_n 0, 1) := by decide +kernel
theorem dX1_init_5 : decode cX1_init 5 = .ok (.iload_n 1, 1) := by decide +kernel
theorem dX1_init_6 : decode cX1_init 6 = .ok (.putfield 9, 3) := by decide +kernel
theorem dX1_init_9 : decode cX1_init 9 = .ok (.aload_n 0, 1) := by decide +kernel
theorem dX1_init_10 : decode cX1_init 10 = .ok (.iload_n 2, 1) := by decide +kernel
theorem dX1_init_11 : decode cX1_init 11 = .ok (.putfield 15, 3) := by decide +kernel
theorem dX1_init_14 : decode cX1_init 14 = .ok (.aload_n 0, 1) := by decide +kernel
theorem dX1_init_15 : decode cX1_init 15 = .ok (.iload_n 3, 1) := by decide +kernel
theorem dX1_init_16 : decode cX1_init 16 = .ok (.putfield 18, 3) := by decide +kernel
theorem dX1_init_19 : decode cX1_init 19 = .ok (.return_, 1) := by decide +kernel
theorem dX1_isInSeason_0 : decode cX1_isInSeason 0 = .ok (.aload_n 0, 1) := by decide +kernel
theorem dX1_isInSeason_1 : decode cX1_isInSeason 1 = .ok (.getfield 18, 3) := by decide +kernel
theorem dX1_isInSeason_4 : decode cX1_isInSeason 4 = .ok (.iload_n 1, 1) := by decide +kernel
theorem dX1_isInSeason_5 : decode cX1_isInSeason 5 = .ok (.bipush 12, 2) := by decide +kernel
theorem dX1_isInSeason_7 : decode cX1_isInSeason 7 = .ok (.irem, 1) := by decide +kernel
theorem dX1_isInSeason_8 : decode cX1_isInSeason 8 = .ok (.ishr, 1) := by decide +kernel
theorem dX1_isInSeason_9 : decode cX1_isInSeason 9 = .ok (.iconst 1, 1) := by decide +kernel
theorem dX1_isInSeason_10 : decode cX1_isInSeason 10 = .ok (.iand, 1) := by decide +kernel
theorem dX1_isInSeason_11 : decode cX1_isInSeason 11 = .ok (.iconst 1, 1) := by decide +kernel
theorem dX1_isInSeason_12 : decode cX1_isInSeason 12 = .ok (.if_icmp .ne 7, 3) := by decide +kernel
theorem dX1_isInSeason_15 : decode cX1_isInSeason 15 = .ok (.iconst 1, 1) := by decide +kernel
theorem dX1_isInSeason_16 : decode cX1_isInSeason 16 = .ok (.goto 4, 3) := by decide +kernel
theorem dX1_isInSeason_19 : decode cX1_isInSeason 19 = .ok (.iconst 0, 1) := by decide +kernel
theorem dX1_isInSeason_20 : decode cX1_isInSeason 20 = .ok (.ireturn, 1) := by decide +kernel
set_option maxRecDepth 20000 in
theorem ggX2_init_Jx4a65c_init_da8c8 : GoodIn wsX2_init wsJx4a65c_init_da8c8 := goodIn_r _ [19, 20, 21, 22, 23, 24, 25, 26, 27, 28, 29, 30, 31, 2, 3, 32, 33, 34] (by decide +kernel) (by decide +kernel)
set_option maxRecDepth 20000 in
theorem gX2_init_Jx4a65c_init_da8c8 : GoodIn wsX2_init (wsJx4a65c_init_da8c8) := ggX2_init_Jx4a65c_init_da8c8
theorem dX2_init_0 : decode cX2_init 0 = .ok (.aload_n 0, 1) := by decide +kernel
theorem dX2_init_1 : decode cX2_init 1 = .ok (.invokespecial 3, 3) := by decide +kernel
theorem dX2_init_4 : decode cX2_init 4 = .ok (.aload_n 0, 1) := by decide +kernel
theorem dX2_init_5 : decode cX2_init 5 = .ok (.new 9, 3) := by decide +kernel
theorem dX2_init_8 : decode cX2_init 8 = .ok (.dup, 1) := by decide +kernel
theorem dX2_init_9 : decode cX2_init 9 = .ok (.invokespecial 11, 3) := by decide +kernel
theorem dX2_init_12 : decode cX2_init 12 = .ok (.putfield 12, 3) := by decide +kernel
theorem dX2_init_15 : decode cX2_init 15 = .ok (.aload_n 0, 1) := by decide +kernel
theorem dX2_init_16 : decode cX2_init 16 = .ok (.sipush 1152, 3) := by decide +kernel
theorem dX2_init_19 : decode cX2_init 19 = .ok (.newarray .int, 2) := by decide +kernel
theorem dX2_init_21 : decode cX2_init 21 = .ok (.putfield 18, 3) := by decide +kernel
theorem dX2_init_24 : decode cX2_init 24 = .ok (.aload_n 0, 1) := by decide +kernel
theorem dX2_init_25 : decode cX2_init 25 = .ok (.sipush 1152, 3) := by decide +kernel
theorem dX2_init_28 : decode cX2_init 28 = .ok (.newarray .int, 2) := by decide +kernel
theorem dX2_init_30 : decode cX2_init 30 = .ok (.putfield 22, 3) := by decide +kernel
theorem dX2_init_33 : decode cX2_init 33 = .ok (.aload_n 0, 1) := by decide +kernel
theorem dX2_init_34 : decode cX2_init 34 = .ok (.sipush 1152, 3) := by decide +kernel
theorem dX2_init_37 : decode cX2_init 37 = .ok (.newarray .boolean, 2) := by decide +kernel
theorem dX2_init_39 : decode cX2_init 39 = .ok (.putfield 25, 3) := by decide +kernel
theorem dX2_init_42 : decode cX2_init 42 = .ok (.aload_n 0, 1) := by decide +kernel
theorem dX2_init_43 : decode cX2_init 43 = .ok (.sipush 1152, 3) := by decide +kernel
theorem dX2_init_46 : decode cX2_init 46 = .ok (.newarray .int, 2) := by decide +kernel
theorem dX2_init_48 : decode cX2_init 48 = .ok (.putfield 29, 3) := by decide +kernel
theorem dX2_init_51 : decode cX2_init 51 = .ok (.aload_n 0, 1) := by decide +kernel
theorem dX2_init_52 : decode cX2_init 52 = .ok (.sipush 1152, 3) := by decide +kernel
theorem dX2_init_55 : decode cX2_init 55 = .ok (.newarray .boolean, 2) := by decide +kernel
theorem dX2_init_57 : decode cX2_init 57 = .ok (.putfield 32, 3) := by decide +kernel
theorem dX2_init_60 : decode cX2_init 60 = .ok (.aload_n 0, 1) := by decide +kernel
theorem dX2_init_61 : decode cX2_init 61 = .ok (.sipush 1152, 3) := by decide +kernel
theorem dX2_init_64 : decode cX2_init 64 = .ok (.newarray .int, 2) := by decide +kernel
theorem dX2_init_66 : decode cX2_init 66 = .ok (.putfield 35, 3) := by decide +kernel
theorem dX2_init_69 : decode cX2_init 69 = .ok (.aload_n 0, 1) := by decide +kernel
theorem dX2_init_70 : decode cX2_init 70 = .ok (.sipush 1152, 3) := by decide +kernel
theorem dX2_init_73 : decode cX2_init 73 = .ok (.newarray .int, 2) := by decide +kernel
theorem dX2_init_75 : decode cX2_init 75 = .ok (.putfield 38, 3) := by decide +kernel
theorem dX2_init_78 : decode cX2_init 78 = .ok (.return_, 1) := by decide +kernel
theorem dX2_hasQuote_0 : decode cX2_hasQuote 0 = .ok (.aload_n 0, 1) := by decide +kernel
theorem dX2_hasQuote_1 : decode cX2_hasQuote 1 = .ok (.getfield 18, 3) := by decide +kernel
theorem dX2_hasQuote_4 : decode cX2_hasQuote 4 = .ok (.iload_n 1, 1) := by decide +kernel
theorem dX2_hasQuote_5 : decode cX2_hasQuote 5 = .ok (.iaload, 1) := by decide +kernel
theorem dX2_hasQuote_6 : decode cX2_hasQuote 6 = .ok (.ifCond .le 7, 3) := by decide +kernel
theorem dX2_hasQuote_9 : decode cX2_hasQuote 9 = .ok (.iconst 1, 1) := by decide +kernel
theorem dX2_hasQuote_10 : decode cX2_hasQuote 10 = .ok (.goto 4, 3) := by decide +kernel
theorem dX2_hasQuote_13 : decode cX2_hasQuote 13 = .ok (.iconst 0, 1) := by decide +kernel
theorem dX2_hasQuote_14 : decode cX2_hasQuote 14 = .ok (.ireturn, 1) := by decide +kernel
theorem dX2_hasLink_0 : decode cX2_hasLink 0 = .ok (.aload_n 0, 1) := by decide +kernel
theorem dX2_hasLink_1 : decode cX2_hasLink 1 = .ok (.getfield 35, 3) := by decide +kernel
theorem dX2_hasLink_4 : decode cX2_hasLink 4 = .ok (.iload_n 1, 1) := by decide +kernel
theorem dX2_hasLink_5 : decode cX2_hasLink 5 = .ok (.iaload, 1) := by decide +kernel
theorem dX2_hasLink_6 : decode cX2_hasLink 6 = .ok (.ifCond .le 7, 3) := by decide +kernel
theorem dX2_hasLink_9 : decode cX2_hasLink 9 = .ok (.iconst 1, 1) := by decide +kernel
theorem dX2_hasLink_10 : decode cX2_hasLink 10 = .ok (.goto 4, 3) := by decide +kernel
theorem dX2_hasLink_13 : decode cX2_hasLink 13 = .ok (.iconst 0, 1) := by decide +kernel
theorem dX2_hasLink_14 : decode cX2_hasLink 14 = .ok (.ireturn, 1) := by decide +kernel
theorem dX2_putQuote_0 : decode cX2_putQuote 0 = .ok (.aload_n 0, 1) := by decide +kernel
theorem dX2_putQuote_1 : decode cX2_putQuote 1 = .ok (.getfield 18, 3) := by decide +kernel
theorem dX2_putQuote_4 : decode cX2_putQuote 4 = .ok (.iload_n 1, 1) := by decide +kernel
theorem dX2_putQuote_5 : decode cX2_putQuote 5 = .ok (.iload_n 2, 1) := by decide +kernel
theorem dX2_putQuote_6 : decode cX2_putQuote 6 = .ok (.iastore, 1) := by decide +kernel
theorem dX2_putQuote_7 : decode cX2_putQuote 7 = .ok (.aload_n 0, 1) := by decide +kernel
theorem dX2_putQuote_8 : decode cX2_putQuote 8 = .ok (.getfield 29, 3) := by decide +kernel
theorem dX2_putQuote_11 : decode cX2_putQuote 11 = .ok (.iload_n 1, 1) := by decide +kernel
theorem dX2_putQuote_12 : decode cX2_putQuote 12 = .ok (.iload_n 2, 1) := by decide +kernel
theorem dX2_putQuote_13 : decode cX2_putQuote 13 = .ok (.iastore, 1) := by decide +kernel
theorem dX2_putQuote_14 : decode cX2_putQuote 14 = .ok (.aload_n 0, 1) := by decide +kernel
theorem dX2_putQuote_15 : decode cX2_putQuote 15 = .ok (.getfield 22, 3) := by decide +kernel
theorem dX2_putQuote_18 : decode cX2_putQuote 18 = .ok (.iload_n 1, 1) := by decide +kernel
theorem dX2_putQuote_19 : decode cX2_putQuote 19 = .ok (.iload_n 3, 1) := by decide +kernel
theorem dX2_putQuote_20 : decode cX2_putQuote 20 = .ok (.iastore, 1) := by decide +kernel
theorem dX2_putQuote_21 : decode cX2_putQuote 21 = .ok (.aload_n 0, 1) := by decide +kernel
theorem dX2_putQuote_22 : decode cX2_putQuote 22 = .ok (.dup, 1) := by decide +kernel
theorem dX2_putQuote_23 : decode cX2_putQuote 23 = .ok (.getfield 41, 3) := by decide +kernel
theorem dX2_putQuote_26 : decode cX2_putQuote 26 = .ok (.iconst 1, 1) := by decide +kernel
theorem dX2_putQuote_27 : decode cX2_putQuote 27 = .ok (.iadd, 1) := by decide +kernel
theorem dX2_putQuote_28 : decode cX2_putQuote 28 = .ok (.putfield 41, 3) := by decide +kernel
theorem dX2_putQuote_31 : decode cX2_putQuote 31 = .ok (.return_, 1) := by decide +kernel
theorem dX2_putLink_0 : decode cX2_putLink 0 = .ok (.aload_n 0, 1) := by decide +kernel
theorem dX2_putLink_1 : decode cX2_putLink 1 = .ok (.getfield 35, 3) := by decide +kernel
theorem dX2_putLink_4 : decode cX2_putLink 4 = .ok (.iload_n 1, 1) := by decide +kernel
theorem dX2_putLink_5 : decode cX2_putLink 5 = .ok (.iload_n 2, 1) := by decide +kernel
theorem dX2_putLink_6 : decode cX2_putLink 6 = .ok (.iastore, 1) := by decide +kernel
theorem dX2_putLink_7 : decode cX2_putLink 7 = .ok (.aload_n 0, 1) := by decide +kernel
theorem dX2_putLink_8 : decode cX2_putLink 8 = .ok (.getfield 38, 3) := by decide +kernel
theorem dX2_putLink_11 : decode cX2_putLink 11 = .ok (.iload_n 1, 1) := by decide +kernel
theorem dX2_putLink_12 : decode cX2_putLink 12 = .ok (.iload_n 3, 1) := by decide +kernel
theorem dX2_putLink_13 : decode cX2_putLink 13 = .ok (.iastore, 1) := by decide +kernel
theorem dX2_putLink_14 : decode cX2_putLink 14 = .ok (.return_, 1) := by decide +kernel
theorem dX2_putFix_0 : decode cX2_putFix 0 = .ok (.aload_n 0, 1) := by decide +kernel
theorem dX2_putFix_1 : decode cX2_putFix 1 = .ok (.getfield 29, 3) := by decide +kernel
theorem dX2_putFix_4 : decode cX2_putFix 4 = .ok (.iload_n 1, 1) := by decide +kernel
theorem dX2_putFix_5 : decode cX2_putFix 5 = .ok (.iaload, 1) := by decide +kernel
theorem dX2_putFix_6 : decode cX2_putFix 6 = .ok (.istore_n 3, 1) := by decide +kernel
theorem dX2_putFix_7 : decode cX2_putFix 7 = .ok (.aload_n 0, 1) := by decide +kernel
theorem dX2_putFix_8 : decode cX2_putFix 8 = .ok (.getfield 32, 3) := by decide +kernel
theorem dX2_putFix_11 : decode cX2_putFix 11 = .ok (.iload_n 1, 1) := by decide +kernel
theorem dX2_putFix_12 : decode cX2_putFix 12 = .ok (.baload, 1) := by decide +kernel
theorem dX2_putFix_13 : decode cX2_putFix 13 = .ok (.ifCond .ne 13, 3) := by decide +kernel
theorem dX2_putFix_16 : decode cX2_putFix 16 = .ok (.aload_n 0, 1) := by decide +kernel
theorem dX2_putFix_17 : decode cX2_putFix 17 = .ok (.dup, 1) := by decide +kernel
theorem dX2_putFix_18 : decode cX2_putFix 18 = .ok (.getfield 45, 3) := by decide +kernel
theorem dX2_putFix_21 : decode cX2_putFix 21 = .ok (.iconst 1, 1) := by decide +kernel
theorem dX2_putFix_22 : decode cX2_putFix 22 = .ok (.iadd, 1) := by decide +kernel
theorem dX2_putFix_23 : decode cX2_putFix 23 = .ok (.putfield 45, 3) := by decide +kernel
theorem dX2_putFix_26 : decode cX2_putFix 26 = .ok (.aload_n 0, 1) := by decide +kernel
theorem dX2_putFix_27 : decode cX2_putFix 27 = .ok (.getfield 32, 3) := by decide +kernel
theorem dX2_putFix_30 : decode cX2_putFix 30 = .ok (.iload_n 1, 1) := by decide +kernel
theorem dX2_putFix_31 : decode cX2_putFix 31 = .ok (.iconst 1, 1) := by decide +kernel
theorem dX2_putFix_32 : decode cX2_putFix 32 = .ok (.bastore, 1) := by decide +kernel
theorem dX2_putFix_33 : decode cX2_putFix 33 = .ok (.aload_n 0, 1) := by decide +kernel
theorem dX2_putFix_34 : decode cX2_putFix 34 = .ok (.getfield 29, 3) := by decide +kernel
theorem dX2_putFix_37 : decode cX2_putFix 37 = .ok (.iload_n 1, 1) := by decide +kernel
theorem dX2_putFix_38 : decode cX2_putFix 38 = .ok (.iload_n 2, 1) := by decide +kernel
theorem dX2_putFix_39 : decode cX2_putFix 39 = .ok (.iastore, 1) := by decide +kernel
theorem dX2_putFix_40 : decode cX2_putFix 40 = .ok (.iload_n 3, 1) := by decide +kernel
theorem dX2_putFix_41 : decode cX2_putFix 41 = .ok (.ireturn, 1) := by decide +kernel
theorem dX2_rateOf_0 : decode cX2_rateOf 0 = .ok (.aload_n 0, 1) := by decide +kernel
theorem dX2_rateOf_1 : decode cX2_rateOf 1 = .ok (.getfield 22, 3) := by decide +kernel
theorem dX2_rateOf_4 : decode cX2_rateOf 4 = .ok (.iload_n 1, 1) := by decide +kernel
theorem dX2_rateOf_5 : decode cX2_rateOf 5 = .ok (.iaload, 1) := by decide +kernel
theorem dX2_rateOf_6 : decode cX2_rateOf 6 = .ok (.iconst 1, 1) := by decide +kernel
theorem dX2_rateOf_7 : decode cX2_rateOf 7 = .ok (.if_icmp .ge 5, 3) := by decide +kernel
theorem dX2_rateOf_10 : decode cX2_rateOf 10 = .ok (.dconst 0, 1) := by decide +kernel
theorem dX2_rateOf_11 : decode cX2_rateOf 11 = .ok (.dreturn, 1) := by decide +kernel
theorem dX2_rateOf_12 : decode cX2_rateOf 12 = .ok (.iload_n 2, 1) := by decide +kernel
theorem dX2_rateOf_13 : decode cX2_rateOf 13 = .ok (.ifCond .eq 12, 3) := by decide +kernel
theorem dX2_rateOf_16 : decode cX2_rateOf 16 = .ok (.aload_n 0, 1) := by decide +kernel
theorem dX2_rateOf_17 : decode cX2_rateOf 17 = .ok (.getfield 29, 3) := by decide +kernel
theorem dX2_rateOf_20 : decode cX2_rateOf 20 = .ok (.iload_n 1, 1) := by decide +kernel
theorem dX2_rateOf_21 : decode cX2_rateOf 21 = .ok (.iaload, 1) := by decide +kernel
theorem dX2_rateOf_22 : decode cX2_rateOf 22 = .ok (.goto 9, 3) := by decide +kernel
theorem dX2_rateOf_25 : decode cX2_rateOf 25 = .ok (.aload_n 0, 1) := by decide +kernel
theorem dX2_rateOf_26 : decode cX2_rateOf 26 = .ok (.getfield 18, 3) := by decide +kernel
theorem dX2_rateOf_29 : decode cX2_rateOf 29 = .ok (.iload_n 1, 1) := by decide +kernel
theorem dX2_rateOf_30 : decode cX2_rateOf 30 = .ok (.iaload, 1) := by decide +kernel
theorem dX2_rateOf_31 : decode cX2_rateOf 31 = .ok (.istore_n 3, 1) := by decide +kernel
theorem dX2_rateOf_32 : decode cX2_rateOf 32 = .ok (.iload_n 3, 1) := by decide +kernel
theorem dX2_rateOf_33 : decode cX2_rateOf 33 = .ok (.i2d, 1) := by decide +kernel
theorem dX2_rateOf_34 : decode cX2_rateOf 34 = .ok (.aload_n 0, 1) := by decide +kernel
theorem dX2_rateOf_35 : decode cX2_rateOf 35 = .ok (.getfield 22, 3) := by decide +kernel
theorem dX2_rateOf_38 : decode cX2_rateOf 38 = .ok (.iload_n 1, 1) := by decide +kernel
theorem dX2_rateOf_39 : decode cX2_rateOf 39 = .ok (.iaload, 1) := by decide +kernel
theorem dX2_rateOf_40 : decode cX2_rateOf 40 = .ok (.i2d, 1) := by decide +kernel
theorem dX2_rateOf_41 : decode cX2_rateOf 41 = .ok (.ddiv, 1) := by decide +kernel
theorem dX2_rateOf_42 : decode cX2_rateOf 42 = .ok (.dreturn, 1) := by decide +kernel
theorem dX2_linkRateOf_0 : decode cX2_linkRateOf 0 = .ok (.aload_n 0, 1) := by decide +kernel
theorem dX2_linkRateOf_1 : decode cX2_linkRateOf 1 = .ok (.getfield 38, 3) := by decide +kernel
theorem dX2_linkRateOf_4 : decode cX2_linkRateOf 4 = .ok (.iload_n 1, 1) := by decide +kernel
theorem dX2_linkRateOf_5 : decode cX2_linkRateOf 5 = .ok (.iaload, 1) := by decide +kernel
theorem dX2_linkRateOf_6 : decode cX2_linkRateOf 6 = .ok (.iconst 1, 1) := by decide +kernel
theorem dX2_linkRateOf_7 : decode cX2_linkRateOf 7 = .ok (.if_icmp .ge 5, 3) := by decide +kernel
theorem dX2_linkRateOf_10 : decode cX2_linkRateOf 10 = .ok (.dconst 0, 1) := by decide +kernel
theorem dX2_linkRateOf_11 : decode cX2_linkRateOf 11 = .ok (.dreturn, 1) := by decide +kernel
theorem dX2_linkRateOf_12 : decode cX2_linkRateOf 12 = .ok (.aload_n 0, 1) := by decide +kernel
theorem dX2_linkRateOf_13 : decode cX2_linkRateOf 13 = .ok (.getfield 35, 3) := by decide +kernel
theorem dX2_linkRateOf_16 : decode cX2_linkRateOf 16 = .ok (.iload_n 1, 1) := by decide +kernel
theorem dX2_linkRateOf_17 : decode cX2_linkRateOf 17 = .ok (.iaload, 1) := by decide +kernel
theorem dX2_linkRateOf_18 : decode cX2_linkRateOf 18 = .ok (.i2d, 1) := by decide +kernel
theorem dX2_linkRateOf_19 : decode cX2_linkRateOf 19 = .ok (.aload_n 0, 1) := by decide +kernel
theorem dX2_linkRateOf_20 : decode cX2_linkRateOf 20 = .ok (.getfield 38, 3) := by decide +kernel
theorem dX2_linkRateOf_23 : decode cX2_linkRateOf 23 = .ok (.iload_n 1, 1) := by decide +kernel
theorem dX2_linkRateOf_24 : decode cX2_linkRateOf 24 = .ok (.iaload, 1) := by decide +kernel
theorem dX2_linkRateOf_25 : decode cX2_linkRateOf 25 = .ok (.i2d, 1) := by decide +kernel
theorem dX2_linkRateOf_26 : decode cX2_linkRateOf 26 = .ok (.ddiv, 1) := by decide +kernel
theorem dX2_linkRateOf_27 : decode cX2_linkRateOf 27 = .ok (.dreturn, 1) := by decide +kernel
set_option maxRecDepth 20000 in
theorem ggX3_init_X5_init : GoodIn wsX3_init wsX5_init := goodIn_r _ [16, 17, 2, 3] (by decide +kernel) (by decide +kernel)
set_option maxRecDepth 20000 in
theorem gX3_init_X5_init_n11 : GoodIn wsX3_init (wsX5_init) := ggX3_init_X5_init
theorem dX3_init_0 : decode cX3_init 0 = .ok (.aload_n 0, 1) := by decide +kernel
theorem dX3_init_1 : decode cX3_init 1 = .ok (.invokespecial 3, 3) := by decide +kernel
theorem dX3_init_4 : decode cX3_init 4 = .ok (.aload_n 0, 1) := by decide +kernel
theorem dX3_init_5 : decode cX3_init 5 = .ok (.new 9, 3) := by decide +kernel
theorem dX3_init_8 : decode cX3_init 8 = .ok (.dup, 1) := by decide +kernel
theorem dX3_init_9 : decode cX3_init 9 = .ok (.invokespecial 11, 3) := by decide +kernel
theorem dX3_init_12 : decode cX3_init 12 = .ok (.putfield 12, 3) := by decide +kernel
theorem dX3_init_15 : decode cX3_init 15 = .ok (.aload_n 0, 1) := by decide +kernel
theorem dX3_init_16 : decode cX3_init 16 = .ok (.sipush 1152, 3) := by decide +kernel
theorem dX3_init_19 : decode cX3_init 19 = .ok (.newarray .double, 2) := by decide +kernel
theorem dX3_init_21 : decode cX3_init 21 = .ok (.putfield 18, 3) := by decide +kernel
theorem dX3_init_24 : decode cX3_init 24 = .ok (.aload_n 0, 1) := by decide +kernel
theorem dX3_init_25 : decode cX3_init 25 = .ok (.sipush 288, 3) := by decide +kernel
theorem dX3_init_28 : decode cX3_init 28 = .ok (.newarray .double, 2) := by decide +kernel
theorem dX3_init_30 : decode cX3_init 30 = .ok (.putfield 22, 3) := by decide +kernel
theorem dX3_init_33 : decode cX3_init 33 = .ok (.aload_n 0, 1) := by decide +kernel
theorem dX3_init_34 : decode cX3_init 34 = .ok (.bipush 96, 2) := by decide +kernel
theorem dX3_init_36 : decode cX3_init 36 = .ok (.newarray .double, 2) := by decide +kernel
theorem dX3_init_38 : decode cX3_init 38 = .ok (.putfield 25, 3) := by decide +kernel
theorem dX3_init_41 : decode cX3_init 41 = .ok (.aload_n 0, 1) := by decide +kernel
theorem dX3_init_42 : decode cX3_init 42 = .ok (.bipush 120, 2) := by decide +kernel
theorem dX3_init_44 : decode cX3_init 44 = .ok (.newarray .double, 2) := by decide +kernel
theorem dX3_init_46 : decode cX3_init 46 = .ok (.putfield 28, 3) := by decide +kernel
theorem dX3_init_49 : decode cX3_init 49 = .ok (.aload_n 0, 1) := by decide +kernel
theorem dX3_init_50 : decode cX3_init 50 = .ok (.aload_n 1, 1) := by decide +kernel
theorem dX3_init_51 : decode cX3_init 51 = .ok (.putfield 31, 3) := by decide +kernel
theorem dX3_init_54 : decode cX3_init 54 = .ok (.aload_n 0, 1) := by decide +kernel
theorem dX3_init_55 : decode cX3_init 55 = .ok (.aload_n 2, 1) := by decide +kernel
theorem dX3_init_56 : decode cX3_init 56 = .ok (.putfield 35, 3) := by decide +kernel
theorem dX3_init_59 : decode cX3_init 59 = .ok (.return_, 1) := by decide +kernel
theorem dX3_relativeOf_0 : decode cX3_relativeOf 0 = .ok (.aload_n 0, 1) := by decide +kernel
theorem dX3_relativeOf_1 : decode cX3_relativeOf 1 = .ok (.getfield 22, 3) := by decide +kernel
theorem dX3_relativeOf_4 : decode cX3_relativeOf 4 = .ok (.iload_n 2, 1) := by decide +kernel
theorem dX3_relativeOf_5 : decode cX3_relativeOf 5 = .ok (.bipush 12, 2) := by decide +kernel
theorem dX3_relativeOf_7 : decode cX3_relativeOf 7 = .ok (.imul, 1) := by decide +kernel
theorem dX3_relativeOf_8 : decode cX3_relativeOf 8 = .ok (.iload_n 1, 1) := by decide +kernel
theorem dX3_relativeOf_9 : decode cX3_relativeOf 9 = .ok (.iadd, 1) := by decide +kernel
theorem dX3_relativeOf_10 : decode cX3_relativeOf 10 = .ok (.daload, 1) := by decide +kernel
theorem dX3_relativeOf_11 : decode cX3_relativeOf 11 = .ok (.dreturn, 1) := by decide +kernel
theorem dX3_groupRelativeOf_0 : decode cX3_groupRelativeOf 0 = .ok (.aload_n 0, 1) := by decide +kernel
theorem dX3_groupRelativeOf_1 : decode cX3_groupRelativeOf 1 = .ok (.getfield 25, 3) := by decide +kernel
theorem dX3_groupRelativeOf_4 : decode cX3_groupRelativeOf 4 = .ok (.iload_n 2, 1) := by decide +kernel
theorem dX3_groupRelativeOf_5 : decode cX3_groupRelativeOf 5 = .ok (.iconst 4, 1) := by decide +kernel
theorem dX3_groupRelativeOf_6 : decode cX3_groupRelativeOf 6 = .ok (.imul, 1) := by decide +kernel
theorem dX3_groupRelativeOf_7 : decode cX3_groupRelativeOf 7 = .ok (.iload_n 1, 1) := by decide +kernel
theorem dX3_groupRelativeOf_8 : decode cX3_groupRelativeOf 8 = .ok (.iadd, 1) := by decide +kernel
theorem dX3_groupRelativeOf_9 : decode cX3_groupRelativeOf 9 = .ok (.daload, 1) := by decide +kernel
theorem dX3_groupRelativeOf_10 : decode cX3_groupRelativeOf 10 = .ok (.dreturn, 1) := by decide +kernel
theorem dX3_indexOf_0 : decode cX3_indexOf 0 = .ok (.aload_n 0, 1) := by decide +kernel
theorem dX3_indexOf_1 : decode cX3_indexOf 1 = .ok (.getfield 28, 3) := by decide +kernel
theorem dX3_indexOf_4 : decode cX3_indexOf 4 = .ok (.iload_n 2, 1) := by decide +kernel
theorem dX3_indexOf_5 : decode cX3_indexOf 5 = .ok (.iconst 5, 1) := by decide +kernel
theorem dX3_indexOf_6 : decode cX3_indexOf 6 = .ok (.imul, 1) := by decide +kernel
theorem dX3_indexOf_7 : decode cX3_indexOf 7 = .ok (.iload_n 1, 1) := by decide +kernel
theorem dX3_indexOf_8 : decode cX3_indexOf 8 = .ok (.iadd, 1) := by decide +kernel
theorem dX3_indexOf_9 : decode cX3_indexOf 9 = .ok (.daload, 1) := by decide +kernel
theorem dX3_indexOf_10 : decode cX3_indexOf 10 = .ok (.dreturn, 1) := by decide +kernel
set_option maxRecDepth 20000 in
theorem ggX3_redoThrough_X3_reckon : GoodIn wsX3_redoThrough wsX3_reckon := goodIn_r _ [6, 7, 8, 9, 10, 11, 12, 13, 14, 15, 16, 17, 18, 19, 5, 20, 21, 22, 23, 24, 25, 26, 27, 28, 29, 30, 31, 32, 33, 34, 35, 36, 37, 38, 39, 40, 41, 42, 43, 44, 45, 1, 46, 47, 48, 49, 50, 51, 52, 53, 54, 55, 56, 57, 58, 59, 60, 61, 62, 63, 64, 65, 66, 67, 68, 69, 70, 71, 72, 73, 74, 75, 76, 77, 78, 79, 80, 81, 82, 83, 84, 85, 86, 87, 88, 89, 90, 91, 92, 93, 94, 95, 96, 97, 98, 99, 100, 101, 102, 103, 104, 105, 106, 107, 108, 109, 110, 111, 112, 113, 114, 115, 116, 117, 118, 119, 120, 121, 122, 123, 124, 125, 126, 127, 128, 129, 130, 131, 132, 133, 134, 135, 136, 137, 138, 139, 140, 141, 142, 143, 144, 145, 146, 147, 148, 149, 150, 151, 152, 153, 154, 155, 156, 157, 158, 159, 160, 161] (by decide +kernel) (by decide +kernel)
set_option maxRecDepth 20000 in
theorem gX3_redoThrough_X3_reckon : GoodIn wsX3_redoThrough (wsV RX3 43 RX3 yX3_reckon wsX3_reckon) := goodIn_app (goodIn_of _ (by decide +kernel)) ggX3_redoThrough_X3_reckon
theorem dX3_redoThrough_0 : decode cX3_redoThrough 0 = .ok (.aload_n 0, 1) := by decide +kernel
theorem dX3_redoThrough_1 : decode cX3_redoThrough 1 = .ok (.iload_n 2, 1) := by decide +kernel
theorem dX3_redoThrough_2 : decode cX3_redoThrough 2 = .ok (.putfield 39, 3) := by decide +kernel
theorem dX3_redoThrough_5 : decode cX3_redoThrough 5 = .ok (.iconst 0, 1) := by decide +kernel
theorem dX3_redoThrough_6 : decode cX3_redoThrough 6 = .ok (.istore_n 3, 1) := by decide +kernel
theorem dX3_redoThrough_7 : decode cX3_redoThrough 7 = .ok (.iload_n 3, 1) := by decide +kernel
theorem dX3_redoThrough_8 : decode cX3_redoThrough 8 = .ok (.iload_n 1, 1) := by decide +kernel
theorem dX3_redoThrough_9 : decode cX3_redoThrough 9 = .ok (.if_icmp .gt 14, 3) := by decide +kernel
theorem dX3_redoThrough_12 : decode cX3_redoThrough 12 = .ok (.aload_n 0, 1) := by decide +kernel
theorem dX3_redoThrough_13 : decode cX3_redoThrough 13 = .ok (.iload_n 3, 1) := by decide +kernel
theorem dX3_redoThrough_14 : decode cX3_redoThrough 14 = .ok (.invokevirtual 43, 3) := by decide +kernel
theorem dX3_redoThrough_17 : decode cX3_redoThrough 17 = .ok (.iinc 3 1, 3) := by decide +kernel
theorem dX3_redoThrough_20 : decode cX3_redoThrough 20 = .ok (.goto (-13), 3) := by decide +kernel
theorem dX3_redoThrough_23 : decode cX3_redoThrough 23 = .ok (.return_, 1) := by decide +kernel
set_option maxRecDepth 20000 in
theorem ggX3_reckon_Jx4a65c_size_8abf5 : GoodIn wsX3_reckon wsJx4a65c_size_8abf5 := goodIn_r _ [9, 10, 144, 145, 146] (by decide +kernel) (by decide +kernel)
set_option maxRecDepth 20000 in
theorem gX3_reckon_Jx4a65c_size_8abf5 : GoodIn wsX3_reckon (wsV RX3 53 RJx4a65c yJx4a65c_size_8abf5 wsJx4a65c_size_8abf5) := goodIn_app (goodIn_of _ (by decide +kernel)) ggX3_reckon_Jx4a65c_size_8abf5
set_option maxRecDepth 20000 in
theorem ggX3_reckon_X3_reckonItem : GoodIn wsX3_reckon wsX3_reckonItem := goodIn_r _ [15, 16, 17, 18, 19, 20, 14, 21, 22, 1, 23, 24, 25, 26, 27, 28, 29, 30, 31, 32, 33, 34, 35, 36, 37, 38, 39, 40, 41, 42, 43, 44, 45, 46, 47, 48, 49, 50, 51, 52, 53, 54, 55, 56, 57, 58, 59, 60, 61, 62, 63, 64, 65, 66, 67, 68, 69, 70, 71, 72, 73, 74, 75, 76, 8, 77, 10, 78, 79, 80, 81, 82, 83, 84, 85, 86, 87, 88, 89, 90, 91, 92, 93, 94, 95, 96, 97, 98, 126, 127, 128, 129, 130, 131, 132, 133, 134, 135, 136, 137, 138, 139, 140, 141, 142, 143, 147, 148, 149, 150, 151, 152, 153, 154, 144, 145, 146] (by decide +kernel) (by decide +kernel)
set_option maxRecDepth 20000 in
theorem gX3_reckon_X3_reckonItem : GoodIn wsX3_reckon (wsV RX3 59 RX3 yX3_reckonItem wsX3_reckonItem) := goodIn_app (goodIn_of _ (by decide +kernel)) ggX3_reckon_X3_reckonItem
set_option maxRecDepth 20000 in
theorem ggX3_reckon_X3_reckonedGroupRelative : GoodIn wsX3_reckon wsX3_reckonedGroupRelative := goodIn_r _ [102, 1, 23, 5, 6, 7, 8, 9, 10, 103, 104, 105, 14, 106, 16, 74, 75, 76, 77, 78, 79, 80, 81, 82, 83, 84, 85, 86, 87, 88, 89, 90, 126, 127, 128, 129, 130, 131, 132, 133, 134, 135, 136, 137, 138, 139, 140, 141, 142, 143, 147, 148, 149, 144, 145, 146] (by decide +kernel) (by decide +kernel)
set_option maxRecDepth 20000 in
theorem gX3_reckon_X3_reckonedGroupRelative : GoodIn wsX3_reckon (wsV RX3 63 RX3 yX3_reckonedGroupRelative wsX3_reckonedGroupRelative) := goodIn_app (goodIn_of _ (by decide +kernel)) ggX3_reckon_X3_reckonedGroupRelative
set_option maxRecDepth 20000 in
theorem ggX3_reckon_X3_indexOf : GoodIn wsX3_reckon wsX3_indexOf := goodIn_r _ [110, 3, 126, 127, 128, 129, 130, 131, 132, 133] (by decide +kernel) (by decide +kernel)
set_option maxRecDepth 20000 in
theorem gX3_reckon_X3_indexOf : GoodIn wsX3_reckon (wsV RX3 69 RX3 yX3_indexOf wsX3_indexOf) := goodIn_app (goodIn_of _ (by decide +kernel)) ggX3_reckon_X3_indexOf
set_option maxRecDepth 20000 in
theorem ggX3_reckon_X3_stepOf : GoodIn wsX3_reckon wsX3_stepOf := goodIn_r _ [114, 115, 116, 117, 118, 119, 120, 121, 122, 123, 124, 14, 125, 2, 126, 127, 128, 129, 130, 131, 132, 133, 155, 156, 157] (by decide +kernel) (by decide +kernel)
set_option maxRecDepth 20000 in
theorem gX3_reckon_X3_stepOf : GoodIn wsX3_reckon (wsV RX3 72 RX3 yX3_stepOf wsX3_stepOf) := goodIn_app (goodIn_of _ (by decide +kernel)) ggX3_reckon_X3_stepOf
theorem dX3_reckon_0 : decode cX3_reckon 0 = .ok (.iconst 0, 1) := by decide +kernel
theorem dX3_reckon_1 : decode cX3_reckon 1 = .ok (.istore_n 2, 1) := by decide +kernel
theorem dX3_reckon_2 : decode cX3_reckon 2 = .ok (.iload_n 2, 1) := by decide +kernel
theorem dX3_reckon_3 : decode cX3_reckon 3 = .ok (.aload_n 0, 1) := by decide +kernel
theorem dX3_reckon_4 : decode cX3_reckon 4 = .ok (.getfield 31, 3) := by decide +kernel
theorem dX3_reckon_7 : decode cX3_reckon 7 = .ok (.getfield 47, 3) := by decide +kernel
theorem dX3_reckon_10 : decode cX3_reckon 10 = .ok (.invokevirtual 53, 3) := by decide +kernel
theorem dX3_reckon_13 : decode cX3_reckon 13 = .ok (.if_icmp .ge 15, 3) := by decide +kernel
theorem dX3_reckon_16 : decode cX3_reckon 16 = .ok (.aload_n 0, 1) := by decide +kernel
theorem dX3_reckon_17 : decode cX3_reckon 17 = .ok (.iload_n 2, 1) := by decide +kernel
theorem dX3_reckon_18 : decode cX3_reckon 18 = .ok (.iload_n 1, 1) := by decide +kernel
theorem dX3_reckon_19 : decode cX3_reckon 19 = .ok (.invokevirtual 59, 3) := by decide +kernel
theorem dX3_reckon_22 : decode cX3_reckon 22 = .ok (.iinc 2 1, 3) := by decide +kernel
theorem dX3_reckon_25 : decode cX3_reckon 25 = .ok (.goto (-23), 3) := by decide +kernel
theorem dX3_reckon_28 : decode cX3_reckon 28 = .ok (.iconst 0, 1) := by decide +kernel
theorem dX3_reckon_29 : decode cX3_reckon 29 = .ok (.istore_n 2, 1) := by decide +kernel
theorem dX3_reckon_30 : decode cX3_reckon 30 = .ok (.iload_n 2, 1) := by decide +kernel
theorem dX3_reckon_31 : decode cX3_reckon 31 = .ok (.iconst 4, 1) := by decide +kernel
theorem dX3_reckon_32 : decode cX3_reckon 32 = .ok (.if_icmp .ge 25, 3) := by decide +kernel
theorem dX3_reckon_35 : decode cX3_reckon 35 = .ok (.aload_n 0, 1) := by decide +kernel
theorem dX3_reckon_36 : decode cX3_reckon 36 = .ok (.getfield 25, 3) := by decide +kernel
theorem dX3_reckon_39 : decode cX3_reckon 39 = .ok (.iload_n 1, 1) := by decide +kernel
theorem dX3_reckon_40 : decode cX3_reckon 40 = .ok (.iconst 4, 1) := by decide +kernel
theorem dX3_reckon_41 : decode cX3_reckon 41 = .ok (.imul, 1) := by decide +kernel
theorem dX3_reckon_42 : decode cX3_reckon 42 = .ok (.iload_n 2, 1) := by decide +kernel
theorem dX3_reckon_43 : decode cX3_reckon 43 = .ok (.iadd, 1) := by decide +kernel
theorem dX3_reckon_44 : decode cX3_reckon 44 = .ok (.aload_n 0, 1) := by decide +kernel
theorem dX3_reckon_45 : decode cX3_reckon 45 = .ok (.iload_n 2, 1) := by decide +kernel
theorem dX3_reckon_46 : decode cX3_reckon 46 = .ok (.iload_n 1, 1) := by decide +kernel
theorem dX3_reckon_47 : decode cX3_reckon 47 = .ok (.invokevirtual 63, 3) := by decide +kernel
theorem dX3_reckon_50 : decode cX3_reckon 50 = .ok (.dastore, 1) := by decide +kernel
theorem dX3_reckon_51 : decode cX3_reckon 51 = .ok (.iinc 2 1, 3) := by decide +kernel
theorem dX3_reckon_54 : decode cX3_reckon 54 = .ok (.goto (-24), 3) := by decide +kernel
theorem dX3_reckon_57 : decode cX3_reckon 57 = .ok (.iconst 0, 1) := by decide +kernel
theorem dX3_reckon_58 : decode cX3_reckon 58 = .ok (.istore_n 2, 1) := by decide +kernel
theorem dX3_reckon_59 : decode cX3_reckon 59 = .ok (.iload_n 2, 1) := by decide +kernel
theorem dX3_reckon_60 : decode cX3_reckon 60 = .ok (.iconst 5, 1) := by decide +kernel
theorem dX3_reckon_61 : decode cX3_reckon 61 = .ok (.if_icmp .ge 45, 3) := by decide +kernel
theorem dX3_reckon_64 : decode cX3_reckon 64 = .ok (.aload_n 0, 1) := by decide +kernel
theorem dX3_reckon_65 : decode cX3_reckon 65 = .ok (.getfield 28, 3) := by decide +kernel
theorem dX3_reckon_68 : decode cX3_reckon 68 = .ok (.iload_n 1, 1) := by decide +kernel
theorem dX3_reckon_69 : decode cX3_reckon 69 = .ok (.iconst 5, 1) := by decide +kernel
theorem dX3_reckon_70 : decode cX3_reckon 70 = .ok (.imul, 1) := by decide +kernel
theorem dX3_reckon_71 : decode cX3_reckon 71 = .ok (.iload_n 2, 1) := by decide +kernel
theorem dX3_reckon_72 : decode cX3_reckon 72 = .ok (.iadd, 1) := by decide +kernel
theorem dX3_reckon_73 : decode cX3_reckon 73 = .ok (.iload_n 1, 1) := by decide +kernel
theorem dX3_reckon_74 : decode cX3_reckon 74 = .ok (.iconst 1, 1) := by decide +kernel
theorem dX3_reckon_75 : decode cX3_reckon 75 = .ok (.if_icmp .ge 9, 3) := by decide +kernel
theorem dX3_reckon_78 : decode cX3_reckon 78 = .ok (.ldc2_w 67, 3) := by decide +kernel
theorem dX3_reckon_81 : decode cX3_reckon 81 = .ok (.goto 18, 3) := by decide +kernel
theorem dX3_reckon_84 : decode cX3_reckon 84 = .ok (.aload_n 0, 1) := by decide +kernel
theorem dX3_reckon_85 : decode cX3_reckon 85 = .ok (.iload_n 2, 1) := by decide +kernel
theorem dX3_reckon_86 : decode cX3_reckon 86 = .ok (.iload_n 1, 1) := by decide +kernel
theorem dX3_reckon_87 : decode cX3_reckon 87 = .ok (.iconst 1, 1) := by decide +kernel
theorem dX3_reckon_88 : decode cX3_reckon 88 = .ok (.isub, 1) := by decide +kernel
theorem dX3_reckon_89 : decode cX3_reckon 89 = .ok (.invokevirtual 69, 3) := by decide +kernel
theorem dX3_reckon_92 : decode cX3_reckon 92 = .ok (.aload_n 0, 1) := by decide +kernel
theorem dX3_reckon_93 : decode cX3_reckon 93 = .ok (.iload_n 2, 1) := by decide +kernel
theorem dX3_reckon_94 : decode cX3_reckon 94 = .ok (.iload_n 1, 1) := by decide +kernel
theorem dX3_reckon_95 : decode cX3_reckon 95 = .ok (.invokevirtual 72, 3) := by decide +kernel
theorem dX3_reckon_98 : decode cX3_reckon 98 = .ok (.dmul, 1) := by decide +kernel
theorem dX3_reckon_99 : decode cX3_reckon 99 = .ok (.dastore, 1) := by decide +kernel
theorem dX3_reckon_100 : decode cX3_reckon 100 = .ok (.iinc 2 1, 3) := by decide +kernel
theorem dX3_reckon_103 : decode cX3_reckon 103 = .ok (.goto (-44), 3) := by decide +kernel
theorem dX3_reckon_106 : decode cX3_reckon 106 = .ok (.return_, 1) := by decide +kernel
set_option maxRecDepth 20000 in
theorem ggX3_reckonItem_X3_reckonedRelative : GoodIn wsX3_reckonItem wsX3_reckonedRelative := goodIn_r _ [7, 8, 9, 10, 11, 12, 13, 14, 15, 16, 17, 18, 19, 20, 21, 22, 23, 24, 25, 26, 6, 27, 28, 29, 30, 31, 32, 33, 34, 35, 36, 37, 38, 39, 40, 2, 41, 42, 43, 44, 45, 46, 47, 48, 49, 50, 51, 52, 53, 54, 55, 56, 57, 58, 59, 60, 61, 62, 63, 64, 65, 66, 67, 68, 69, 70, 71, 72, 73, 74, 75, 76, 77, 78, 79, 80, 81, 82, 83, 88, 89, 90, 91, 92, 93, 94, 95, 96, 97, 98, 99, 100, 101, 102, 103, 104, 105, 106, 107, 108, 109, 110, 111, 112, 113, 114, 115, 116] (by decide +kernel) (by decide +kernel)
set_option maxRecDepth 20000 in
theorem gX3_reckonItem_X3_reckonedRelative : GoodIn wsX3_reckonItem (wsV RX3 75 RX3 yX3_reckonedRelative wsX3_reckonedRelative) := goodIn_app (goodIn_of _ (by decide +kernel)) ggX3_reckonItem_X3_reckonedRelative
set_option maxRecDepth 20000 in
theorem ggX3_reckonItem_X6_slotOf : GoodIn wsX3_reckonItem wsX6_slotOf := goodIn_r _ [13] (by decide +kernel) (by decide +kernel)
set_option maxRecDepth 20000 in
theorem gX3_reckonItem_X6_slotOf_n79 : GoodIn wsX3_reckonItem (wsX6_slotOf) := ggX3_reckonItem_X6_slotOf
set_option maxRecDepth 20000 in
theorem ggX3_reckonItem_X3_reckonedPrice : GoodIn wsX3_reckonItem wsX3_reckonedPrice := goodIn_r _ [87, 24, 25, 26, 6, 27, 9, 28, 29, 30, 31, 32, 33, 34, 35, 36, 37, 38, 39, 40, 2, 41, 42, 43, 44, 45, 46, 47, 48, 49, 50, 51, 52, 53, 54, 55, 56, 88, 89, 90, 91, 92, 93, 94, 95, 96, 97, 98, 99, 100, 101, 102, 103, 104, 105] (by decide +kernel) (by decide +kernel)
set_option maxRecDepth 20000 in
theorem gX3_reckonItem_X3_reckonedPrice : GoodIn wsX3_reckonItem (wsV RX3 83 RX3 yX3_reckonedPrice wsX3_reckonedPrice) := goodIn_app (goodIn_of _ (by decide +kernel)) ggX3_reckonItem_X3_reckonedPrice
theorem dX3_reckonItem_0 : decode cX3_reckonItem 0 = .ok (.aload_n 0, 1) := by decide +kernel
theorem dX3_reckonItem_1 : decode cX3_reckonItem 1 = .ok (.iload_n 1, 1) := by decide +kernel
theorem dX3_reckonItem_2 : decode cX3_reckonItem 2 = .ok (.iload_n 2, 1) := by decide +kernel
theorem dX3_reckonItem_3 : decode cX3_reckonItem 3 = .ok (.iconst 0, 1) := by decide +kernel
theorem dX3_reckonItem_4 : decode cX3_reckonItem 4 = .ok (.invokevirtual 75, 3) := by decide +kernel
theorem dX3_reckonItem_7 : decode cX3_reckonItem 7 = .ok (.dstore_n 3, 1) := by decide +kernel
theorem dX3_reckonItem_8 : decode cX3_reckonItem 8 = .ok (.aload_n 0, 1) := by decide +kernel
theorem dX3_reckonItem_9 : decode cX3_reckonItem 9 = .ok (.getfield 22, 3) := by decide +kernel
theorem dX3_reckonItem_12 : decode cX3_reckonItem 12 = .ok (.iload_n 2, 1) := by decide +kernel
theorem dX3_reckonItem_13 : decode cX3_reckonItem 13 = .ok (.bipush 12, 2) := by decide +kernel
theorem dX3_reckonItem_15 : decode cX3_reckonItem 15 = .ok (.imul, 1) := by decide +kernel
theorem dX3_reckonItem_16 : decode cX3_reckonItem 16 = .ok (.iload_n 1, 1) := by decide +kernel
theorem dX3_reckonItem_17 : decode cX3_reckonItem 17 = .ok (.iadd, 1) := by decide +kernel
theorem dX3_reckonItem_18 : decode cX3_reckonItem 18 = .ok (.dload_n 3, 1) := by decide +kernel
theorem dX3_reckonItem_19 : decode cX3_reckonItem 19 = .ok (.dastore, 1) := by decide +kernel
theorem dX3_reckonItem_20 : decode cX3_reckonItem 20 = .ok (.iload_n 1, 1) := by decide +kernel
theorem dX3_reckonItem_21 : decode cX3_reckonItem 21 = .ok (.iconst 0, 1) := by decide +kernel
theorem dX3_reckonItem_22 : decode cX3_reckonItem 22 = .ok (.iload_n 2, 1) := by decide +kernel
theorem dX3_reckonItem_23 : decode cX3_reckonItem 23 = .ok (.invokestatic 79, 3) := by decide +kernel
theorem dX3_reckonItem_26 : decode cX3_reckonItem 26 = .ok (.istore 5, 2) := by decide +kernel
theorem dX3_reckonItem_28 : decode cX3_reckonItem 28 = .ok (.iload 5, 2) := by decide +kernel
theorem dX3_reckonItem_30 : decode cX3_reckonItem 30 = .ok (.istore 6, 2) := by decide +kernel
theorem dX3_reckonItem_32 : decode cX3_reckonItem 32 = .ok (.iload 6, 2) := by decide +kernel
theorem dX3_reckonItem_34 : decode cX3_reckonItem 34 = .ok (.iload 5, 2) := by decide +kernel
theorem dX3_reckonItem_36 : decode cX3_reckonItem 36 = .ok (.iconst 4, 1) := by decide +kernel
theorem dX3_reckonItem_37 : decode cX3_reckonItem 37 = .ok (.iadd, 1) := by decide +kernel
theorem dX3_reckonItem_38 : decode cX3_reckonItem 38 = .ok (.if_icmp .ge 23, 3) := by decide +kernel
theorem dX3_reckonItem_41 : decode cX3_reckonItem 41 = .ok (.aload_n 0, 1) := by decide +kernel
theorem dX3_reckonItem_42 : decode cX3_reckonItem 42 = .ok (.getfield 18, 3) := by decide +kernel
theorem dX3_reckonItem_45 : decode cX3_reckonItem 45 = .ok (.iload 6, 2) := by decide +kernel
theorem dX3_reckonItem_47 : decode cX3_reckonItem 47 = .ok (.aload_n 0, 1) := by decide +kernel
theorem dX3_reckonItem_48 : decode cX3_reckonItem 48 = .ok (.iload 6, 2) := by decide +kernel
theorem dX3_reckonItem_50 : decode cX3_reckonItem 50 = .ok (.dload_n 3, 1) := by decide +kernel
theorem dX3_reckonItem_51 : decode cX3_reckonItem 51 = .ok (.invokevirtual 83, 3) := by decide +kernel
theorem dX3_reckonItem_54 : decode cX3_reckonItem 54 = .ok (.dastore, 1) := by decide +kernel
theorem dX3_reckonItem_55 : decode cX3_reckonItem 55 = .ok (.iinc 6 1, 3) := by decide +kernel
theorem dX3_reckonItem_58 : decode cX3_reckonItem 58 = .ok (.goto (-26), 3) := by decide +kernel
theorem dX3_reckonItem_61 : decode cX3_reckonItem 61 = .ok (.return_, 1) := by decide +kernel
set_option maxRecDepth 20000 in
theorem ggX3_reckonedRelative_X6_slotOf : GoodIn wsX3_reckonedRelative wsX6_slotOf := goodIn_r _ [6] (by decide +kernel) (by decide +kernel)
set_option maxRecDepth 20000 in
theorem gX3_reckonedRelative_X6_slotOf_n79 : GoodIn wsX3_reckonedRelative (wsX6_slotOf) := ggX3_reckonedRelative_X6_slotOf
set_option maxRecDepth 20000 in
theorem ggX3_reckonedRelative_X5_clear : GoodIn wsX3_reckonedRelative wsX5_clear := goodIn_r _ [11, 12, 13, 14, 15, 16, 100, 101, 102, 103, 104] (by decide +kernel) (by decide +kernel)
set_option maxRecDepth 20000 in
theorem gX3_reckonedRelative_X5_clear : GoodIn wsX3_reckonedRelative (wsV RX3 87 RX5 yX5_clear wsX5_clear) := goodIn_app (goodIn_of _ (by decide +kernel)) ggX3_reckonedRelative_X5_clear
set_option maxRecDepth 20000 in
theorem ggX3_reckonedRelative_X3_rateOf : GoodIn wsX3_reckonedRelative wsX3_rateOf := goodIn_r _ [21, 2, 22, 23, 24, 25, 26, 27, 28, 29, 30, 79, 80, 81, 82, 83, 84, 85, 86, 87, 88, 89, 90, 91, 92, 93, 94, 95, 96] (by decide +kernel) (by decide +kernel)
set_option maxRecDepth 20000 in
theorem gX3_reckonedRelative_X3_rateOf : GoodIn wsX3_reckonedRelative (wsV RX3 90 RX3 yX3_rateOf wsX3_rateOf) := goodIn_app (goodIn_of _ (by decide +kernel)) ggX3_reckonedRelative_X3_rateOf
set_option maxRecDepth 20000 in
theorem ggX3_reckonedRelative_X3_baseOf : GoodIn wsX3_reckonedRelative wsX3_baseOf := goodIn_r _ [34, 2, 35, 36, 37, 38, 26, 39, 40, 41, 42, 43, 44, 45, 79, 80, 81, 82, 83, 84, 85, 86, 87, 88, 89, 90, 91, 92, 93, 94, 95, 96] (by decide +kernel) (by decide +kernel)
set_option maxRecDepth 20000 in
theorem gX3_reckonedRelative_X3_baseOf : GoodIn wsX3_reckonedRelative (wsV RX3 94 RX3 yX3_baseOf wsX3_baseOf) := goodIn_app (goodIn_of _ (by decide +kernel)) ggX3_reckonedRelative_X3_baseOf
set_option maxRecDepth 20000 in
theorem ggX3_reckonedRelative_X3_isWithinBound : GoodIn wsX3_reckonedRelative wsX3_isWithinBound := goodIn_r _ [49, 2, 50, 51, 79, 80, 81, 82, 83, 84, 85, 86, 87, 88, 89, 90, 91, 92, 93, 94, 95, 96] (by decide +kernel) (by decide +kernel)
set_option maxRecDepth 20000 in
theorem gX3_reckonedRelative_X3_isWithinBound : GoodIn wsX3_reckonedRelative (wsV RX3 97 RX3 yX3_isWithinBound wsX3_isWithinBound) := goodIn_app (goodIn_of _ (by decide +kernel)) ggX3_reckonedRelative_X3_isWithinBound
set_option maxRecDepth 20000 in
theorem ggX3_reckonedRelative_X5_add : GoodIn wsX3_reckonedRelative wsX5_add := goodIn_r _ [55, 12, 13, 14, 15, 16, 100, 101, 102, 103, 104] (by decide +kernel) (by decide +kernel)
set_option maxRecDepth 20000 in
theorem gX3_reckonedRelative_X5_add : GoodIn wsX3_reckonedRelative (wsV RX3 101 RX5 yX5_add wsX5_add) := goodIn_app (goodIn_of _ (by decide +kernel)) ggX3_reckonedRelative_X5_add
set_option maxRecDepth 20000 in
theorem ggX3_reckonedRelative_Jx4a65c_get_915e3 : GoodIn wsX3_reckonedRelative wsJx4a65c_get_915e3 := goodIn_r _ [60, 61, 62, 63, 64, 65, 66, 67, 68, 69, 70, 71, 72, 59, 73, 74, 105, 106, 107] (by decide +kernel) (by decide +kernel)
set_option maxRecDepth 20000 in
theorem gX3_reckonedRelative_Jx4a65c_get_915e3 : GoodIn wsX3_reckonedRelative (wsV RX3 105 RJx4a65c yJx4a65c_get_915e3 wsJx4a65c_get_915e3) := goodIn_app (goodIn_of _ (by decide +kernel)) ggX3_reckonedRelative_Jx4a65c_get_915e3
set_option maxRecDepth 20000 in
theorem ggX3_reckonedRelative_X5_relativeBy : GoodIn wsX3_reckonedRelative wsX5_relativeBy := goodIn_r _ [78, 12, 15, 13, 14, 16, 100, 101, 102, 103, 104] (by decide +kernel) (by decide +kernel)
set_option maxRecDepth 20000 in
theorem gX3_reckonedRelative_X5_relativeBy : GoodIn wsX3_reckonedRelative (wsV RX3 115 RX5 yX5_relativeBy wsX5_relativeBy) := goodIn_app (goodIn_of _ (by decide +kernel)) ggX3_reckonedRelative_X5_relativeBy
theorem dX3_reckonedRelative_0 : decode cX3_reckonedRelative 0 = .ok (.iload_n 1, 1) := by decide +kernel
theorem dX3_reckonedRelative_1 : decode cX3_reckonedRelative 1 = .ok (.iconst 0, 1) := by decide +kernel
theorem dX3_reckonedRelative_2 : decode cX3_reckonedRelative 2 = .ok (.iload_n 2, 1) := by decide +kernel
theorem dX3_reckonedRelative_3 : decode cX3_reckonedRelative 3 = .ok (.invokestatic 79, 3) := by decide +kernel
theorem dX3_reckonedRelative_6 : decode cX3_reckonedRelative 6 = .ok (.istore 4, 2) := by decide +kernel
theorem dX3_reckonedRelative_8 : decode cX3_reckonedRelative 8 = .ok (.aload_n 0, 1) := by decide +kernel
theorem dX3_reckonedRelative_9 : decode cX3_reckonedRelative 9 = .ok (.getfield 12, 3) := by decide +kernel
theorem dX3_reckonedRelative_12 : decode cX3_reckonedRelative 12 = .ok (.invokevirtual 87, 3) := by decide +kernel
theorem dX3_reckonedRelative_15 : decode cX3_reckonedRelative 15 = .ok (.iload 4, 2) := by decide +kernel
theorem dX3_reckonedRelative_17 : decode cX3_reckonedRelative 17 = .ok (.istore 5, 2) := by decide +kernel
theorem dX3_reckonedRelative_19 : decode cX3_reckonedRelative 19 = .ok (.iload 5, 2) := by decide +kernel
theorem dX3_reckonedRelative_21 : decode cX3_reckonedRelative 21 = .ok (.iload 4, 2) := by decide +kernel
theorem dX3_reckonedRelative_23 : decode cX3_reckonedRelative 23 = .ok (.iconst 4, 1) := by decide +kernel
theorem dX3_reckonedRelative_24 : decode cX3_reckonedRelative 24 = .ok (.iadd, 1) := by decide +kernel
theorem dX3_reckonedRelative_25 : decode cX3_reckonedRelative 25 = .ok (.if_icmp .ge 67, 3) := by decide +kernel
theorem dX3_reckonedRelative_28 : decode cX3_reckonedRelative 28 = .ok (.aload_n 0, 1) := by decide +kernel
theorem dX3_reckonedRelative_29 : decode cX3_reckonedRelative 29 = .ok (.iload 5, 2) := by decide +kernel
theorem dX3_reckonedRelative_31 : decode cX3_reckonedRelative 31 = .ok (.invokevirtual 90, 3) := by decide +kernel
theorem dX3_reckonedRelative_34 : decode cX3_reckonedRelative 34 = .ok (.dstore 6, 2) := by decide +kernel
theorem dX3_reckonedRelative_36 : decode cX3_reckonedRelative 36 = .ok (.aload_n 0, 1) := by decide +kernel
theorem dX3_reckonedRelative_37 : decode cX3_reckonedRelative 37 = .ok (.iload 5, 2) := by decide +kernel
theorem dX3_reckonedRelative_39 : decode cX3_reckonedRelative 39 = .ok (.invokevirtual 94, 3) := by decide +kernel
theorem dX3_reckonedRelative_42 : decode cX3_reckonedRelative 42 = .ok (.dstore 8, 2) := by decide +kernel
theorem dX3_reckonedRelative_44 : decode cX3_reckonedRelative 44 = .ok (.aload_n 0, 1) := by decide +kernel
theorem dX3_reckonedRelative_45 : decode cX3_reckonedRelative 45 = .ok (.iload 5, 2) := by decide +kernel
theorem dX3_reckonedRelative_47 : decode cX3_reckonedRelative 47 = .ok (.dload 6, 2) := by decide +kernel
theorem dX3_reckonedRelative_49 : decode cX3_reckonedRelative 49 = .ok (.dload 8, 2) := by decide +kernel
theorem dX3_reckonedRelative_51 : decode cX3_reckonedRelative 51 = .ok (.invokevirtual 97, 3) := by decide +kernel
theorem dX3_reckonedRelative_54 : decode cX3_reckonedRelative 54 = .ok (.ifCond .eq 32, 3) := by decide +kernel
theorem dX3_reckonedRelative_57 : decode cX3_reckonedRelative 57 = .ok (.aload_n 0, 1) := by decide +kernel
theorem dX3_reckonedRelative_58 : decode cX3_reckonedRelative 58 = .ok (.getfield 12, 3) := by decide +kernel
theorem dX3_reckonedRelative_61 : decode cX3_reckonedRelative 61 = .ok (.iload_n 3, 1) := by decide +kernel
theorem dX3_reckonedRelative_62 : decode cX3_reckonedRelative 62 = .ok (.ifCond .eq 8, 3) := by decide +kernel
theorem dX3_reckonedRelative_65 : decode cX3_reckonedRelative 65 = .ok (.dload 8, 2) := by decide +kernel
theorem dX3_reckonedRelative_67 : decode cX3_reckonedRelative 67 = .ok (.goto 5, 3) := by decide +kernel
theorem dX3_reckonedRelative_70 : decode cX3_reckonedRelative 70 = .ok (.dload 6, 2) := by decide +kernel
theorem dX3_reckonedRelative_72 : decode cX3_reckonedRelative 72 = .ok (.iload_n 3, 1) := by decide +kernel
theorem dX3_reckonedRelative_73 : decode cX3_reckonedRelative 73 = .ok (.ifCond .eq 8, 3) := by decide +kernel
theorem dX3_reckonedRelative_76 : decode cX3_reckonedRelative 76 = .ok (.dload 6, 2) := by decide +kernel
theorem dX3_reckonedRelative_78 : decode cX3_reckonedRelative 78 = .ok (.goto 5, 3) := by decide +kernel
theorem dX3_reckonedRelative_81 : decode cX3_reckonedRelative 81 = .ok (.dload 8, 2) := by decide +kernel
theorem dX3_reckonedRelative_83 : decode cX3_reckonedRelative 83 = .ok (.invokevirtual 101, 3) := by decide +kernel
theorem dX3_reckonedRelative_86 : decode cX3_reckonedRelative 86 = .ok (.iinc 5 1, 3) := by decide +kernel
theorem dX3_reckonedRelative_89 : decode cX3_reckonedRelative 89 = .ok (.goto (-70), 3) := by decide +kernel
theorem dX3_reckonedRelative_92 : decode cX3_reckonedRelative 92 = .ok (.aload_n 0, 1) := by decide +kernel
theorem dX3_reckonedRelative_93 : decode cX3_reckonedRelative 93 = .ok (.getfield 12, 3) := by decide +kernel
theorem dX3_reckonedRelative_96 : decode cX3_reckonedRelative 96 = .ok (.aload_n 0, 1) := by decide +kernel
theorem dX3_reckonedRelative_97 : decode cX3_reckonedRelative 97 = .ok (.getfield 31, 3) := by decide +kernel
theorem dX3_reckonedRelative_100 : decode cX3_reckonedRelative 100 = .ok (.getfield 47, 3) := by decide +kernel
theorem dX3_reckonedRelative_103 : decode cX3_reckonedRelative 103 = .ok (.iload_n 1, 1) := by decide +kernel
theorem dX3_reckonedRelative_104 : decode cX3_reckonedRelative 104 = .ok (.invokevirtual 105, 3) := by decide +kernel
theorem dX3_reckonedRelative_107 : decode cX3_reckonedRelative 107 = .ok (.checkcast 109, 3) := by decide +kernel
theorem dX3_reckonedRelative_110 : decode cX3_reckonedRelative 110 = .ok (.getfield 111, 3) := by decide +kernel
theorem dX3_reckonedRelative_113 : decode cX3_reckonedRelative 113 = .ok (.invokevirtual 115, 3) := by decide +kernel
theorem dX3_reckonedRelative_116 : decode cX3_reckonedRelative 116 = .ok (.dreturn, 1) := by decide +kernel
set_option maxRecDepth 20000 in
theorem ggX3_reckonedPrice_X3_rateOf : GoodIn wsX3_reckonedPrice wsX3_rateOf := goodIn_r _ [5, 6, 7, 8, 9, 10, 11, 12, 13, 14, 15, 37, 38, 39, 40, 41, 42, 43, 44, 45, 46, 47, 48, 49, 50, 51, 52, 53, 54] (by decide +kernel) (by decide +kernel)
set_option maxRecDepth 20000 in
theorem gX3_reckonedPrice_X3_rateOf : GoodIn wsX3_reckonedPrice (wsV RX3 90 RX3 yX3_rateOf wsX3_rateOf) := goodIn_app (goodIn_of _ (by decide +kernel)) ggX3_reckonedPrice_X3_rateOf
set_option maxRecDepth 20000 in
theorem ggX3_reckonedPrice_X3_baseOf : GoodIn wsX3_reckonedPrice wsX3_baseOf := goodIn_r _ [19, 6, 20, 21, 22, 23, 11, 24, 25, 26, 27, 28, 29, 30, 37, 38, 39, 40, 41, 42, 43, 44, 45, 46, 47, 48, 49, 50, 51, 52, 53, 54] (by decide +kernel) (by decide +kernel)
set_option maxRecDepth 20000 in
theorem gX3_reckonedPrice_X3_baseOf : GoodIn wsX3_reckonedPrice (wsV RX3 94 RX3 yX3_baseOf wsX3_baseOf) := goodIn_app (goodIn_of _ (by decide +kernel)) ggX3_reckonedPrice_X3_baseOf
set_option maxRecDepth 20000 in
theorem ggX3_reckonedPrice_X3_isWithinBound : GoodIn wsX3_reckonedPrice wsX3_isWithinBound := goodIn_r _ [34, 6, 35, 36, 37, 38, 39, 40, 41, 42, 43, 44, 45, 46, 47, 48, 49, 50, 51, 52, 53, 54] (by decide +kernel) (by decide +kernel)
set_option maxRecDepth 20000 in
theorem gX3_reckonedPrice_X3_isWithinBound : GoodIn wsX3_reckonedPrice (wsV RX3 97 RX3 yX3_isWithinBound wsX3_isWithinBound) := goodIn_app (goodIn_of _ (by decide +kernel)) ggX3_reckonedPrice_X3_isWithinBound
theorem dX3_reckonedPrice_0 : decode cX3_reckonedPrice 0 = .ok (.aload_n 0, 1) := by decide +kernel
theorem dX3_reckonedPrice_1 : decode cX3_reckonedPrice 1 = .ok (.iload_n 1, 1) := by decide +kernel
theorem dX3_reckonedPrice_2 : decode cX3_reckonedPrice 2 = .ok (.invokevirtual 90, 3) := by decide +kernel
theorem dX3_reckonedPrice_5 : decode cX3_reckonedPrice 5 = .ok (.dstore 4, 2) := by decide +kernel
theorem dX3_reckonedPrice_7 : decode cX3_reckonedPrice 7 = .ok (.aload_n 0, 1) := by decide +kernel
theorem dX3_reckonedPrice_8 : decode cX3_reckonedPrice 8 = .ok (.iload_n 1, 1) := by decide +kernel
theorem dX3_reckonedPrice_9 : decode cX3_reckonedPrice 9 = .ok (.invokevirtual 94, 3) := by decide +kernel
theorem dX3_reckonedPrice_12 : decode cX3_reckonedPrice 12 = .ok (.dstore 6, 2) := by decide +kernel
theorem dX3_reckonedPrice_14 : decode cX3_reckonedPrice 14 = .ok (.dload 6, 2) := by decide +kernel
theorem dX3_reckonedPrice_16 : decode cX3_reckonedPrice 16 = .ok (.dconst 0, 1) := by decide +kernel
theorem dX3_reckonedPrice_17 : decode cX3_reckonedPrice 17 = .ok (.dcmp .g, 1) := by decide +kernel
theorem dX3_reckonedPrice_18 : decode cX3_reckonedPrice 18 = .ok (.ifCond .le 15, 3) := by decide +kernel
theorem dX3_reckonedPrice_21 : decode cX3_reckonedPrice 21 = .ok (.aload_n 0, 1) := by decide +kernel
theorem dX3_reckonedPrice_22 : decode cX3_reckonedPrice 22 = .ok (.iload_n 1, 1) := by decide +kernel
theorem dX3_reckonedPrice_23 : decode cX3_reckonedPrice 23 = .ok (.dload 4, 2) := by decide +kernel
theorem dX3_reckonedPrice_25 : decode cX3_reckonedPrice 25 = .ok (.dload 6, 2) := by decide +kernel
theorem dX3_reckonedPrice_27 : decode cX3_reckonedPrice 27 = .ok (.invokevirtual 97, 3) := by decide +kernel
theorem dX3_reckonedPrice_30 : decode cX3_reckonedPrice 30 = .ok (.ifCond .eq 6, 3) := by decide +kernel
theorem dX3_reckonedPrice_33 : decode cX3_reckonedPrice 33 = .ok (.dload 4, 2) := by decide +kernel
theorem dX3_reckonedPrice_35 : decode cX3_reckonedPrice 35 = .ok (.dreturn, 1) := by decide +kernel
theorem dX3_reckonedPrice_36 : decode cX3_reckonedPrice 36 = .ok (.dload_n 2, 1) := by decide +kernel
theorem dX3_reckonedPrice_37 : decode cX3_reckonedPrice 37 = .ok (.dconst 0, 1) := by decide +kernel
theorem dX3_reckonedPrice_38 : decode cX3_reckonedPrice 38 = .ok (.dcmp .l, 1) := by decide +kernel
theorem dX3_reckonedPrice_39 : decode cX3_reckonedPrice 39 = .ok (.ifCond .le 10, 3) := by decide +kernel
theorem dX3_reckonedPrice_42 : decode cX3_reckonedPrice 42 = .ok (.dload 6, 2) := by decide +kernel
theorem dX3_reckonedPrice_44 : decode cX3_reckonedPrice 44 = .ok (.dload_n 2, 1) := by decide +kernel
theorem dX3_reckonedPrice_45 : decode cX3_reckonedPrice 45 = .ok (.dmul, 1) := by decide +kernel
theorem dX3_reckonedPrice_46 : decode cX3_reckonedPrice 46 = .ok (.goto 5, 3) := by decide +kernel
theorem dX3_reckonedPrice_49 : decode cX3_reckonedPrice 49 = .ok (.dload 6, 2) := by decide +kernel
theorem dX3_reckonedPrice_51 : decode cX3_reckonedPrice 51 = .ok (.dreturn, 1) := by decide +kernel
set_option maxRecDepth 20000 in
theorem ggX3_rateOf_X2_rateOf : GoodIn wsX3_rateOf wsX2_rateOf := goodIn_r _ [7, 8, 9, 10, 19, 20, 21, 22, 23, 24, 25, 26, 27, 28] (by decide +kernel) (by decide +kernel)
set_option maxRecDepth 20000 in
theorem gX3_rateOf_X2_rateOf : GoodIn wsX3_rateOf (wsV RX3 118 RX2 yX2_rateOf wsX2_rateOf) := goodIn_app (goodIn_of _ (by decide +kernel)) ggX3_rateOf_X2_rateOf
theorem dX3_rateOf_0 : decode cX3_rateOf 0 = .ok (.aload_n 0, 1) := by decide +kernel
theorem dX3_rateOf_1 : decode cX3_rateOf 1 = .ok (.getfield 31, 3) := by decide +kernel
theorem dX3_rateOf_4 : decode cX3_rateOf 4 = .ok (.iload_n 1, 1) := by decide +kernel
theorem dX3_rateOf_5 : decode cX3_rateOf 5 = .ok (.aload_n 0, 1) := by decide +kernel
theorem dX3_rateOf_6 : decode cX3_rateOf 6 = .ok (.getfield 39, 3) := by decide +kernel
theorem dX3_rateOf_9 : decode cX3_rateOf 9 = .ok (.invokevirtual 118, 3) := by decide +kernel
theorem dX3_rateOf_12 : decode cX3_rateOf 12 = .ok (.dreturn, 1) := by decide +kernel
set_option maxRecDepth 20000 in
theorem ggX3_baseOf_X2_hasLink : GoodIn wsX3_baseOf wsX2_hasLink := goodIn_r _ [7, 8, 22, 23, 24, 25, 26, 27, 28, 29, 30, 31] (by decide +kernel) (by decide +kernel)
set_option maxRecDepth 20000 in
theorem gX3_baseOf_X2_hasLink : GoodIn wsX3_baseOf (wsV RX3 121 RX2 yX2_hasLink wsX2_hasLink) := goodIn_app (goodIn_of _ (by decide +kernel)) ggX3_baseOf_X2_hasLink
set_option maxRecDepth 20000 in
theorem ggX3_baseOf_X2_linkRateOf : GoodIn wsX3_baseOf wsX2_linkRateOf := goodIn_r _ [12, 13, 8, 22, 23, 24, 25, 26, 27, 28, 29, 30, 31] (by decide +kernel) (by decide +kernel)
set_option maxRecDepth 20000 in
theorem gX3_baseOf_X2_linkRateOf : GoodIn wsX3_baseOf (wsV RX3 125 RX2 yX2_linkRateOf wsX2_linkRateOf) := goodIn_app (goodIn_of _ (by decide +kernel)) ggX3_baseOf_X2_linkRateOf
theorem dX3_baseOf_0 : decode cX3_baseOf 0 = .ok (.iload_n 1, 1) := by decide +kernel
theorem dX3_baseOf_1 : decode cX3_baseOf 1 = .ok (.bipush 48, 2) := by decide +kernel
theorem dX3_baseOf_3 : decode cX3_baseOf 3 = .ok (.isub, 1) := by decide +kernel
theorem dX3_baseOf_4 : decode cX3_baseOf 4 = .ok (.istore_n 2, 1) := by decide +kernel
theorem dX3_baseOf_5 : decode cX3_baseOf 5 = .ok (.iload_n 2, 1) := by decide +kernel
theorem dX3_baseOf_6 : decode cX3_baseOf 6 = .ok (.ifCond .ge 5, 3) := by decide +kernel
theorem dX3_baseOf_9 : decode cX3_baseOf 9 = .ok (.dconst 0, 1) := by decide +kernel
theorem dX3_baseOf_10 : decode cX3_baseOf 10 = .ok (.dreturn, 1) := by decide +kernel
theorem dX3_baseOf_11 : decode cX3_baseOf 11 = .ok (.aload_n 0, 1) := by decide +kernel
theorem dX3_baseOf_12 : decode cX3_baseOf 12 = .ok (.getfield 31, 3) := by decide +kernel
theorem dX3_baseOf_15 : decode cX3_baseOf 15 = .ok (.iload_n 2, 1) := by decide +kernel
theorem dX3_baseOf_16 : decode cX3_baseOf 16 = .ok (.invokevirtual 121, 3) := by decide +kernel
theorem dX3_baseOf_19 : decode cX3_baseOf 19 = .ok (.ifCond .eq 14, 3) := by decide +kernel
theorem dX3_baseOf_22 : decode cX3_baseOf 22 = .ok (.aload_n 0, 1) := by decide +kernel
theorem dX3_baseOf_23 : decode cX3_baseOf 23 = .ok (.getfield 31, 3) := by decide +kernel
theorem dX3_baseOf_26 : decode cX3_baseOf 26 = .ok (.iload_n 2, 1) := by decide +kernel
theorem dX3_baseOf_27 : decode cX3_baseOf 27 = .ok (.invokevirtual 125, 3) := by decide +kernel
theorem dX3_baseOf_30 : decode cX3_baseOf 30 = .ok (.goto 9, 3) := by decide +kernel
theorem dX3_baseOf_33 : decode cX3_baseOf 33 = .ok (.aload_n 0, 1) := by decide +kernel
theorem dX3_baseOf_34 : decode cX3_baseOf 34 = .ok (.getfield 18, 3) := by decide +kernel
theorem dX3_baseOf_37 : decode cX3_baseOf 37 = .ok (.iload_n 2, 1) := by decide +kernel
theorem dX3_baseOf_38 : decode cX3_baseOf 38 = .ok (.daload, 1) := by decide +kernel
theorem dX3_baseOf_39 : decode cX3_baseOf 39 = .ok (.dreturn, 1) := by decide +kernel
set_option maxRecDepth 20000 in
theorem ggX3_matches_X3_rateOf : GoodIn wsX3_matches wsX3_rateOf := goodIn_r _ [5, 6, 7, 8, 9, 10, 11, 12, 13, 14, 15, 37, 38, 39, 40, 41, 42, 43, 44, 45, 46, 47, 48, 49, 50, 51, 52, 53, 54] (by decide +kernel) (by decide +kernel)
set_option maxRecDepth 20000 in
theorem gX3_matches_X3_rateOf : GoodIn wsX3_matches (wsV RX3 90 RX3 yX3_rateOf wsX3_rateOf) := goodIn_app (goodIn_of _ (by decide +kernel)) ggX3_matches_X3_rateOf
set_option maxRecDepth 20000 in
theorem ggX3_matches_X3_baseOf : GoodIn wsX3_matches wsX3_baseOf := goodIn_r _ [19, 6, 20, 21, 22, 23, 11, 24, 25, 26, 27, 28, 29, 30, 37, 38, 39, 40, 41, 42, 43, 44, 45, 46, 47, 48, 49, 50, 51, 52, 53, 54] (by decide +kernel) (by decide +kernel)
set_option maxRecDepth 20000 in
theorem gX3_matches_X3_baseOf : GoodIn wsX3_matches (wsV RX3 94 RX3 yX3_baseOf wsX3_baseOf) := goodIn_app (goodIn_of _ (by decide +kernel)) ggX3_matches_X3_baseOf
set_option maxRecDepth 20000 in
theorem ggX3_matches_X3_isWithinBound : GoodIn wsX3_matches wsX3_isWithinBound := goodIn_r _ [34, 6, 35, 36, 37, 38, 39, 40, 41, 42, 43, 44, 45, 46, 47, 48, 49, 50, 51, 52, 53, 54] (by decide +kernel) (by decide +kernel)
set_option maxRecDepth 20000 in
theorem gX3_matches_X3_isWithinBound : GoodIn wsX3_matches (wsV RX3 97 RX3 yX3_isWithinBound wsX3_isWithinBound) := goodIn_app (goodIn_of _ (by decide +kernel)) ggX3_matches_X3_isWithinBound
theorem dX3_matches_0 : decode cX3_matches 0 = .ok (.aload_n 0, 1) := by decide +kernel
theorem dX3_matches_1 : decode cX3_matches 1 = .ok (.iload_n 1, 1) := by decide +kernel
theorem dX3_matches_2 : decode cX3_matches 2 = .ok (.aload_n 0, 1) := by decide +kernel
theorem dX3_matches_3 : decode cX3_matches 3 = .ok (.iload_n 1, 1) := by decide +kernel
theorem dX3_matches_4 : decode cX3_matches 4 = .ok (.invokevirtual 90, 3) := by decide +kernel
theorem dX3_matches_7 : decode cX3_matches 7 = .ok (.aload_n 0, 1) := by decide +kernel
theorem dX3_matches_8 : decode cX3_matches 8 = .ok (.iload_n 1, 1) := by decide +kernel
theorem dX3_matches_9 : decode cX3_matches 9 = .ok (.invokevirtual 94, 3) := by decide +kernel
theorem dX3_matches_12 : decode cX3_matches 12 = .ok (.invokevirtual 97, 3) := by decide +kernel
theorem dX3_matches_15 : decode cX3_matches 15 = .ok (.ireturn, 1) := by decide +kernel
theorem dX3_isWithinBound_0 : decode cX3_isWithinBound 0 = .ok (.dload_n 2, 1) := by decide +kernel
theorem dX3_isWithinBound_1 : decode cX3_isWithinBound 1 = .ok (.dconst 0, 1) := by decide +kernel
theorem dX3_isWithinBound_2 : decode cX3_isWithinBound 2 = .ok (.dcmp .g, 1) := by decide +kernel
theorem dX3_isWithinBound_3 : decode cX3_isWithinBound 3 = .ok (.ifCond .le 10, 3) := by decide +kernel
theorem dX3_isWithinBound_6 : decode cX3_isWithinBound 6 = .ok (.dload 4, 2) := by decide +kernel
theorem dX3_isWithinBound_8 : decode cX3_isWithinBound 8 = .ok (.dconst 0, 1) := by decide +kernel
theorem dX3_isWithinBound_9 : decode cX3_isWithinBound 9 = .ok (.dcmp .g, 1) := by decide +kernel
theorem dX3_isWithinBound_10 : decode cX3_isWithinBound 10 = .ok (.ifCond .gt 5, 3) := by decide +kernel
theorem dX3_isWithinBound_13 : decode cX3_isWithinBound 13 = .ok (.iconst 0, 1) := by decide +kernel
theorem dX3_isWithinBound_14 : decode cX3_isWithinBound 14 = .ok (.ireturn, 1) := by decide +kernel
theorem dX3_isWithinBound_15 : decode cX3_isWithinBound 15 = .ok (.aload_n 0, 1) := by decide +kernel
theorem dX3_isWithinBound_16 : decode cX3_isWithinBound 16 = .ok (.getfield 31, 3) := by decide +kernel
theorem dX3_isWithinBound_19 : decode cX3_isWithinBound 19 = .ok (.getfield 128, 3) := by decide +kernel
theorem dX3_isWithinBound_22 : decode cX3_isWithinBound 22 = .ok (.iload_n 1, 1) := by decide +kernel
theorem dX3_isWithinBound_23 : decode cX3_isWithinBound 23 = .ok (.baload, 1) := by decide +kernel
theorem dX3_isWithinBound_24 : decode cX3_isWithinBound 24 = .ok (.ifCond .eq 9, 3) := by decide +kernel
theorem dX3_isWithinBound_27 : decode cX3_isWithinBound 27 = .ok (.ldc2_w 132, 3) := by decide +kernel
theorem dX3_isWithinBound_30 : decode cX3_isWithinBound 30 = .ok (.goto 6, 3) := by decide +kernel
theorem dX3_isWithinBound_33 : decode cX3_isWithinBound 33 = .ok (.ldc2_w 134, 3) := by decide +kernel
theorem dX3_isWithinBound_36 : decode cX3_isWithinBound 36 = .ok (.dstore 6, 2) := by decide +kernel
theorem dX3_isWithinBound_38 : decode cX3_isWithinBound 38 = .ok (.dload_n 2, 1) := by decide +kernel
theorem dX3_isWithinBound_39 : decode cX3_isWithinBound 39 = .ok (.dload 4, 2) := by decide +kernel
theorem dX3_isWithinBound_41 : decode cX3_isWithinBound 41 = .ok (.ddiv, 1) := by decide +kernel
theorem dX3_isWithinBound_42 : decode cX3_isWithinBound 42 = .ok (.dstore 8, 2) := by decide +kernel
theorem dX3_isWithinBound_44 : decode cX3_isWithinBound 44 = .ok (.dload 8, 2) := by decide +kernel
theorem dX3_isWithinBound_46 : decode cX3_isWithinBound 46 = .ok (.dload 6, 2) := by decide +kernel
theorem dX3_isWithinBound_48 : decode cX3_isWithinBound 48 = .ok (.dcmp .g, 1) := by decide +kernel
theorem dX3_isWithinBound_49 : decode cX3_isWithinBound 49 = .ok (.ifCond .gt 17, 3) := by decide +kernel
theorem dX3_isWithinBound_52 : decode cX3_isWithinBound 52 = .ok (.dload 8, 2) := by decide +kernel
theorem dX3_isWithinBound_54 : decode cX3_isWithinBound 54 = .ok (.dload 6, 2) := by decide +kernel
theorem dX3_isWithinBound_56 : decode cX3_isWithinBound 56 = .ok (.dmul, 1) := by decide +kernel
theorem dX3_isWithinBound_57 : decode cX3_isWithinBound 57 = .ok (.dconst 1, 1) := by decide +kernel
theorem dX3_isWithinBound_58 : decode cX3_isWithinBound 58 = .ok (.dcmp .l, 1) := by decide +kernel
theorem dX3_isWithinBound_59 : decode cX3_isWithinBound 59 = .ok (.ifCond .lt 7, 3) := by decide +kernel
theorem dX3_isWithinBound_62 : decode cX3_isWithinBound 62 = .ok (.iconst 1, 1) := by decide +kernel
theorem dX3_isWithinBound_63 : decode cX3_isWithinBound 63 = .ok (.goto 4, 3) := by decide +kernel
theorem dX3_isWithinBound_66 : decode cX3_isWithinBound 66 = .ok (.iconst 0, 1) := by decide +kernel
theorem dX3_isWithinBound_67 : decode cX3_isWithinBound 67 = .ok (.ireturn, 1) := by decide +kernel
set_option maxRecDepth 20000 in
theorem ggX3_exchangedRelativeOf_X3_reckonedRelative : GoodIn wsX3_exchangedRelativeOf wsX3_reckonedRelative := goodIn_r _ [5, 6, 7, 8, 9, 10, 11, 12, 13, 14, 15, 16, 17, 18, 19, 20, 21, 22, 23, 24, 4, 25, 26, 27, 28, 29, 30, 31, 32, 33, 34, 35, 36, 37, 38, 39, 40, 41, 42, 43, 44, 45, 46, 47, 48, 49, 50, 51, 52, 53, 54, 55, 56, 57, 58, 59, 60, 61, 62, 63, 64, 65, 66, 67, 68, 69, 70, 71, 72, 73, 74, 75, 76, 77, 78, 79, 80, 81, 82, 83, 84, 85, 86, 87, 88, 89, 90, 91, 92, 93, 94, 95, 96, 97, 98, 99, 100, 101, 102, 103, 104, 105, 106, 107, 108, 109, 110, 111] (by decide +kernel) (by decide +kernel)
set_option maxRecDepth 20000 in
theorem gX3_exchangedRelativeOf_X3_reckonedRelative : GoodIn wsX3_exchangedRelativeOf (wsV RX3 75 RX3 yX3_reckonedRelative wsX3_reckonedRelative) := goodIn_app (goodIn_of _ (by decide +kernel)) ggX3_exchangedRelativeOf_X3_reckonedRelative
theorem dX3_exchangedRelativeOf_0 : decode cX3_exchangedRelativeOf 0 = .ok (.aload_n 0, 1) := by decide +kernel
theorem dX3_exchangedRelativeOf_1 : decode cX3_exchangedRelativeOf 1 = .ok (.iload_n 1, 1) := by decide +kernel
theorem dX3_exchangedRelativeOf_2 : decode cX3_exchangedRelativeOf 2 = .ok (.iload_n 2, 1) := by decide +kernel
theorem dX3_exchangedRelativeOf_3 : decode cX3_exchangedRelativeOf 3 = .ok (.iconst 1, 1) := by decide +kernel
theorem dX3_exchangedRelativeOf_4 : decode cX3_exchangedRelativeOf 4 = .ok (.invokevirtual 75, 3) := by decide +kernel
theorem dX3_exchangedRelativeOf_7 : decode cX3_exchangedRelativeOf 7 = .ok (.dreturn, 1) := by decide +kernel
set_option maxRecDepth 20000 in
theorem ggX3_reckonedGroupRelative_Jx4a65c_size_8abf5 : GoodIn wsX3_reckonedGroupRelative wsJx4a65c_size_8abf5 := goodIn_r _ [7, 8, 53, 54, 55] (by decide +kernel) (by decide +kernel)
set_option maxRecDepth 20000 in
theorem gX3_reckonedGroupRelative_Jx4a65c_size_8abf5 : GoodIn wsX3_reckonedGroupRelative (wsV RX3 53 RJx4a65c yJx4a65c_size_8abf5 wsJx4a65c_size_8abf5) := goodIn_app (goodIn_of _ (by decide +kernel)) ggX3_reckonedGroupRelative_Jx4a65c_size_8abf5
set_option maxRecDepth 20000 in
theorem ggX3_reckonedGroupRelative_X3_relativeOf : GoodIn wsX3_reckonedGroupRelative wsX3_relativeOf := goodIn_r _ [13, 14, 32, 33, 34, 35, 36, 37, 38, 39] (by decide +kernel) (by decide +kernel)
set_option maxRecDepth 20000 in
theorem gX3_reckonedGroupRelative_X3_relativeOf : GoodIn wsX3_reckonedGroupRelative (wsV RX3 136 RX3 yX3_relativeOf wsX3_relativeOf) := goodIn_app (goodIn_of _ (by decide +kernel)) ggX3_reckonedGroupRelative_X3_relativeOf
set_option maxRecDepth 20000 in
theorem ggX3_reckonedGroupRelative_Jx4a65c_get_915e3 : GoodIn wsX3_reckonedGroupRelative wsJx4a65c_get_915e3 := goodIn_r _ [18, 8, 19, 20, 21, 22, 23, 24, 25, 26, 27, 28, 29, 6, 30, 31, 53, 54, 55] (by decide +kernel) (by decide +kernel)
set_option maxRecDepth 20000 in
theorem gX3_reckonedGroupRelative_Jx4a65c_get_915e3 : GoodIn wsX3_reckonedGroupRelative (wsV RX3 105 RJx4a65c yJx4a65c_get_915e3 wsJx4a65c_get_915e3) := goodIn_app (goodIn_of _ (by decide +kernel)) ggX3_reckonedGroupRelative_Jx4a65c_get_915e3
theorem dX3_reckonedGroupRelative_0 : decode cX3_reckonedGroupRelative 0 = .ok (.dconst 0, 1) := by decide +kernel
theorem dX3_reckonedGroupRelative_1 : decode cX3_reckonedGroupRelative 1 = .ok (.dstore_n 3, 1) := by decide +kernel
theorem dX3_reckonedGroupRelative_2 : decode cX3_reckonedGroupRelative 2 = .ok (.iconst 0, 1) := by decide +kernel
theorem dX3_reckonedGroupRelative_3 : decode cX3_reckonedGroupRelative 3 = .ok (.istore 5, 2) := by decide +kernel
theorem dX3_reckonedGroupRelative_5 : decode cX3_reckonedGroupRelative 5 = .ok (.iconst 0, 1) := by decide +kernel
theorem dX3_reckonedGroupRelative_6 : decode cX3_reckonedGroupRelative 6 = .ok (.istore 6, 2) := by decide +kernel
theorem dX3_reckonedGroupRelative_8 : decode cX3_reckonedGroupRelative 8 = .ok (.iload 6, 2) := by decide +kernel
theorem dX3_reckonedGroupRelative_10 : decode cX3_reckonedGroupRelative 10 = .ok (.aload_n 0, 1) := by decide +kernel
theorem dX3_reckonedGroupRelative_11 : decode cX3_reckonedGroupRelative 11 = .ok (.getfield 31, 3) := by decide +kernel
theorem dX3_reckonedGroupRelative_14 : decode cX3_reckonedGroupRelative 14 = .ok (.getfield 47, 3) := by decide +kernel
theorem dX3_reckonedGroupRelative_17 : decode cX3_reckonedGroupRelative 17 = .ok (.invokevirtual 53, 3) := by decide +kernel
theorem dX3_reckonedGroupRelative_20 : decode cX3_reckonedGroupRelative 20 = .ok (.if_icmp .ge 55, 3) := by decide +kernel
theorem dX3_reckonedGroupRelative_23 : decode cX3_reckonedGroupRelative 23 = .ok (.aload_n 0, 1) := by decide +kernel
theorem dX3_reckonedGroupRelative_24 : decode cX3_reckonedGroupRelative 24 = .ok (.iload 6, 2) := by decide +kernel
theorem dX3_reckonedGroupRelative_26 : decode cX3_reckonedGroupRelative 26 = .ok (.iload_n 2, 1) := by decide +kernel
theorem dX3_reckonedGroupRelative_27 : decode cX3_reckonedGroupRelative 27 = .ok (.invokevirtual 136, 3) := by decide +kernel
theorem dX3_reckonedGroupRelative_30 : decode cX3_reckonedGroupRelative 30 = .ok (.dstore 7, 2) := by decide +kernel
theorem dX3_reckonedGroupRelative_32 : decode cX3_reckonedGroupRelative 32 = .ok (.aload_n 0, 1) := by decide +kernel
theorem dX3_reckonedGroupRelative_33 : decode cX3_reckonedGroupRelative 33 = .ok (.getfield 31, 3) := by decide +kernel
theorem dX3_reckonedGroupRelative_36 : decode cX3_reckonedGroupRelative 36 = .ok (.getfield 47, 3) := by decide +kernel
theorem dX3_reckonedGroupRelative_39 : decode cX3_reckonedGroupRelative 39 = .ok (.iload 6, 2) := by decide +kernel
theorem dX3_reckonedGroupRelative_41 : decode cX3_reckonedGroupRelative 41 = .ok (.invokevirtual 105, 3) := by decide +kernel
theorem dX3_reckonedGroupRelative_44 : decode cX3_reckonedGroupRelative 44 = .ok (.checkcast 109, 3) := by decide +kernel
theorem dX3_reckonedGroupRelative_47 : decode cX3_reckonedGroupRelative 47 = .ok (.getfield 139, 3) := by decide +kernel
theorem dX3_reckonedGroupRelative_50 : decode cX3_reckonedGroupRelative 50 = .ok (.iload_n 1, 1) := by decide +kernel
theorem dX3_reckonedGroupRelative_51 : decode cX3_reckonedGroupRelative 51 = .ok (.if_icmp .ne 18, 3) := by decide +kernel
theorem dX3_reckonedGroupRelative_54 : decode cX3_reckonedGroupRelative 54 = .ok (.dload 7, 2) := by decide +kernel
theorem dX3_reckonedGroupRelative_56 : decode cX3_reckonedGroupRelative 56 = .ok (.dconst 0, 1) := by decide +kernel
theorem dX3_reckonedGroupRelative_57 : decode cX3_reckonedGroupRelative 57 = .ok (.dcmp .l, 1) := by decide +kernel
theorem dX3_reckonedGroupRelative_58 : decode cX3_reckonedGroupRelative 58 = .ok (.ifCond .le 11, 3) := by decide +kernel
theorem dX3_reckonedGroupRelative_61 : decode cX3_reckonedGroupRelative 61 = .ok (.dload_n 3, 1) := by decide +kernel
theorem dX3_reckonedGroupRelative_62 : decode cX3_reckonedGroupRelative 62 = .ok (.dload 7, 2) := by decide +kernel
theorem dX3_reckonedGroupRelative_64 : decode cX3_reckonedGroupRelative 64 = .ok (.dadd, 1) := by decide +kernel
theorem dX3_reckonedGroupRelative_65 : decode cX3_reckonedGroupRelative 65 = .ok (.dstore_n 3, 1) := by decide +kernel
theorem dX3_reckonedGroupRelative_66 : decode cX3_reckonedGroupRelative 66 = .ok (.iinc 5 1, 3) := by decide +kernel
theorem dX3_reckonedGroupRelative_69 : decode cX3_reckonedGroupRelative 69 = .ok (.iinc 6 1, 3) := by decide +kernel
theorem dX3_reckonedGroupRelative_72 : decode cX3_reckonedGroupRelative 72 = .ok (.goto (-64), 3) := by decide +kernel
theorem dX3_reckonedGroupRelative_75 : decode cX3_reckonedGroupRelative 75 = .ok (.iload 5, 2) := by decide +kernel
theorem dX3_reckonedGroupRelative_77 : decode cX3_reckonedGroupRelative 77 = .ok (.ifCond .le 11, 3) := by decide +kernel
theorem dX3_reckonedGroupRelative_80 : decode cX3_reckonedGroupRelative 80 = .ok (.dload_n 3, 1) := by decide +kernel
theorem dX3_reckonedGroupRelative_81 : decode cX3_reckonedGroupRelative 81 = .ok (.iload 5, 2) := by decide +kernel
theorem dX3_reckonedGroupRelative_83 : decode cX3_reckonedGroupRelative 83 = .ok (.i2d, 1) := by decide +kernel
theorem dX3_reckonedGroupRelative_84 : decode cX3_reckonedGroupRelative 84 = .ok (.ddiv, 1) := by decide +kernel
theorem dX3_reckonedGroupRelative_85 : decode cX3_reckonedGroupRelative 85 = .ok (.goto 4, 3) := by decide +kernel
theorem dX3_reckonedGroupRelative_88 : decode cX3_reckonedGroupRelative 88 = .ok (.dconst 1, 1) := by decide +kernel
theorem dX3_reckonedGroupRelative_89 : decode cX3_reckonedGroupRelative 89 = .ok (.dreturn, 1) := by decide +kernel
set_option maxRecDepth 20000 in
theorem ggX3_stepOf_X4_shareOf : GoodIn wsX3_stepOf wsX4_shareOf := goodIn_r _ [6, 7, 22, 23, 24] (by decide +kernel) (by decide +kernel)
set_option maxRecDepth 20000 in
theorem gX3_stepOf_X4_shareOf : GoodIn wsX3_stepOf (wsV RX3 142 RX4 yX4_shareOf wsX4_shareOf) := goodIn_app (goodIn_of _ (by decide +kernel)) ggX3_stepOf_X4_shareOf
set_option maxRecDepth 20000 in
theorem ggX3_stepOf_X3_groupRelativeOf : GoodIn wsX3_stepOf wsX3_groupRelativeOf := goodIn_r _ [12, 13, 14, 15, 16, 17, 18, 19, 20, 21] (by decide +kernel) (by decide +kernel)
set_option maxRecDepth 20000 in
theorem gX3_stepOf_X3_groupRelativeOf : GoodIn wsX3_stepOf (wsV RX3 148 RX3 yX3_groupRelativeOf wsX3_groupRelativeOf) := goodIn_app (goodIn_of _ (by decide +kernel)) ggX3_stepOf_X3_groupRelativeOf
theorem dX3_stepOf_0 : decode cX3_stepOf 0 = .ok (.dconst 0, 1) := by decide +kernel
theorem dX3_stepOf_1 : decode cX3_stepOf 1 = .ok (.dstore_n 3, 1) := by decide +kernel
theorem dX3_stepOf_2 : decode cX3_stepOf 2 = .ok (.iconst 0, 1) := by decide +kernel
theorem dX3_stepOf_3 : decode cX3_stepOf 3 = .ok (.istore 5, 2) := by decide +kernel
theorem dX3_stepOf_5 : decode cX3_stepOf 5 = .ok (.iload 5, 2) := by decide +kernel
theorem dX3_stepOf_7 : decode cX3_stepOf 7 = .ok (.iconst 4, 1) := by decide +kernel
theorem dX3_stepOf_8 : decode cX3_stepOf 8 = .ok (.if_icmp .ge 31, 3) := by decide +kernel
theorem dX3_stepOf_11 : decode cX3_stepOf 11 = .ok (.dload_n 3, 1) := by decide +kernel
theorem dX3_stepOf_12 : decode cX3_stepOf 12 = .ok (.aload_n 0, 1) := by decide +kernel
theorem dX3_stepOf_13 : decode cX3_stepOf 13 = .ok (.getfield 35, 3) := by decide +kernel
theorem dX3_stepOf_16 : decode cX3_stepOf 16 = .ok (.iload_n 1, 1) := by decide +kernel
theorem dX3_stepOf_17 : decode cX3_stepOf 17 = .ok (.iload 5, 2) := by decide +kernel
theorem dX3_stepOf_19 : decode cX3_stepOf 19 = .ok (.iload_n 2, 1) := by decide +kernel
theorem dX3_stepOf_20 : decode cX3_stepOf 20 = .ok (.invokevirtual 142, 3) := by decide +kernel
theorem dX3_stepOf_23 : decode cX3_stepOf 23 = .ok (.aload_n 0, 1) := by decide +kernel
theorem dX3_stepOf_24 : decode cX3_stepOf 24 = .ok (.iload 5, 2) := by decide +kernel
theorem dX3_stepOf_26 : decode cX3_stepOf 26 = .ok (.iload_n 2, 1) := by decide +kernel
theorem dX3_stepOf_27 : decode cX3_stepOf 27 = .ok (.invokevirtual 148, 3) := by decide +kernel
theorem dX3_stepOf_30 : decode cX3_stepOf 30 = .ok (.dmul, 1) := by decide +kernel
theorem dX3_stepOf_31 : decode cX3_stepOf 31 = .ok (.dadd, 1) := by decide +kernel
theorem dX3_stepOf_32 : decode cX3_stepOf 32 = .ok (.dstore_n 3, 1) := by decide +kernel
theorem dX3_stepOf_33 : decode cX3_stepOf 33 = .ok (.iinc 5 1, 3) := by decide +kernel
theorem dX3_stepOf_36 : decode cX3_stepOf 36 = .ok (.goto (-31), 3) := by decide +kernel
theorem dX3_stepOf_39 : decode cX3_stepOf 39 = .ok (.dload_n 3, 1) := by decide +kernel
theorem dX3_stepOf_40 : decode cX3_stepOf 40 = .ok (.dreturn, 1) := by decide +kernel
set_option maxRecDepth 20000 in
theorem ggX3_coreOf_X3_groupRelativeOf : GoodIn wsX3_coreOf wsX3_groupRelativeOf := goodIn_r _ [6, 7, 8, 9, 10, 11, 12, 13, 14, 15] (by decide +kernel) (by decide +kernel)
set_option maxRecDepth 20000 in
theorem gX3_coreOf_X3_groupRelativeOf : GoodIn wsX3_coreOf (wsV RX3 148 RX3 yX3_groupRelativeOf wsX3_groupRelativeOf) := goodIn_app (goodIn_of _ (by decide +kernel)) ggX3_coreOf_X3_groupRelativeOf
theorem dX3_coreOf_0 : decode cX3_coreOf 0 = .ok (.iconst 0, 1) := by decide +kernel
theorem dX3_coreOf_1 : decode cX3_coreOf 1 = .ok (.istore_n 2, 1) := by decide +kernel
theorem dX3_coreOf_2 : decode cX3_coreOf 2 = .ok (.iconst 1, 1) := by decide +kernel
theorem dX3_coreOf_3 : decode cX3_coreOf 3 = .ok (.istore_n 3, 1) := by decide +kernel
theorem dX3_coreOf_4 : decode cX3_coreOf 4 = .ok (.iload_n 3, 1) := by decide +kernel
theorem dX3_coreOf_5 : decode cX3_coreOf 5 = .ok (.iconst 4, 1) := by decide +kernel
theorem dX3_coreOf_6 : decode cX3_coreOf 6 = .ok (.if_icmp .ge 27, 3) := by decide +kernel
theorem dX3_coreOf_9 : decode cX3_coreOf 9 = .ok (.aload_n 0, 1) := by decide +kernel
theorem dX3_coreOf_10 : decode cX3_coreOf 10 = .ok (.iload_n 3, 1) := by decide +kernel
theorem dX3_coreOf_11 : decode cX3_coreOf 11 = .ok (.iload_n 1, 1) := by decide +kernel
theorem dX3_coreOf_12 : decode cX3_coreOf 12 = .ok (.invokevirtual 148, 3) := by decide +kernel
theorem dX3_coreOf_15 : decode cX3_coreOf 15 = .ok (.aload_n 0, 1) := by decide +kernel
theorem dX3_coreOf_16 : decode cX3_coreOf 16 = .ok (.iload_n 2, 1) := by decide +kernel
theorem dX3_coreOf_17 : decode cX3_coreOf 17 = .ok (.iload_n 1, 1) := by decide +kernel
theorem dX3_coreOf_18 : decode cX3_coreOf 18 = .ok (.invokevirtual 148, 3) := by decide +kernel
theorem dX3_coreOf_21 : decode cX3_coreOf 21 = .ok (.dcmp .l, 1) := by decide +kernel
theorem dX3_coreOf_22 : decode cX3_coreOf 22 = .ok (.ifCond .le 5, 3) := by decide +kernel
theorem dX3_coreOf_25 : decode cX3_coreOf 25 = .ok (.iload_n 3, 1) := by decide +kernel
theorem dX3_coreOf_26 : decode cX3_coreOf 26 = .ok (.istore_n 2, 1) := by decide +kernel
theorem dX3_coreOf_27 : decode cX3_coreOf 27 = .ok (.iinc 3 1, 3) := by decide +kernel
theorem dX3_coreOf_30 : decode cX3_coreOf 30 = .ok (.goto (-26), 3) := by decide +kernel
theorem dX3_coreOf_33 : decode cX3_coreOf 33 = .ok (.iload_n 2, 1) := by decide +kernel
theorem dX3_coreOf_34 : decode cX3_coreOf 34 = .ok (.ifCond .ne 7, 3) := by decide +kernel
theorem dX3_coreOf_37 : decode cX3_coreOf 37 = .ok (.iconst 1, 1) := by decide +kernel
theorem dX3_coreOf_38 : decode cX3_coreOf 38 = .ok (.goto 4, 3) := by decide +kernel
theorem dX3_coreOf_41 : decode cX3_coreOf 41 = .ok (.iconst 0, 1) := by decide +kernel
theorem dX3_coreOf_42 : decode cX3_coreOf 42 = .ok (.istore_n 3, 1) := by decide +kernel
theorem dX3_coreOf_43 : decode cX3_coreOf 43 = .ok (.iload_n 3, 1) := by decide +kernel
theorem dX3_coreOf_44 : decode cX3_coreOf 44 = .ok (.iconst 1, 1) := by decide +kernel
theorem dX3_coreOf_45 : decode cX3_coreOf 45 = .ok (.iadd, 1) := by decide +kernel
theorem dX3_coreOf_46 : decode cX3_coreOf 46 = .ok (.istore 4, 2) := by decide +kernel
theorem dX3_coreOf_48 : decode cX3_coreOf 48 = .ok (.iload 4, 2) := by decide +kernel
theorem dX3_coreOf_50 : decode cX3_coreOf 50 = .ok (.iconst 4, 1) := by decide +kernel
theorem dX3_coreOf_51 : decode cX3_coreOf 51 = .ok (.if_icmp .ge 35, 3) := by decide +kernel
theorem dX3_coreOf_54 : decode cX3_coreOf 54 = .ok (.iload 4, 2) := by decide +kernel
theorem dX3_coreOf_56 : decode cX3_coreOf 56 = .ok (.iload_n 2, 1) := by decide +kernel
theorem dX3_coreOf_57 : decode cX3_coreOf 57 = .ok (.if_icmp .eq 23, 3) := by decide +kernel
theorem dX3_coreOf_60 : decode cX3_coreOf 60 = .ok (.aload_n 0, 1) := by decide +kernel
theorem dX3_coreOf_61 : decode cX3_coreOf 61 = .ok (.iload 4, 2) := by decide +kernel
theorem dX3_coreOf_63 : decode cX3_coreOf 63 = .ok (.iload_n 1, 1) := by decide +kernel
theorem dX3_coreOf_64 : decode cX3_coreOf 64 = .ok (.invokevirtual 148, 3) := by decide +kernel
theorem dX3_coreOf_67 : decode cX3_coreOf 67 = .ok (.aload_n 0, 1) := by decide +kernel
theorem dX3_coreOf_68 : decode cX3_coreOf 68 = .ok (.iload_n 3, 1) := by decide +kernel
theorem dX3_coreOf_69 : decode cX3_coreOf 69 = .ok (.iload_n 1, 1) := by decide +kernel
theorem dX3_coreOf_70 : decode cX3_coreOf 70 = .ok (.invokevirtual 148, 3) := by decide +kernel
theorem dX3_coreOf_73 : decode cX3_coreOf 73 = .ok (.dcmp .g, 1) := by decide +kernel
theorem dX3_coreOf_74 : decode cX3_coreOf 74 = .ok (.ifCond .ge 6, 3) := by decide +kernel
theorem dX3_coreOf_77 : decode cX3_coreOf 77 = .ok (.iload 4, 2) := by decide +kernel
theorem dX3_coreOf_79 : decode cX3_coreOf 79 = .ok (.istore_n 3, 1) := by decide +kernel
theorem dX3_coreOf_80 : decode cX3_coreOf 80 = .ok (.iinc 4 1, 3) := by decide +kernel
theorem dX3_coreOf_83 : decode cX3_coreOf 83 = .ok (.goto (-35), 3) := by decide +kernel
theorem dX3_coreOf_86 : decode cX3_coreOf 86 = .ok (.dconst 0, 1) := by decide +kernel
theorem dX3_coreOf_87 : decode cX3_coreOf 87 = .ok (.dstore 4, 2) := by decide +kernel
theorem dX3_coreOf_89 : decode cX3_coreOf 89 = .ok (.iconst 0, 1) := by decide +kernel
theorem dX3_coreOf_90 : decode cX3_coreOf 90 = .ok (.istore 6, 2) := by decide +kernel
theorem dX3_coreOf_92 : decode cX3_coreOf 92 = .ok (.iload 6, 2) := by decide +kernel
theorem dX3_coreOf_94 : decode cX3_coreOf 94 = .ok (.iconst 4, 1) := by decide +kernel
theorem dX3_coreOf_95 : decode cX3_coreOf 95 = .ok (.if_icmp .ge 33, 3) := by decide +kernel
theorem dX3_coreOf_98 : decode cX3_coreOf 98 = .ok (.iload 6, 2) := by decide +kernel
theorem dX3_coreOf_100 : decode cX3_coreOf 100 = .ok (.iload_n 2, 1) := by decide +kernel
theorem dX3_coreOf_101 : decode cX3_coreOf 101 = .ok (.if_icmp .eq 21, 3) := by decide +kernel
theorem dX3_coreOf_104 : decode cX3_coreOf 104 = .ok (.iload 6, 2) := by decide +kernel
theorem dX3_coreOf_106 : decode cX3_coreOf 106 = .ok (.iload_n 3, 1) := by decide +kernel
theorem dX3_coreOf_107 : decode cX3_coreOf 107 = .ok (.if_icmp .eq 15, 3) := by decide +kernel
theorem dX3_coreOf_110 : decode cX3_coreOf 110 = .ok (.dload 4, 2) := by decide +kernel
theorem dX3_coreOf_112 : decode cX3_coreOf 112 = .ok (.aload_n 0, 1) := by decide +kernel
theorem dX3_coreOf_113 : decode cX3_coreOf 113 = .ok (.iload 6, 2) := by decide +kernel
theorem dX3_coreOf_115 : decode cX3_coreOf 115 = .ok (.iload_n 1, 1) := by decide +kernel
theorem dX3_coreOf_116 : decode cX3_coreOf 116 = .ok (.invokevirtual 148, 3) := by decide +kernel
theorem dX3_coreOf_119 : decode cX3_coreOf 119 = .ok (.dadd, 1) := by decide +kernel
theorem dX3_coreOf_120 : decode cX3_coreOf 120 = .ok (.dstore 4, 2) := by decide +kernel
theorem dX3_coreOf_122 : decode cX3_coreOf 122 = .ok (.iinc 6 1, 3) := by decide +kernel
theorem dX3_coreOf_125 : decode cX3_coreOf 125 = .ok (.goto (-33), 3) := by decide +kernel
theorem dX3_coreOf_128 : decode cX3_coreOf 128 = .ok (.dload 4, 2) := by decide +kernel
theorem dX3_coreOf_130 : decode cX3_coreOf 130 = .ok (.ldc2_w 151, 3) := by decide +kernel
theorem dX3_coreOf_133 : decode cX3_coreOf 133 = .ok (.ddiv, 1) := by decide +kernel
theorem dX3_coreOf_134 : decode cX3_coreOf 134 = .ok (.dreturn, 1) := by decide +kernel
set_option maxRecDepth 20000 in
theorem ggX3_directOf_X3_groupRelativeOf : GoodIn wsX3_directOf wsX3_groupRelativeOf := goodIn_r _ [7, 8, 15, 16, 17, 18, 19, 20, 21, 22] (by decide +kernel) (by decide +kernel)
set_option maxRecDepth 20000 in
theorem gX3_directOf_X3_groupRelativeOf : GoodIn wsX3_directOf (wsV RX3 148 RX3 yX3_groupRelativeOf wsX3_groupRelativeOf) := goodIn_app (goodIn_of _ (by decide +kernel)) ggX3_directOf_X3_groupRelativeOf
set_option maxRecDepth 20000 in
theorem ggX3_directOf_X4_shareOf : GoodIn wsX3_directOf wsX4_shareOf := goodIn_r _ [13, 14, 23, 24, 25] (by decide +kernel) (by decide +kernel)
set_option maxRecDepth 20000 in
theorem gX3_directOf_X4_shareOf : GoodIn wsX3_directOf (wsV RX3 142 RX4 yX4_shareOf wsX4_shareOf) := goodIn_app (goodIn_of _ (by decide +kernel)) ggX3_directOf_X4_shareOf
theorem dX3_directOf_0 : decode cX3_directOf 0 = .ok (.dconst 0, 1) := by decide +kernel
theorem dX3_directOf_1 : decode cX3_directOf 1 = .ok (.dstore_n 2, 1) := by decide +kernel
theorem dX3_directOf_2 : decode cX3_directOf 2 = .ok (.iconst 0, 1) := by decide +kernel
theorem dX3_directOf_3 : decode cX3_directOf 3 = .ok (.istore 4, 2) := by decide +kernel
theorem dX3_directOf_5 : decode cX3_directOf 5 = .ok (.iload 4, 2) := by decide +kernel
theorem dX3_directOf_7 : decode cX3_directOf 7 = .ok (.iconst 4, 1) := by decide +kernel
theorem dX3_directOf_8 : decode cX3_directOf 8 = .ok (.if_icmp .ge 57, 3) := by decide +kernel
theorem dX3_directOf_11 : decode cX3_directOf 11 = .ok (.dconst 1, 1) := by decide +kernel
theorem dX3_directOf_12 : decode cX3_directOf 12 = .ok (.dstore 5, 2) := by decide +kernel
theorem dX3_directOf_14 : decode cX3_directOf 14 = .ok (.iconst 1, 1) := by decide +kernel
theorem dX3_directOf_15 : decode cX3_directOf 15 = .ok (.istore 7, 2) := by decide +kernel
theorem dX3_directOf_17 : decode cX3_directOf 17 = .ok (.iload 7, 2) := by decide +kernel
theorem dX3_directOf_19 : decode cX3_directOf 19 = .ok (.iload_n 1, 1) := by decide +kernel
theorem dX3_directOf_20 : decode cX3_directOf 20 = .ok (.if_icmp .gt 22, 3) := by decide +kernel
theorem dX3_directOf_23 : decode cX3_directOf 23 = .ok (.dload 5, 2) := by decide +kernel
theorem dX3_directOf_25 : decode cX3_directOf 25 = .ok (.aload_n 0, 1) := by decide +kernel
theorem dX3_directOf_26 : decode cX3_directOf 26 = .ok (.iload 4, 2) := by decide +kernel
theorem dX3_directOf_28 : decode cX3_directOf 28 = .ok (.iload 7, 2) := by decide +kernel
theorem dX3_directOf_30 : decode cX3_directOf 30 = .ok (.invokevirtual 148, 3) := by decide +kernel
theorem dX3_directOf_33 : decode cX3_directOf 33 = .ok (.dmul, 1) := by decide +kernel
theorem dX3_directOf_34 : decode cX3_directOf 34 = .ok (.dstore 5, 2) := by decide +kernel
theorem dX3_directOf_36 : decode cX3_directOf 36 = .ok (.iinc 7 1, 3) := by decide +kernel
theorem dX3_directOf_39 : decode cX3_directOf 39 = .ok (.goto (-22), 3) := by decide +kernel
theorem dX3_directOf_42 : decode cX3_directOf 42 = .ok (.dload_n 2, 1) := by decide +kernel
theorem dX3_directOf_43 : decode cX3_directOf 43 = .ok (.aload_n 0, 1) := by decide +kernel
theorem dX3_directOf_44 : decode cX3_directOf 44 = .ok (.getfield 35, 3) := by decide +kernel
theorem dX3_directOf_47 : decode cX3_directOf 47 = .ok (.iconst 0, 1) := by decide +kernel
theorem dX3_directOf_48 : decode cX3_directOf 48 = .ok (.iload 4, 2) := by decide +kernel
theorem dX3_directOf_50 : decode cX3_directOf 50 = .ok (.iload_n 1, 1) := by decide +kernel
theorem dX3_directOf_51 : decode cX3_directOf 51 = .ok (.invokevirtual 142, 3) := by decide +kernel
theorem dX3_directOf_54 : decode cX3_directOf 54 = .ok (.dload 5, 2) := by decide +kernel
theorem dX3_directOf_56 : decode cX3_directOf 56 = .ok (.dmul, 1) := by decide +kernel
theorem dX3_directOf_57 : decode cX3_directOf 57 = .ok (.dadd, 1) := by decide +kernel
theorem dX3_directOf_58 : decode cX3_directOf 58 = .ok (.dstore_n 2, 1) := by decide +kernel
theorem dX3_directOf_59 : decode cX3_directOf 59 = .ok (.iinc 4 1, 3) := by decide +kernel
theorem dX3_directOf_62 : decode cX3_directOf 62 = .ok (.goto (-57), 3) := by decide +kernel
theorem dX3_directOf_65 : decode cX3_directOf 65 = .ok (.ldc2_w 67, 3) := by decide +kernel
theorem dX3_directOf_68 : decode cX3_directOf 68 = .ok (.dload_n 2, 1) := by decide +kernel
theorem dX3_directOf_69 : decode cX3_directOf 69 = .ok (.dmul, 1) := by decide +kernel
theorem dX3_directOf_70 : decode cX3_directOf 70 = .ok (.dreturn, 1) := by decide +kernel
set_option maxRecDepth 20000 in
theorem ggX3_doubtsOf_X2_hasQuote : GoodIn wsX3_doubtsOf wsX2_hasQuote := goodIn_r _ [6, 7, 53, 54, 55, 56, 57, 58, 59, 60, 61, 62] (by decide +kernel) (by decide +kernel)
set_option maxRecDepth 20000 in
theorem gX3_doubtsOf_X2_hasQuote : GoodIn wsX3_doubtsOf (wsV RX3 153 RX2 yX2_hasQuote wsX2_hasQuote) := goodIn_app (goodIn_of _ (by decide +kernel)) ggX3_doubtsOf_X2_hasQuote
set_option maxRecDepth 20000 in
theorem ggX3_doubtsOf_X3_baseOf : GoodIn wsX3_doubtsOf wsX3_baseOf := goodIn_r _ [12, 1, 13, 14, 15, 16, 5, 17, 18, 19, 20, 21, 22, 23, 45, 46, 47, 48, 49, 50, 51, 52, 53, 54, 55, 56, 57, 58, 59, 60, 61, 62] (by decide +kernel) (by decide +kernel)
set_option maxRecDepth 20000 in
theorem gX3_doubtsOf_X3_baseOf : GoodIn wsX3_doubtsOf (wsV RX3 94 RX3 yX3_baseOf wsX3_baseOf) := goodIn_app (goodIn_of _ (by decide +kernel)) ggX3_doubtsOf_X3_baseOf
set_option maxRecDepth 20000 in
theorem ggX3_doubtsOf_X3_matches : GoodIn wsX3_doubtsOf wsX3_matches := goodIn_r _ [27, 28, 29, 30, 11, 31, 1, 32, 33, 34, 35, 5, 36, 37, 38, 7, 8, 9, 10, 12, 13, 14, 15, 16, 17, 18, 19, 20, 21, 22, 23, 39, 40, 41, 42, 43, 44, 45, 46, 47, 48, 49, 50, 51, 52, 53, 54, 55, 56, 57, 58, 59, 60, 61, 62] (by decide +kernel) (by decide +kernel)
set_option maxRecDepth 20000 in
theorem gX3_doubtsOf_X3_matches : GoodIn wsX3_doubtsOf (wsV RX3 156 RX3 yX3_matches wsX3_matches) := goodIn_app (goodIn_of _ (by decide +kernel)) ggX3_doubtsOf_X3_matches
theorem dX3_doubtsOf_0 : decode cX3_doubtsOf 0 = .ok (.iconst 0, 1) := by decide +kernel
theorem dX3_doubtsOf_1 : decode cX3_doubtsOf 1 = .ok (.istore_n 2, 1) := by decide +kernel
theorem dX3_doubtsOf_2 : decode cX3_doubtsOf 2 = .ok (.iload_n 1, 1) := by decide +kernel
theorem dX3_doubtsOf_3 : decode cX3_doubtsOf 3 = .ok (.bipush 48, 2) := by decide +kernel
theorem dX3_doubtsOf_5 : decode cX3_doubtsOf 5 = .ok (.imul, 1) := by decide +kernel
theorem dX3_doubtsOf_6 : decode cX3_doubtsOf 6 = .ok (.istore_n 3, 1) := by decide +kernel
theorem dX3_doubtsOf_7 : decode cX3_doubtsOf 7 = .ok (.iload_n 3, 1) := by decide +kernel
theorem dX3_doubtsOf_8 : decode cX3_doubtsOf 8 = .ok (.iload_n 1, 1) := by decide +kernel
theorem dX3_doubtsOf_9 : decode cX3_doubtsOf 9 = .ok (.iconst 1, 1) := by decide +kernel
theorem dX3_doubtsOf_10 : decode cX3_doubtsOf 10 = .ok (.iadd, 1) := by decide +kernel
theorem dX3_doubtsOf_11 : decode cX3_doubtsOf 11 = .ok (.bipush 48, 2) := by decide +kernel
theorem dX3_doubtsOf_13 : decode cX3_doubtsOf 13 = .ok (.imul, 1) := by decide +kernel
theorem dX3_doubtsOf_14 : decode cX3_doubtsOf 14 = .ok (.if_icmp .ge 41, 3) := by decide +kernel
theorem dX3_doubtsOf_17 : decode cX3_doubtsOf 17 = .ok (.aload_n 0, 1) := by decide +kernel
theorem dX3_doubtsOf_18 : decode cX3_doubtsOf 18 = .ok (.getfield 31, 3) := by decide +kernel
theorem dX3_doubtsOf_21 : decode cX3_doubtsOf 21 = .ok (.iload_n 3, 1) := by decide +kernel
theorem dX3_doubtsOf_22 : decode cX3_doubtsOf 22 = .ok (.invokevirtual 153, 3) := by decide +kernel
theorem dX3_doubtsOf_25 : decode cX3_doubtsOf 25 = .ok (.ifCond .eq 24, 3) := by decide +kernel
theorem dX3_doubtsOf_28 : decode cX3_doubtsOf 28 = .ok (.aload_n 0, 1) := by decide +kernel
theorem dX3_doubtsOf_29 : decode cX3_doubtsOf 29 = .ok (.iload_n 3, 1) := by decide +kernel
theorem dX3_doubtsOf_30 : decode cX3_doubtsOf 30 = .ok (.invokevirtual 94, 3) := by decide +kernel
theorem dX3_doubtsOf_33 : decode cX3_doubtsOf 33 = .ok (.dconst 0, 1) := by decide +kernel
theorem dX3_doubtsOf_34 : decode cX3_doubtsOf 34 = .ok (.dcmp .l, 1) := by decide +kernel
theorem dX3_doubtsOf_35 : decode cX3_doubtsOf 35 = .ok (.ifCond .le 14, 3) := by decide +kernel
theorem dX3_doubtsOf_38 : decode cX3_doubtsOf 38 = .ok (.aload_n 0, 1) := by decide +kernel
theorem dX3_doubtsOf_39 : decode cX3_doubtsOf 39 = .ok (.iload_n 3, 1) := by decide +kernel
theorem dX3_doubtsOf_40 : decode cX3_doubtsOf 40 = .ok (.invokevirtual 156, 3) := by decide +kernel
theorem dX3_doubtsOf_43 : decode cX3_doubtsOf 43 = .ok (.ifCond .ne 6, 3) := by decide +kernel
theorem dX3_doubtsOf_46 : decode cX3_doubtsOf 46 = .ok (.iinc 2 1, 3) := by decide +kernel
theorem dX3_doubtsOf_49 : decode cX3_doubtsOf 49 = .ok (.iinc 3 1, 3) := by decide +kernel
theorem dX3_doubtsOf_52 : decode cX3_doubtsOf 52 = .ok (.goto (-45), 3) := by decide +kernel
theorem dX3_doubtsOf_55 : decode cX3_doubtsOf 55 = .ok (.iload_n 2, 1) := by decide +kernel
theorem dX3_doubtsOf_56 : decode cX3_doubtsOf 56 = .ok (.ireturn, 1) := by decide +kernel
theorem dX4_init_0 : decode cX4_init 0 = .ok (.aload_n 0, 1) := by decide +kernel
theorem dX4_init_1 : decode cX4_init 1 = .ok (.invokespecial 3, 3) := by decide +kernel
theorem dX4_init_4 : decode cX4_init 4 = .ok (.aload_n 0, 1) := by decide +kernel
theorem dX4_init_5 : decode cX4_init 5 = .ok (.bipush 12, 2) := by decide +kernel
theorem dX4_init_7 : decode cX4_init 7 = .ok (.newarray .int, 2) := by decide +kernel
theorem dX4_init_9 : decode cX4_init 9 = .ok (.putfield 9, 3) := by decide +kernel
theorem dX4_init_12 : decode cX4_init 12 = .ok (.aload_n 0, 1) := by decide +kernel
theorem dX4_init_13 : decode cX4_init 13 = .ok (.bipush 12, 2) := by decide +kernel
theorem dX4_init_15 : decode cX4_init 15 = .ok (.newarray .int, 2) := by decide +kernel
theorem dX4_init_17 : decode cX4_init 17 = .ok (.putfield 15, 3) := by decide +kernel
theorem dX4_init_20 : decode cX4_init 20 = .ok (.aload_n 0, 1) := by decide +kernel
theorem dX4_init_21 : decode cX4_init 21 = .ok (.sipush 480, 3) := by decide +kernel
theorem dX4_init_24 : decode cX4_init 24 = .ok (.newarray .double, 2) := by decide +kernel
theorem dX4_init_26 : decode cX4_init 26 = .ok (.putfield 18, 3) := by decide +kernel
theorem dX4_init_29 : decode cX4_init 29 = .ok (.return_, 1) := by decide +kernel
theorem dX4_tell_0 : decode cX4_tell 0 = .ok (.iload_n 1, 1) := by decide +kernel
theorem dX4_tell_1 : decode cX4_tell 1 = .ok (.iconst 4, 1) := by decide +kernel
theorem dX4_tell_2 : decode cX4_tell 2 = .ok (.imul, 1) := by decide +kernel
theorem dX4_tell_3 : decode cX4_tell 3 = .ok (.iload_n 2, 1) := by decide +kernel
theorem dX4_tell_4 : decode cX4_tell 4 = .ok (.iadd, 1) := by decide +kernel
theorem dX4_tell_5 : decode cX4_tell 5 = .ok (.istore 4, 2) := by decide +kernel
theorem dX4_tell_7 : decode cX4_tell 7 = .ok (.aload_n 0, 1) := by decide +kernel
theorem dX4_tell_8 : decode cX4_tell 8 = .ok (.getfield 9, 3) := by decide +kernel
theorem dX4_tell_11 : decode cX4_tell 11 = .ok (.iload 4, 2) := by decide +kernel
theorem dX4_tell_13 : decode cX4_tell 13 = .ok (.iaload, 1) := by decide +kernel
theorem dX4_tell_14 : decode cX4_tell 14 = .ok (.istore 5, 2) := by decide +kernel
theorem dX4_tell_16 : decode cX4_tell 16 = .ok (.aload_n 0, 1) := by decide +kernel
theorem dX4_tell_17 : decode cX4_tell 17 = .ok (.getfield 9, 3) := by decide +kernel
theorem dX4_tell_20 : decode cX4_tell 20 = .ok (.iload 4, 2) := by decide +kernel
theorem dX4_tell_22 : decode cX4_tell 22 = .ok (.iload_n 3, 1) := by decide +kernel
theorem dX4_tell_23 : decode cX4_tell 23 = .ok (.iastore, 1) := by decide +kernel
theorem dX4_tell_24 : decode cX4_tell 24 = .ok (.iload 5, 2) := by decide +kernel
theorem dX4_tell_26 : decode cX4_tell 26 = .ok (.ireturn, 1) := by decide +kernel
theorem dX4_adoptAll_0 : decode cX4_adoptAll 0 = .ok (.lconst 0, 1) := by decide +kernel
theorem dX4_adoptAll_1 : decode cX4_adoptAll 1 = .ok (.lstore_n 1, 1) := by decide +kernel
theorem dX4_adoptAll_2 : decode cX4_adoptAll 2 = .ok (.iconst 0, 1) := by decide +kernel
theorem dX4_adoptAll_3 : decode cX4_adoptAll 3 = .ok (.istore_n 3, 1) := by decide +kernel
theorem dX4_adoptAll_4 : decode cX4_adoptAll 4 = .ok (.iload_n 3, 1) := by decide +kernel
theorem dX4_adoptAll_5 : decode cX4_adoptAll 5 = .ok (.bipush 12, 2) := by decide +kernel
theorem dX4_adoptAll_7 : decode cX4_adoptAll 7 = .ok (.if_icmp .ge 31, 3) := by decide +kernel
theorem dX4_adoptAll_10 : decode cX4_adoptAll 10 = .ok (.aload_n 0, 1) := by decide +kernel
theorem dX4_adoptAll_11 : decode cX4_adoptAll 11 = .ok (.getfield 15, 3) := by decide +kernel
theorem dX4_adoptAll_14 : decode cX4_adoptAll 14 = .ok (.iload_n 3, 1) := by decide +kernel
theorem dX4_adoptAll_15 : decode cX4_adoptAll 15 = .ok (.aload_n 0, 1) := by decide +kernel
theorem dX4_adoptAll_16 : decode cX4_adoptAll 16 = .ok (.getfield 9, 3) := by decide +kernel
theorem dX4_adoptAll_19 : decode cX4_adoptAll 19 = .ok (.iload_n 3, 1) := by decide +kernel
theorem dX4_adoptAll_20 : decode cX4_adoptAll 20 = .ok (.iaload, 1) := by decide +kernel
theorem dX4_adoptAll_21 : decode cX4_adoptAll 21 = .ok (.iastore, 1) := by decide +kernel
theorem dX4_adoptAll_22 : decode cX4_adoptAll 22 = .ok (.lload_n 1, 1) := by decide +kernel
theorem dX4_adoptAll_23 : decode cX4_adoptAll 23 = .ok (.aload_n 0, 1) := by decide +kernel
theorem dX4_adoptAll_24 : decode cX4_adoptAll 24 = .ok (.getfield 9, 3) := by decide +kernel
theorem dX4_adoptAll_27 : decode cX4_adoptAll 27 = .ok (.iload_n 3, 1) := by decide +kernel
theorem dX4_adoptAll_28 : decode cX4_adoptAll 28 = .ok (.iaload, 1) := by decide +kernel
theorem dX4_adoptAll_29 : decode cX4_adoptAll 29 = .ok (.i2l, 1) := by decide +kernel
theorem dX4_adoptAll_30 : decode cX4_adoptAll 30 = .ok (.ladd, 1) := by decide +kernel
theorem dX4_adoptAll_31 : decode cX4_adoptAll 31 = .ok (.lstore_n 1, 1) := by decide +kernel
theorem dX4_adoptAll_32 : decode cX4_adoptAll 32 = .ok (.iinc 3 1, 3) := by decide +kernel
theorem dX4_adoptAll_35 : decode cX4_adoptAll 35 = .ok (.goto (-31), 3) := by decide +kernel
theorem dX4_adoptAll_38 : decode cX4_adoptAll 38 = .ok (.lload_n 1, 1) := by decide +kernel
theorem dX4_adoptAll_39 : decode cX4_adoptAll 39 = .ok (.lreturn, 1) := by decide +kernel
theorem dX4_shareOf_0 : decode cX4_shareOf 0 = .ok (.aload_n 0, 1) := by decide +kernel
theorem dX4_shareOf_1 : decode cX4_shareOf 1 = .ok (.getfield 18, 3) := by decide +kernel
theorem dX4_shareOf_4 : decode cX4_shareOf 4 = .ok (.iload_n 3, 1) := by decide +kernel
theorem dX4_shareOf_5 : decode cX4_shareOf 5 = .ok (.iconst 5, 1) := by decide +kernel
theorem dX4_shareOf_6 : decode cX4_shareOf 6 = .ok (.imul, 1) := by decide +kernel
theorem dX4_shareOf_7 : decode cX4_shareOf 7 = .ok (.iload_n 1, 1) := by decide +kernel
theorem dX4_shareOf_8 : decode cX4_shareOf 8 = .ok (.iadd, 1) := by decide +kernel
theorem dX4_shareOf_9 : decode cX4_shareOf 9 = .ok (.iconst 4, 1) := by decide +kernel
theorem dX4_shareOf_10 : decode cX4_shareOf 10 = .ok (.imul, 1) := by decide +kernel
theorem dX4_shareOf_11 : decode cX4_shareOf 11 = .ok (.iload_n 2, 1) := by decide +kernel
theorem dX4_shareOf_12 : decode cX4_shareOf 12 = .ok (.iadd, 1) := by decide +kernel
theorem dX4_shareOf_13 : decode cX4_shareOf 13 = .ok (.daload, 1) := by decide +kernel
theorem dX4_shareOf_14 : decode cX4_shareOf 14 = .ok (.dreturn, 1) := by decide +kernel
set_option maxRecDepth 20000 in
theorem ggX4_settleShares_X4_shareOfAll : GoodIn wsX4_settleShares wsX4_shareOfAll := goodIn_r _ [6, 7, 8, 9, 10, 11, 5, 12, 21, 22, 23] (by decide +kernel) (by decide +kernel)
set_option maxRecDepth 20000 in
theorem gX4_settleShares_X4_shareOfAll : GoodIn wsX4_settleShares (wsV RX4 22 RX4 yX4_shareOfAll wsX4_shareOfAll) := goodIn_app (goodIn_of _ (by decide +kernel)) ggX4_settleShares_X4_shareOfAll
set_option maxRecDepth 20000 in
theorem ggX4_settleShares_X4_meanShare : GoodIn wsX4_settleShares wsX4_meanShare := goodIn_r _ [16, 8, 9, 10, 11, 5, 12, 7, 17, 18, 19, 20, 21, 22, 23] (by decide +kernel) (by decide +kernel)
set_option maxRecDepth 20000 in
theorem gX4_settleShares_X4_meanShare : GoodIn wsX4_settleShares (wsV RX4 26 RX4 yX4_meanShare wsX4_meanShare) := goodIn_app (goodIn_of _ (by decide +kernel)) ggX4_settleShares_X4_meanShare
set_option maxRecDepth 20000 in
theorem ggX4_settleShares_X4_shareOfHousehold : GoodIn wsX4_settleShares wsX4_shareOfHousehold := goodIn_r _ [20, 7, 8, 9, 10, 11, 5, 12, 21, 22, 23] (by decide +kernel) (by decide +kernel)
set_option maxRecDepth 20000 in
theorem gX4_settleShares_X4_shareOfHousehold : GoodIn wsX4_settleShares (wsV RX4 29 RX4 yX4_shareOfHousehold wsX4_shareOfHousehold) := goodIn_app (goodIn_of _ (by decide +kernel)) ggX4_settleShares_X4_shareOfHousehold
theorem dX4_settleShares_0 : decode cX4_settleShares 0 = .ok (.iconst 0, 1) := by decide +kernel
theorem dX4_settleShares_1 : decode cX4_settleShares 1 = .ok (.istore_n 2, 1) := by decide +kernel
theorem dX4_settleShares_2 : decode cX4_settleShares 2 = .ok (.iload_n 2, 1) := by decide +kernel
theorem dX4_settleShares_3 : decode cX4_settleShares 3 = .ok (.iconst 4, 1) := by decide +kernel
theorem dX4_settleShares_4 : decode cX4_settleShares 4 = .ok (.if_icmp .ge 76, 3) := by decide +kernel
theorem dX4_settleShares_7 : decode cX4_settleShares 7 = .ok (.iload_n 1, 1) := by decide +kernel
theorem dX4_settleShares_8 : decode cX4_settleShares 8 = .ok (.iconst 5, 1) := by decide +kernel
theorem dX4_settleShares_9 : decode cX4_settleShares 9 = .ok (.imul, 1) := by decide +kernel
theorem dX4_settleShares_10 : decode cX4_settleShares 10 = .ok (.iconst 4, 1) := by decide +kernel
theorem dX4_settleShares_11 : decode cX4_settleShares 11 = .ok (.imul, 1) := by decide +kernel
theorem dX4_settleShares_12 : decode cX4_settleShares 12 = .ok (.iload_n 2, 1) := by decide +kernel
theorem dX4_settleShares_13 : decode cX4_settleShares 13 = .ok (.iadd, 1) := by decide +kernel
theorem dX4_settleShares_14 : decode cX4_settleShares 14 = .ok (.istore_n 3, 1) := by decide +kernel
theorem dX4_settleShares_15 : decode cX4_settleShares 15 = .ok (.aload_n 0, 1) := by decide +kernel
theorem dX4_settleShares_16 : decode cX4_settleShares 16 = .ok (.getfield 18, 3) := by decide +kernel
theorem dX4_settleShares_19 : decode cX4_settleShares 19 = .ok (.iload_n 3, 1) := by decide +kernel
theorem dX4_settleShares_20 : decode cX4_settleShares 20 = .ok (.aload_n 0, 1) := by decide +kernel
theorem dX4_settleShares_21 : decode cX4_settleShares 21 = .ok (.iload_n 2, 1) := by decide +kernel
theorem dX4_settleShares_22 : decode cX4_settleShares 22 = .ok (.invokevirtual 22, 3) := by decide +kernel
theorem dX4_settleShares_25 : decode cX4_settleShares 25 = .ok (.dastore, 1) := by decide +kernel
theorem dX4_settleShares_26 : decode cX4_settleShares 26 = .ok (.aload_n 0, 1) := by decide +kernel
theorem dX4_settleShares_27 : decode cX4_settleShares 27 = .ok (.getfield 18, 3) := by decide +kernel
theorem dX4_settleShares_30 : decode cX4_settleShares 30 = .ok (.iload_n 3, 1) := by decide +kernel
theorem dX4_settleShares_31 : decode cX4_settleShares 31 = .ok (.iconst 4, 1) := by decide +kernel
theorem dX4_settleShares_32 : decode cX4_settleShares 32 = .ok (.iadd, 1) := by decide +kernel
theorem dX4_settleShares_33 : decode cX4_settleShares 33 = .ok (.aload_n 0, 1) := by decide +kernel
theorem dX4_settleShares_34 : decode cX4_settleShares 34 = .ok (.iload_n 2, 1) := by decide +kernel
theorem dX4_settleShares_35 : decode cX4_settleShares 35 = .ok (.invokevirtual 26, 3) := by decide +kernel
theorem dX4_settleShares_38 : decode cX4_settleShares 38 = .ok (.dastore, 1) := by decide +kernel
theorem dX4_settleShares_39 : decode cX4_settleShares 39 = .ok (.iconst 0, 1) := by decide +kernel
theorem dX4_settleShares_40 : decode cX4_settleShares 40 = .ok (.istore 4, 2) := by decide +kernel
theorem dX4_settleShares_42 : decode cX4_settleShares 42 = .ok (.iload 4, 2) := by decide +kernel
theorem dX4_settleShares_44 : decode cX4_settleShares 44 = .ok (.iconst 3, 1) := by decide +kernel
theorem dX4_settleShares_45 : decode cX4_settleShares 45 = .ok (.if_icmp .ge 29, 3) := by decide +kernel
theorem dX4_settleShares_48 : decode cX4_settleShares 48 = .ok (.aload_n 0, 1) := by decide +kernel
theorem dX4_settleShares_49 : decode cX4_settleShares 49 = .ok (.getfield 18, 3) := by decide +kernel
theorem dX4_settleShares_52 : decode cX4_settleShares 52 = .ok (.iload_n 3, 1) := by decide +kernel
theorem dX4_settleShares_53 : decode cX4_settleShares 53 = .ok (.iconst 2, 1) := by decide +kernel
theorem dX4_settleShares_54 : decode cX4_settleShares 54 = .ok (.iload 4, 2) := by decide +kernel
theorem dX4_settleShares_56 : decode cX4_settleShares 56 = .ok (.iadd, 1) := by decide +kernel
theorem dX4_settleShares_57 : decode cX4_settleShares 57 = .ok (.iconst 4, 1) := by decide +kernel
theorem dX4_settleShares_58 : decode cX4_settleShares 58 = .ok (.imul, 1) := by decide +kernel
theorem dX4_settleShares_59 : decode cX4_settleShares 59 = .ok (.iadd, 1) := by decide +kernel
theorem dX4_settleShares_60 : decode cX4_settleShares 60 = .ok (.aload_n 0, 1) := by decide +kernel
theorem dX4_settleShares_61 : decode cX4_settleShares 61 = .ok (.iload 4, 2) := by decide +kernel
theorem dX4_settleShares_63 : decode cX4_settleShares 63 = .ok (.iload_n 2, 1) := by decide +kernel
theorem dX4_settleShares_64 : decode cX4_settleShares 64 = .ok (.invokevirtual 29, 3) := by decide +kernel
theorem dX4_settleShares_67 : decode cX4_settleShares 67 = .ok (.dastore, 1) := by decide +kernel
theorem dX4_settleShares_68 : decode cX4_settleShares 68 = .ok (.iinc 4 1, 3) := by decide +kernel
theorem dX4_settleShares_71 : decode cX4_settleShares 71 = .ok (.goto (-29), 3) := by decide +kernel
theorem dX4_settleShares_74 : decode cX4_settleShares 74 = .ok (.iinc 2 1, 3) := by decide +kernel
theorem dX4_settleShares_77 : decode cX4_settleShares 77 = .ok (.goto (-75), 3) := by decide +kernel
theorem dX4_settleShares_80 : decode cX4_settleShares 80 = .ok (.return_, 1) := by decide +kernel
set_option maxRecDepth 20000 in
theorem ggX4_shareOfAll_X4_spentBy : GoodIn wsX4_shareOfAll wsX4_spentBy := goodIn_r _ [7, 1, 8, 9, 10] (by decide +kernel) (by decide +kernel)
set_option maxRecDepth 20000 in
theorem gX4_shareOfAll_X4_spentBy : GoodIn wsX4_shareOfAll (wsV RX4 33 RX4 yX4_spentBy wsX4_spentBy) := goodIn_app (goodIn_of _ (by decide +kernel)) ggX4_shareOfAll_X4_spentBy
theorem dX4_shareOfAll_0 : decode cX4_shareOfAll 0 = .ok (.lconst 0, 1) := by decide +kernel
theorem dX4_shareOfAll_1 : decode cX4_shareOfAll 1 = .ok (.lstore_n 2, 1) := by decide +kernel
theorem dX4_shareOfAll_2 : decode cX4_shareOfAll 2 = .ok (.lconst 0, 1) := by decide +kernel
theorem dX4_shareOfAll_3 : decode cX4_shareOfAll 3 = .ok (.lstore 4, 2) := by decide +kernel
theorem dX4_shareOfAll_5 : decode cX4_shareOfAll 5 = .ok (.iconst 0, 1) := by decide +kernel
theorem dX4_shareOfAll_6 : decode cX4_shareOfAll 6 = .ok (.istore 6, 2) := by decide +kernel
theorem dX4_shareOfAll_8 : decode cX4_shareOfAll 8 = .ok (.iload 6, 2) := by decide +kernel
theorem dX4_shareOfAll_10 : decode cX4_shareOfAll 10 = .ok (.iconst 3, 1) := by decide +kernel
theorem dX4_shareOfAll_11 : decode cX4_shareOfAll 11 = .ok (.if_icmp .ge 35, 3) := by decide +kernel
theorem dX4_shareOfAll_14 : decode cX4_shareOfAll 14 = .ok (.lload_n 2, 1) := by decide +kernel
theorem dX4_shareOfAll_15 : decode cX4_shareOfAll 15 = .ok (.aload_n 0, 1) := by decide +kernel
theorem dX4_shareOfAll_16 : decode cX4_shareOfAll 16 = .ok (.getfield 15, 3) := by decide +kernel
theorem dX4_shareOfAll_19 : decode cX4_shareOfAll 19 = .ok (.iload 6, 2) := by decide +kernel
theorem dX4_shareOfAll_21 : decode cX4_shareOfAll 21 = .ok (.iconst 4, 1) := by decide +kernel
theorem dX4_shareOfAll_22 : decode cX4_shareOfAll 22 = .ok (.imul, 1) := by decide +kernel
theorem dX4_shareOfAll_23 : decode cX4_shareOfAll 23 = .ok (.iload_n 1, 1) := by decide +kernel
theorem dX4_shareOfAll_24 : decode cX4_shareOfAll 24 = .ok (.iadd, 1) := by decide +kernel
theorem dX4_shareOfAll_25 : decode cX4_shareOfAll 25 = .ok (.iaload, 1) := by decide +kernel
theorem dX4_shareOfAll_26 : decode cX4_shareOfAll 26 = .ok (.i2l, 1) := by decide +kernel
theorem dX4_shareOfAll_27 : decode cX4_shareOfAll 27 = .ok (.ladd, 1) := by decide +kernel
theorem dX4_shareOfAll_28 : decode cX4_shareOfAll 28 = .ok (.lstore_n 2, 1) := by decide +kernel
theorem dX4_shareOfAll_29 : decode cX4_shareOfAll 29 = .ok (.lload 4, 2) := by decide +kernel
theorem dX4_shareOfAll_31 : decode cX4_shareOfAll 31 = .ok (.aload_n 0, 1) := by decide +kernel
theorem dX4_shareOfAll_32 : decode cX4_shareOfAll 32 = .ok (.iload 6, 2) := by decide +kernel
theorem dX4_shareOfAll_34 : decode cX4_shareOfAll 34 = .ok (.invokevirtual 33, 3) := by decide +kernel
theorem dX4_shareOfAll_37 : decode cX4_shareOfAll 37 = .ok (.ladd, 1) := by decide +kernel
theorem dX4_shareOfAll_38 : decode cX4_shareOfAll 38 = .ok (.lstore 4, 2) := by decide +kernel
theorem dX4_shareOfAll_40 : decode cX4_shareOfAll 40 = .ok (.iinc 6 1, 3) := by decide +kernel
theorem dX4_shareOfAll_43 : decode cX4_shareOfAll 43 = .ok (.goto (-35), 3) := by decide +kernel
theorem dX4_shareOfAll_46 : decode cX4_shareOfAll 46 = .ok (.lload 4, 2) := by decide +kernel
theorem dX4_shareOfAll_48 : decode cX4_shareOfAll 48 = .ok (.lconst 0, 1) := by decide +kernel
theorem dX4_shareOfAll_49 : decode cX4_shareOfAll 49 = .ok (.lcmp, 1) := by decide +kernel
theorem dX4_shareOfAll_50 : decode cX4_shareOfAll 50 = .ok (.ifCond .le 12, 3) := by decide +kernel
theorem dX4_shareOfAll_53 : decode cX4_shareOfAll 53 = .ok (.lload_n 2, 1) := by decide +kernel
theorem dX4_shareOfAll_54 : decode cX4_shareOfAll 54 = .ok (.l2d, 1) := by decide +kernel
theorem dX4_shareOfAll_55 : decode cX4_shareOfAll 55 = .ok (.lload 4, 2) := by decide +kernel
theorem dX4_shareOfAll_57 : decode cX4_shareOfAll 57 = .ok (.l2d, 1) := by decide +kernel
theorem dX4_shareOfAll_58 : decode cX4_shareOfAll 58 = .ok (.ddiv, 1) := by decide +kernel
theorem dX4_shareOfAll_59 : decode cX4_shareOfAll 59 = .ok (.goto 6, 3) := by decide +kernel
theorem dX4_shareOfAll_62 : decode cX4_shareOfAll 62 = .ok (.ldc2_w 37, 3) := by decide +kernel
theorem dX4_shareOfAll_65 : decode cX4_shareOfAll 65 = .ok (.dreturn, 1) := by decide +kernel
set_option maxRecDepth 20000 in
theorem ggX4_meanShare_X4_spentBy : GoodIn wsX4_meanShare wsX4_spentBy := goodIn_r _ [6, 7, 12, 13, 14] (by decide +kernel) (by decide +kernel)
set_option maxRecDepth 20000 in
theorem gX4_meanShare_X4_spentBy : GoodIn wsX4_meanShare (wsV RX4 33 RX4 yX4_spentBy wsX4_spentBy) := goodIn_app (goodIn_of _ (by decide +kernel)) ggX4_meanShare_X4_spentBy
set_option maxRecDepth 20000 in
theorem ggX4_meanShare_X4_shareOfHousehold : GoodIn wsX4_meanShare wsX4_shareOfHousehold := goodIn_r _ [11, 7, 1, 2, 3, 4, 5, 6, 12, 13, 14] (by decide +kernel) (by decide +kernel)
set_option maxRecDepth 20000 in
theorem gX4_meanShare_X4_shareOfHousehold : GoodIn wsX4_meanShare (wsV RX4 29 RX4 yX4_shareOfHousehold wsX4_shareOfHousehold) := goodIn_app (goodIn_of _ (by decide +kernel)) ggX4_meanShare_X4_shareOfHousehold
theorem dX4_meanShare_0 : decode cX4_meanShare 0 = .ok (.dconst 0, 1) := by decide +kernel
theorem dX4_meanShare_1 : decode cX4_meanShare 1 = .ok (.dstore_n 2, 1) := by decide +kernel
theorem dX4_meanShare_2 : decode cX4_meanShare 2 = .ok (.iconst 0, 1) := by decide +kernel
theorem dX4_meanShare_3 : decode cX4_meanShare 3 = .ok (.istore 4, 2) := by decide +kernel
theorem dX4_meanShare_5 : decode cX4_meanShare 5 = .ok (.iconst 0, 1) := by decide +kernel
theorem dX4_meanShare_6 : decode cX4_meanShare 6 = .ok (.istore 5, 2) := by decide +kernel
theorem dX4_meanShare_8 : decode cX4_meanShare 8 = .ok (.iload 5, 2) := by decide +kernel
theorem dX4_meanShare_10 : decode cX4_meanShare 10 = .ok (.iconst 3, 1) := by decide +kernel
theorem dX4_meanShare_11 : decode cX4_meanShare 11 = .ok (.if_icmp .ge 33, 3) := by decide +kernel
theorem dX4_meanShare_14 : decode cX4_meanShare 14 = .ok (.aload_n 0, 1) := by decide +kernel
theorem dX4_meanShare_15 : decode cX4_meanShare 15 = .ok (.iload 5, 2) := by decide +kernel
theorem dX4_meanShare_17 : decode cX4_meanShare 17 = .ok (.invokevirtual 33, 3) := by decide +kernel
theorem dX4_meanShare_20 : decode cX4_meanShare 20 = .ok (.lconst 0, 1) := by decide +kernel
theorem dX4_meanShare_21 : decode cX4_meanShare 21 = .ok (.lcmp, 1) := by decide +kernel
theorem dX4_meanShare_22 : decode cX4_meanShare 22 = .ok (.ifCond .le 16, 3) := by decide +kernel
theorem dX4_meanShare_25 : decode cX4_meanShare 25 = .ok (.dload_n 2, 1) := by decide +kernel
theorem dX4_meanShare_26 : decode cX4_meanShare 26 = .ok (.aload_n 0, 1) := by decide +kernel
theorem dX4_meanShare_27 : decode cX4_meanShare 27 = .ok (.iload 5, 2) := by decide +kernel
theorem dX4_meanShare_29 : decode cX4_meanShare 29 = .ok (.iload_n 1, 1) := by decide +kernel
theorem dX4_meanShare_30 : decode cX4_meanShare 30 = .ok (.invokevirtual 29, 3) := by decide +kernel
theorem dX4_meanShare_33 : decode cX4_meanShare 33 = .ok (.dadd, 1) := by decide +kernel
theorem dX4_meanShare_34 : decode cX4_meanShare 34 = .ok (.dstore_n 2, 1) := by decide +kernel
theorem dX4_meanShare_35 : decode cX4_meanShare 35 = .ok (.iinc 4 1, 3) := by decide +kernel
theorem dX4_meanShare_38 : decode cX4_meanShare 38 = .ok (.iinc 5 1, 3) := by decide +kernel
theorem dX4_meanShare_41 : decode cX4_meanShare 41 = .ok (.goto (-33), 3) := by decide +kernel
theorem dX4_meanShare_44 : decode cX4_meanShare 44 = .ok (.iload 4, 2) := by decide +kernel
theorem dX4_meanShare_46 : decode cX4_meanShare 46 = .ok (.ifCond .le 11, 3) := by decide +kernel
theorem dX4_meanShare_49 : decode cX4_meanShare 49 = .ok (.dload_n 2, 1) := by decide +kernel
theorem dX4_meanShare_50 : decode cX4_meanShare 50 = .ok (.iload 4, 2) := by decide +kernel
theorem dX4_meanShare_52 : decode cX4_meanShare 52 = .ok (.i2d, 1) := by decide +kernel
theorem dX4_meanShare_53 : decode cX4_meanShare 53 = .ok (.ddiv, 1) := by decide +kernel
theorem dX4_meanShare_54 : decode cX4_meanShare 54 = .ok (.goto 6, 3) := by decide +kernel
theorem dX4_meanShare_57 : decode cX4_meanShare 57 = .ok (.ldc2_w 37, 3) := by decide +kernel
theorem dX4_meanShare_60 : decode cX4_meanShare 60 = .ok (.dreturn, 1) := by decide +kernel
set_option maxRecDepth 20000 in
theorem ggX4_shareOfHousehold_X4_spentBy : GoodIn wsX4_shareOfHousehold wsX4_spentBy := goodIn_r _ [7, 1, 8, 9, 10] (by decide +kernel) (by decide +kernel)
set_option maxRecDepth 20000 in
theorem gX4_shareOfHousehold_X4_spentBy : GoodIn wsX4_shareOfHousehold (wsV RX4 33 RX4 yX4_spentBy wsX4_spentBy) := goodIn_app (goodIn_of _ (by decide +kernel)) ggX4_shareOfHousehold_X4_spentBy
theorem dX4_shareOfHousehold_0 : decode cX4_shareOfHousehold 0 = .ok (.aload_n 0, 1) := by decide +kernel
theorem dX4_shareOfHousehold_1 : decode cX4_shareOfHousehold 1 = .ok (.iload_n 1, 1) := by decide +kernel
theorem dX4_shareOfHousehold_2 : decode cX4_shareOfHousehold 2 = .ok (.invokevirtual 33, 3) := by decide +kernel
theorem dX4_shareOfHousehold_5 : decode cX4_shareOfHousehold 5 = .ok (.lstore_n 3, 1) := by decide +kernel
theorem dX4_shareOfHousehold_6 : decode cX4_shareOfHousehold 6 = .ok (.aload_n 0, 1) := by decide +kernel
theorem dX4_shareOfHousehold_7 : decode cX4_shareOfHousehold 7 = .ok (.getfield 15, 3) := by decide +kernel
theorem dX4_shareOfHousehold_10 : decode cX4_shareOfHousehold 10 = .ok (.iload_n 1, 1) := by decide +kernel
theorem dX4_shareOfHousehold_11 : decode cX4_shareOfHousehold 11 = .ok (.iconst 4, 1) := by decide +kernel
theorem dX4_shareOfHousehold_12 : decode cX4_shareOfHousehold 12 = .ok (.imul, 1) := by decide +kernel
theorem dX4_shareOfHousehold_13 : decode cX4_shareOfHousehold 13 = .ok (.iload_n 2, 1) := by decide +kernel
theorem dX4_shareOfHousehold_14 : decode cX4_shareOfHousehold 14 = .ok (.iadd, 1) := by decide +kernel
theorem dX4_shareOfHousehold_15 : decode cX4_shareOfHousehold 15 = .ok (.iaload, 1) := by decide +kernel
theorem dX4_shareOfHousehold_16 : decode cX4_shareOfHousehold 16 = .ok (.istore 5, 2) := by decide +kernel
theorem dX4_shareOfHousehold_18 : decode cX4_shareOfHousehold 18 = .ok (.lload_n 3, 1) := by decide +kernel
theorem dX4_shareOfHousehold_19 : decode cX4_shareOfHousehold 19 = .ok (.lconst 0, 1) := by decide +kernel
theorem dX4_shareOfHousehold_20 : decode cX4_shareOfHousehold 20 = .ok (.lcmp, 1) := by decide +kernel
theorem dX4_shareOfHousehold_21 : decode cX4_shareOfHousehold 21 = .ok (.ifCond .le 12, 3) := by decide +kernel
theorem dX4_shareOfHousehold_24 : decode cX4_shareOfHousehold 24 = .ok (.iload 5, 2) := by decide +kernel
theorem dX4_shareOfHousehold_26 : decode cX4_shareOfHousehold 26 = .ok (.i2d, 1) := by decide +kernel
theorem dX4_shareOfHousehold_27 : decode cX4_shareOfHousehold 27 = .ok (.lload_n 3, 1) := by decide +kernel
theorem dX4_shareOfHousehold_28 : decode cX4_shareOfHousehold 28 = .ok (.l2d, 1) := by decide +kernel
theorem dX4_shareOfHousehold_29 : decode cX4_shareOfHousehold 29 = .ok (.ddiv, 1) := by decide +kernel
theorem dX4_shareOfHousehold_30 : decode cX4_shareOfHousehold 30 = .ok (.goto 6, 3) := by decide +kernel
theorem dX4_shareOfHousehold_33 : decode cX4_shareOfHousehold 33 = .ok (.ldc2_w 37, 3) := by decide +kernel
theorem dX4_shareOfHousehold_36 : decode cX4_shareOfHousehold 36 = .ok (.dreturn, 1) := by decide +kernel
theorem dX4_spentBy_0 : decode cX4_spentBy 0 = .ok (.lconst 0, 1) := by decide +kernel
theorem dX4_spentBy_1 : decode cX4_spentBy 1 = .ok (.lstore_n 2, 1) := by decide +kernel
theorem dX4_spentBy_2 : decode cX4_spentBy 2 = .ok (.iconst 0, 1) := by decide +kernel
theorem dX4_spentBy_3 : decode cX4_spentBy 3 = .ok (.istore 4, 2) := by decide +kernel
theorem dX4_spentBy_5 : decode cX4_spentBy 5 = .ok (.iload 4, 2) := by decide +kernel
theorem dX4_spentBy_7 : decode cX4_spentBy 7 = .ok (.iconst 4, 1) := by decide +kernel
theorem dX4_spentBy_8 : decode cX4_spentBy 8 = .ok (.if_icmp .ge 24, 3) := by decide +kernel
theorem dX4_spentBy_11 : decode cX4_spentBy 11 = .ok (.lload_n 2, 1) := by decide +kernel
theorem dX4_spentBy_12 : decode cX4_spentBy 12 = .ok (.aload_n 0, 1) := by decide +kernel
theorem dX4_spentBy_13 : decode cX4_spentBy 13 = .ok (.getfield 15, 3) := by decide +kernel
theorem dX4_spentBy_16 : decode cX4_spentBy 16 = .ok (.iload_n 1, 1) := by decide +kernel
theorem dX4_spentBy_17 : decode cX4_spentBy 17 = .ok (.iconst 4, 1) := by decide +kernel
theorem dX4_spentBy_18 : decode cX4_spentBy 18 = .ok (.imul, 1) := by decide +kernel
theorem dX4_spentBy_19 : decode cX4_spentBy 19 = .ok (.iload 4, 2) := by decide +kernel
theorem dX4_spentBy_21 : decode cX4_spentBy 21 = .ok (.iadd, 1) := by decide +kernel
theorem dX4_spentBy_22 : decode cX4_spentBy 22 = .ok (.iaload, 1) := by decide +kernel
theorem dX4_spentBy_23 : decode cX4_spentBy 23 = .ok (.i2l, 1) := by decide +kernel
theorem dX4_spentBy_24 : decode cX4_spentBy 24 = .ok (.ladd, 1) := by decide +kernel
theorem dX4_spentBy_25 : decode cX4_spentBy 25 = .ok (.lstore_n 2, 1) := by decide +kernel
theorem dX4_spentBy_26 : decode cX4_spentBy 26 = .ok (.iinc 4 1, 3) := by decide +kernel
theorem dX4_spentBy_29 : decode cX4_spentBy 29 = .ok (.goto (-24), 3) := by decide +kernel
theorem dX4_spentBy_32 : decode cX4_spentBy 32 = .ok (.lload_n 2, 1) := by decide +kernel
theorem dX4_spentBy_33 : decode cX4_spentBy 33 = .ok (.lreturn, 1) := by decide +kernel
theorem dX5_init_0 : decode cX5_init 0 = .ok (.aload_n 0, 1) := by decide +kernel
theorem dX5_init_1 : decode cX5_init 1 = .ok (.invokespecial 3, 3) := by decide +kernel
theorem dX5_init_4 : decode cX5_init 4 = .ok (.return_, 1) := by decide +kernel
theorem dX5_clear_0 : decode cX5_clear 0 = .ok (.aload_n 0, 1) := by decide +kernel
theorem dX5_clear_1 : decode cX5_clear 1 = .ok (.iconst 0, 1) := by decide +kernel
theorem dX5_clear_2 : decode cX5_clear 2 = .ok (.putfield 9, 3) := by decide +kernel
theorem dX5_clear_5 : decode cX5_clear 5 = .ok (.aload_n 0, 1) := by decide +kernel
theorem dX5_clear_6 : decode cX5_clear 6 = .ok (.dconst 0, 1) := by decide +kernel
theorem dX5_clear_7 : decode cX5_clear 7 = .ok (.putfield 15, 3) := by decide +kernel
theorem dX5_clear_10 : decode cX5_clear 10 = .ok (.aload_n 0, 1) := by decide +kernel
theorem dX5_clear_11 : decode cX5_clear 11 = .ok (.dconst 0, 1) := by decide +kernel
theorem dX5_clear_12 : decode cX5_clear 12 = .ok (.putfield 19, 3) := by decide +kernel
theorem dX5_clear_15 : decode cX5_clear 15 = .ok (.aload_n 0, 1) := by decide +kernel
theorem dX5_clear_16 : decode cX5_clear 16 = .ok (.dconst 0, 1) := by decide +kernel
theorem dX5_clear_17 : decode cX5_clear 17 = .ok (.putfield 22, 3) := by decide +kernel
theorem dX5_clear_20 : decode cX5_clear 20 = .ok (.aload_n 0, 1) := by decide +kernel
theorem dX5_clear_21 : decode cX5_clear 21 = .ok (.dconst 0, 1) := by decide +kernel
theorem dX5_clear_22 : decode cX5_clear 22 = .ok (.putfield 25, 3) := by decide +kernel
theorem dX5_clear_25 : decode cX5_clear 25 = .ok (.return_, 1) := by decide +kernel
theorem dX5_add_0 : decode cX5_add 0 = .ok (.aload_n 0, 1) := by decide +kernel
theorem dX5_add_1 : decode cX5_add 1 = .ok (.dup, 1) := by decide +kernel
theorem dX5_add_2 : decode cX5_add 2 = .ok (.getfield 9, 3) := by decide +kernel
theorem dX5_add_5 : decode cX5_add 5 = .ok (.iconst 1, 1) := by decide +kernel
theorem dX5_add_6 : decode cX5_add 6 = .ok (.iadd, 1) := by decide +kernel
theorem dX5_add_7 : decode cX5_add 7 = .ok (.putfield 9, 3) := by decide +kernel
theorem dX5_add_10 : decode cX5_add 10 = .ok (.aload_n 0, 1) := by decide +kernel
theorem dX5_add_11 : decode cX5_add 11 = .ok (.dup, 1) := by decide +kernel
theorem dX5_add_12 : decode cX5_add 12 = .ok (.getfield 15, 3) := by decide +kernel
theorem dX5_add_15 : decode cX5_add 15 = .ok (.dload_n 1, 1) := by decide +kernel
theorem dX5_add_16 : decode cX5_add 16 = .ok (.dadd, 1) := by decide +kernel
theorem dX5_add_17 : decode cX5_add 17 = .ok (.putfield 15, 3) := by decide +kernel
theorem dX5_add_20 : decode cX5_add 20 = .ok (.aload_n 0, 1) := by decide +kernel
theorem dX5_add_21 : decode cX5_add 21 = .ok (.dup, 1) := by decide +kernel
theorem dX5_add_22 : decode cX5_add 22 = .ok (.getfield 19, 3) := by decide +kernel
theorem dX5_add_25 : decode cX5_add 25 = .ok (.dload_n 3, 1) := by decide +kernel
theorem dX5_add_26 : decode cX5_add 26 = .ok (.dadd, 1) := by decide +kernel
theorem dX5_add_27 : decode cX5_add 27 = .ok (.putfield 19, 3) := by decide +kernel
theorem dX5_add_30 : decode cX5_add 30 = .ok (.aload_n 0, 1) := by decide +kernel
theorem dX5_add_31 : decode cX5_add 31 = .ok (.dup, 1) := by decide +kernel
theorem dX5_add_32 : decode cX5_add 32 = .ok (.getfield 22, 3) := by decide +kernel
theorem dX5_add_35 : decode cX5_add 35 = .ok (.dload_n 1, 1) := by decide +kernel
theorem dX5_add_36 : decode cX5_add 36 = .ok (.dload_n 3, 1) := by decide +kernel
theorem dX5_add_37 : decode cX5_add 37 = .ok (.ddiv, 1) := by decide +kernel
theorem dX5_add_38 : decode cX5_add 38 = .ok (.dadd, 1) := by decide +kernel
theorem dX5_add_39 : decode cX5_add 39 = .ok (.putfield 22, 3) := by decide +kernel
theorem dX5_add_42 : decode cX5_add 42 = .ok (.aload_n 0, 1) := by decide +kernel
theorem dX5_add_43 : decode cX5_add 43 = .ok (.dup, 1) := by decide +kernel
theorem dX5_add_44 : decode cX5_add 44 = .ok (.getfield 25, 3) := by decide +kernel
theorem dX5_add_47 : decode cX5_add 47 = .ok (.dconst 1, 1) := by decide +kernel
theorem dX5_add_48 : decode cX5_add 48 = .ok (.dload_n 1, 1) := by decide +kernel
theorem dX5_add_49 : decode cX5_add 49 = .ok (.dload_n 3, 1) := by decide +kernel
theorem dX5_add_50 : decode cX5_add 50 = .ok (.ddiv, 1) := by decide +kernel
theorem dX5_add_51 : decode cX5_add 51 = .ok (.ddiv, 1) := by decide +kernel
theorem dX5_add_52 : decode cX5_add 52 = .ok (.dadd, 1) := by decide +kernel
theorem dX5_add_53 : decode cX5_add 53 = .ok (.putfield 25, 3) := by decide +kernel
theorem dX5_add_56 : decode cX5_add 56 = .ok (.return_, 1) := by decide +kernel
theorem dX5_relativeBy_0 : decode cX5_relativeBy 0 = .ok (.aload_n 0, 1) := by decide +kernel
theorem dX5_relativeBy_1 : decode cX5_relativeBy 1 = .ok (.getfield 9, 3) := by decide +kernel
theorem dX5_relativeBy_4 : decode cX5_relativeBy 4 = .ok (.iconst 1, 1) := by decide +kernel
theorem dX5_relativeBy_5 : decode cX5_relativeBy 5 = .ok (.if_icmp .ge 5, 3) := by decide +kernel
theorem dX5_relativeBy_8 : decode cX5_relativeBy 8 = .ok (.dconst 0, 1) := by decide +kernel
theorem dX5_relativeBy_9 : decode cX5_relativeBy 9 = .ok (.dreturn, 1) := by decide +kernel
theorem dX5_relativeBy_10 : decode cX5_relativeBy 10 = .ok (.iload_n 1, 1) := by decide +kernel
theorem dX5_relativeBy_11 : decode cX5_relativeBy 11 = .ok (.ifCond .ne 14, 3) := by decide +kernel
theorem dX5_relativeBy_14 : decode cX5_relativeBy 14 = .ok (.aload_n 0, 1) := by decide +kernel
theorem dX5_relativeBy_15 : decode cX5_relativeBy 15 = .ok (.getfield 22, 3) := by decide +kernel
theorem dX5_relativeBy_18 : decode cX5_relativeBy 18 = .ok (.aload_n 0, 1) := by decide +kernel
theorem dX5_relativeBy_19 : decode cX5_relativeBy 19 = .ok (.getfield 9, 3) := by decide +kernel
theorem dX5_relativeBy_22 : decode cX5_relativeBy 22 = .ok (.i2d, 1) := by decide +kernel
theorem dX5_relativeBy_23 : decode cX5_relativeBy 23 = .ok (.ddiv, 1) := by decide +kernel
theorem dX5_relativeBy_24 : decode cX5_relativeBy 24 = .ok (.dreturn, 1) := by decide +kernel
theorem dX5_relativeBy_25 : decode cX5_relativeBy 25 = .ok (.iload_n 1, 1) := by decide +kernel
theorem dX5_relativeBy_26 : decode cX5_relativeBy 26 = .ok (.iconst 1, 1) := by decide +kernel
theorem dX5_relativeBy_27 : decode cX5_relativeBy 27 = .ok (.if_icmp .ne 15, 3) := by decide +kernel
theorem dX5_relativeBy_30 : decode cX5_relativeBy 30 = .ok (.aload_n 0, 1) := by decide +kernel
theorem dX5_relativeBy_31 : decode cX5_relativeBy 31 = .ok (.getfield 15, 3) := by decide +kernel
theorem dX5_relativeBy_34 : decode cX5_relativeBy 34 = .ok (.aload_n 0, 1) := by decide +kernel
theorem dX5_relativeBy_35 : decode cX5_relativeBy 35 = .ok (.getfield 19, 3) := by decide +kernel
theorem dX5_relativeBy_38 : decode cX5_relativeBy 38 = .ok (.ddiv, 1) := by decide +kernel
theorem dX5_relativeBy_39 : decode cX5_relativeBy 39 = .ok (.goto 13, 3) := by decide +kernel
theorem dX5_relativeBy_42 : decode cX5_relativeBy 42 = .ok (.aload_n 0, 1) := by decide +kernel
theorem dX5_relativeBy_43 : decode cX5_relativeBy 43 = .ok (.getfield 9, 3) := by decide +kernel
theorem dX5_relativeBy_46 : decode cX5_relativeBy 46 = .ok (.i2d, 1) := by decide +kernel
theorem dX5_relativeBy_47 : decode cX5_relativeBy 47 = .ok (.aload_n 0, 1) := by decide +kernel
theorem dX5_relativeBy_48 : decode cX5_relativeBy 48 = .ok (.getfield 25, 3) := by decide +kernel
theorem dX5_relativeBy_51 : decode cX5_relativeBy 51 = .ok (.ddiv, 1) := by decide +kernel
theorem dX5_relativeBy_52 : decode cX5_relativeBy 52 = .ok (.dreturn, 1) := by decide +kernel
