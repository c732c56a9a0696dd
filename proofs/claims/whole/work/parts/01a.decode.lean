theorem dX0_init_0 : decode cX0_init 0 = .ok (.aload_n 0, 1) := by decide +kernel
theorem dX0_init_1 : decode cX0_init 1 = .ok (.invokespecial 3, 3) := by decide +kernel
theorem dX0_init_4 : decode cX0_init 4 = .ok (.aload_n 0, 1) := by decide +kernel
theorem dX0_init_5 : decode cX0_init 5 = .ok (.bipush 100, 2) := by decide +kernel
theorem dX0_init_7 : decode cX0_init 7 = .ok (.newarray .long, 2) := by decide +kernel
theorem dX0_init_9 : decode cX0_init 9 = .ok (.putfield 9, 3) := by decide +kernel
theorem dX0_init_12 : decode cX0_init 12 = .ok (.aload_n 0, 1) := by decide +kernel
theorem dX0_init_13 : decode cX0_init 13 = .ok (.bipush 100, 2) := by decide +kernel
theorem dX0_init_15 : decode cX0_init 15 = .ok (.newarray .long, 2) := by decide +kernel
theorem dX0_init_17 : decode cX0_init 17 = .ok (.putfield 15, 3) := by decide +kernel
theorem dX0_init_20 : decode cX0_init 20 = .ok (.return_, 1) := by decide +kernel
set_option maxRecDepth 20000 in
theorem ggX0_spread_X0_clear : GoodIn wsX0_spread wsX0_clear := goodIn_r _ [7] (by decide +kernel) (by decide +kernel)
set_option maxRecDepth 20000 in
theorem gX0_spread_X0_clear : GoodIn wsX0_spread (va_wsS RX0 18 yX0_clear wsX0_clear) := goodIn_app (goodIn_of _ (by decide +kernel)) ggX0_spread_X0_clear
set_option maxRecDepth 20000 in
theorem ggX0_spread_X0_passYear : GoodIn wsX0_spread wsX0_passYear := goodIn_r _ [11, 12, 1, 13, 14, 15, 16, 4, 5, 6, 7, 17, 18, 19, 20, 21, 22, 23, 24, 25, 26, 27, 28, 29, 30, 31, 32, 33, 34, 35, 36, 37, 38, 39, 40, 41, 42, 43, 44, 45, 46, 47, 48, 49, 50, 51, 52, 53, 54, 55, 56, 57, 58, 59, 60, 61, 62, 63, 64, 65, 66, 67, 68, 69, 70, 71, 72] (by decide +kernel) (by decide +kernel)
set_option maxRecDepth 20000 in
theorem gX0_spread_X0_passYear : GoodIn wsX0_spread (wsV RX0 32 RX0 yX0_passYear wsX0_passYear) := goodIn_app (goodIn_of _ (by decide +kernel)) ggX0_spread_X0_passYear
theorem dX0_spread_0 : decode cX0_spread 0 = .ok (.aload_n 0, 1) := by decide +kernel
theorem dX0_spread_1 : decode cX0_spread 1 = .ok (.getfield 9, 3) := by decide +kernel
theorem dX0_spread_4 : decode cX0_spread 4 = .ok (.invokestatic 18, 3) := by decide +kernel
theorem dX0_spread_7 : decode cX0_spread 7 = .ok (.aload_n 0, 1) := by decide +kernel
theorem dX0_spread_8 : decode cX0_spread 8 = .ok (.getfield 9, 3) := by decide +kernel
theorem dX0_spread_11 : decode cX0_spread 11 = .ok (.aload_n 1, 1) := by decide +kernel
theorem dX0_spread_12 : decode cX0_spread 12 = .ok (.getfield 22, 3) := by decide +kernel
theorem dX0_spread_15 : decode cX0_spread 15 = .ok (.lconst 1, 1) := by decide +kernel
theorem dX0_spread_16 : decode cX0_spread 16 = .ok (.lastore, 1) := by decide +kernel
theorem dX0_spread_17 : decode cX0_spread 17 = .ok (.aload_n 0, 1) := by decide +kernel
theorem dX0_spread_18 : decode cX0_spread 18 = .ok (.lconst 1, 1) := by decide +kernel
theorem dX0_spread_19 : decode cX0_spread 19 = .ok (.putfield 28, 3) := by decide +kernel
theorem dX0_spread_22 : decode cX0_spread 22 = .ok (.iconst 0, 1) := by decide +kernel
theorem dX0_spread_23 : decode cX0_spread 23 = .ok (.istore 4, 2) := by decide +kernel
theorem dX0_spread_25 : decode cX0_spread 25 = .ok (.iload 4, 2) := by decide +kernel
theorem dX0_spread_27 : decode cX0_spread 27 = .ok (.iload_n 3, 1) := by decide +kernel
theorem dX0_spread_28 : decode cX0_spread 28 = .ok (.if_icmp .ge 37, 3) := by decide +kernel
theorem dX0_spread_31 : decode cX0_spread 31 = .ok (.aload_n 0, 1) := by decide +kernel
theorem dX0_spread_32 : decode cX0_spread 32 = .ok (.aload_n 1, 1) := by decide +kernel
theorem dX0_spread_33 : decode cX0_spread 33 = .ok (.iload_n 2, 1) := by decide +kernel
theorem dX0_spread_34 : decode cX0_spread 34 = .ok (.invokevirtual 32, 3) := by decide +kernel
theorem dX0_spread_37 : decode cX0_spread 37 = .ok (.aload_n 1, 1) := by decide +kernel
theorem dX0_spread_38 : decode cX0_spread 38 = .ok (.dup, 1) := by decide +kernel
theorem dX0_spread_39 : decode cX0_spread 39 = .ok (.getfield 36, 3) := by decide +kernel
theorem dX0_spread_42 : decode cX0_spread 42 = .ok (.iconst 1, 1) := by decide +kernel
theorem dX0_spread_43 : decode cX0_spread 43 = .ok (.iadd, 1) := by decide +kernel
theorem dX0_spread_44 : decode cX0_spread 44 = .ok (.putfield 36, 3) := by decide +kernel
theorem dX0_spread_47 : decode cX0_spread 47 = .ok (.aload_n 0, 1) := by decide +kernel
theorem dX0_spread_48 : decode cX0_spread 48 = .ok (.dup, 1) := by decide +kernel
theorem dX0_spread_49 : decode cX0_spread 49 = .ok (.getfield 28, 3) := by decide +kernel
theorem dX0_spread_52 : decode cX0_spread 52 = .ok (.ldc2_w 39, 3) := by decide +kernel
theorem dX0_spread_55 : decode cX0_spread 55 = .ok (.lmul, 1) := by decide +kernel
theorem dX0_spread_56 : decode cX0_spread 56 = .ok (.putfield 28, 3) := by decide +kernel
theorem dX0_spread_59 : decode cX0_spread 59 = .ok (.iinc 4 1, 3) := by decide +kernel
theorem dX0_spread_62 : decode cX0_spread 62 = .ok (.goto (-37), 3) := by decide +kernel
theorem dX0_spread_65 : decode cX0_spread 65 = .ok (.return_, 1) := by decide +kernel
set_option maxRecDepth 20000 in
theorem ggX0_passYear_X0_clear : GoodIn wsX0_passYear wsX0_clear := goodIn_r _ [10] (by decide +kernel) (by decide +kernel)
set_option maxRecDepth 20000 in
theorem gX0_passYear_X0_clear : GoodIn wsX0_passYear (va_wsS RX0 18 yX0_clear wsX0_clear) := goodIn_app (goodIn_of _ (by decide +kernel)) ggX0_passYear_X0_clear
set_option maxRecDepth 20000 in
theorem ggX0_passYear_X4_holder : GoodIn wsX0_passYear wsX4_holder := goodIn_r _ [14, 15, 16, 17, 18, 19, 20, 12, 21, 22, 23, 24, 25, 26, 27, 28, 29, 30, 31, 32, 33, 34, 35, 36, 37, 38, 39, 60, 61, 62, 63, 64, 65, 66] (by decide +kernel) (by decide +kernel)
set_option maxRecDepth 20000 in
theorem gX0_passYear_X4_holder_n41 : GoodIn wsX0_passYear (wsX4_holder) := ggX0_passYear_X4_holder
set_option maxRecDepth 20000 in
theorem ggX0_passYear_X4_nextPoint : GoodIn wsX0_passYear wsX4_nextPoint := goodIn_r _ [42, 22, 23, 43, 44, 45, 12, 46, 15, 18, 19, 20, 21, 24, 25, 26, 32, 33, 34, 35, 36, 47, 48, 49, 50, 51, 52, 53, 54, 55, 56, 60, 61, 62, 63, 64, 65, 66] (by decide +kernel) (by decide +kernel)
set_option maxRecDepth 20000 in
theorem gX0_passYear_X4_nextPoint_n45 : GoodIn wsX0_passYear (wsX4_nextPoint) := ggX0_passYear_X4_nextPoint
theorem dX0_passYear_0 : decode cX0_passYear 0 = .ok (.aload_n 0, 1) := by decide +kernel
theorem dX0_passYear_1 : decode cX0_passYear 1 = .ok (.getfield 15, 3) := by decide +kernel
theorem dX0_passYear_4 : decode cX0_passYear 4 = .ok (.invokestatic 18, 3) := by decide +kernel
theorem dX0_passYear_7 : decode cX0_passYear 7 = .ok (.iconst 0, 1) := by decide +kernel
theorem dX0_passYear_8 : decode cX0_passYear 8 = .ok (.istore_n 3, 1) := by decide +kernel
theorem dX0_passYear_9 : decode cX0_passYear 9 = .ok (.iload_n 3, 1) := by decide +kernel
theorem dX0_passYear_10 : decode cX0_passYear 10 = .ok (.bipush 100, 2) := by decide +kernel
theorem dX0_passYear_12 : decode cX0_passYear 12 = .ok (.if_icmp .ge 71, 3) := by decide +kernel
theorem dX0_passYear_15 : decode cX0_passYear 15 = .ok (.aload_n 0, 1) := by decide +kernel
theorem dX0_passYear_16 : decode cX0_passYear 16 = .ok (.getfield 9, 3) := by decide +kernel
theorem dX0_passYear_19 : decode cX0_passYear 19 = .ok (.iload_n 3, 1) := by decide +kernel
theorem dX0_passYear_20 : decode cX0_passYear 20 = .ok (.laload, 1) := by decide +kernel
theorem dX0_passYear_21 : decode cX0_passYear 21 = .ok (.lconst 0, 1) := by decide +kernel
theorem dX0_passYear_22 : decode cX0_passYear 22 = .ok (.lcmp, 1) := by decide +kernel
theorem dX0_passYear_23 : decode cX0_passYear 23 = .ok (.ifCond .eq 54, 3) := by decide +kernel
theorem dX0_passYear_26 : decode cX0_passYear 26 = .ok (.aload_n 1, 1) := by decide +kernel
theorem dX0_passYear_27 : decode cX0_passYear 27 = .ok (.iload_n 3, 1) := by decide +kernel
theorem dX0_passYear_28 : decode cX0_passYear 28 = .ok (.putfield 22, 3) := by decide +kernel
theorem dX0_passYear_31 : decode cX0_passYear 31 = .ok (.aload_n 0, 1) := by decide +kernel
theorem dX0_passYear_32 : decode cX0_passYear 32 = .ok (.getfield 15, 3) := by decide +kernel
theorem dX0_passYear_35 : decode cX0_passYear 35 = .ok (.iload_n 3, 1) := by decide +kernel
theorem dX0_passYear_36 : decode cX0_passYear 36 = .ok (.dup2, 1) := by decide +kernel
theorem dX0_passYear_37 : decode cX0_passYear 37 = .ok (.laload, 1) := by decide +kernel
theorem dX0_passYear_38 : decode cX0_passYear 38 = .ok (.iload_n 2, 1) := by decide +kernel
theorem dX0_passYear_39 : decode cX0_passYear 39 = .ok (.i2l, 1) := by decide +kernel
theorem dX0_passYear_40 : decode cX0_passYear 40 = .ok (.aload_n 0, 1) := by decide +kernel
theorem dX0_passYear_41 : decode cX0_passYear 41 = .ok (.getfield 9, 3) := by decide +kernel
theorem dX0_passYear_44 : decode cX0_passYear 44 = .ok (.iload_n 3, 1) := by decide +kernel
theorem dX0_passYear_45 : decode cX0_passYear 45 = .ok (.laload, 1) := by decide +kernel
theorem dX0_passYear_46 : decode cX0_passYear 46 = .ok (.lmul, 1) := by decide +kernel
theorem dX0_passYear_47 : decode cX0_passYear 47 = .ok (.ladd, 1) := by decide +kernel
theorem dX0_passYear_48 : decode cX0_passYear 48 = .ok (.lastore, 1) := by decide +kernel
theorem dX0_passYear_49 : decode cX0_passYear 49 = .ok (.aload_n 0, 1) := by decide +kernel
theorem dX0_passYear_50 : decode cX0_passYear 50 = .ok (.getfield 15, 3) := by decide +kernel
theorem dX0_passYear_53 : decode cX0_passYear 53 = .ok (.aload_n 1, 1) := by decide +kernel
theorem dX0_passYear_54 : decode cX0_passYear 54 = .ok (.aload_n 1, 1) := by decide +kernel
theorem dX0_passYear_55 : decode cX0_passYear 55 = .ok (.invokevirtual 41, 3) := by decide +kernel
theorem dX0_passYear_58 : decode cX0_passYear 58 = .ok (.invokevirtual 45, 3) := by decide +kernel
theorem dX0_passYear_61 : decode cX0_passYear 61 = .ok (.dup2, 1) := by decide +kernel
theorem dX0_passYear_62 : decode cX0_passYear 62 = .ok (.laload, 1) := by decide +kernel
theorem dX0_passYear_63 : decode cX0_passYear 63 = .ok (.bipush 10, 2) := by decide +kernel
theorem dX0_passYear_65 : decode cX0_passYear 65 = .ok (.iload_n 2, 1) := by decide +kernel
theorem dX0_passYear_66 : decode cX0_passYear 66 = .ok (.isub, 1) := by decide +kernel
theorem dX0_passYear_67 : decode cX0_passYear 67 = .ok (.i2l, 1) := by decide +kernel
theorem dX0_passYear_68 : decode cX0_passYear 68 = .ok (.aload_n 0, 1) := by decide +kernel
theorem dX0_passYear_69 : decode cX0_passYear 69 = .ok (.getfield 9, 3) := by decide +kernel
theorem dX0_passYear_72 : decode cX0_passYear 72 = .ok (.iload_n 3, 1) := by decide +kernel
theorem dX0_passYear_73 : decode cX0_passYear 73 = .ok (.laload, 1) := by decide +kernel
theorem dX0_passYear_74 : decode cX0_passYear 74 = .ok (.lmul, 1) := by decide +kernel
theorem dX0_passYear_75 : decode cX0_passYear 75 = .ok (.ladd, 1) := by decide +kernel
theorem dX0_passYear_76 : decode cX0_passYear 76 = .ok (.lastore, 1) := by decide +kernel
theorem dX0_passYear_77 : decode cX0_passYear 77 = .ok (.iinc 3 1, 3) := by decide +kernel
theorem dX0_passYear_80 : decode cX0_passYear 80 = .ok (.goto (-71), 3) := by decide +kernel
theorem dX0_passYear_83 : decode cX0_passYear 83 = .ok (.aload_n 0, 1) := by decide +kernel
theorem dX0_passYear_84 : decode cX0_passYear 84 = .ok (.getfield 15, 3) := by decide +kernel
theorem dX0_passYear_87 : decode cX0_passYear 87 = .ok (.iconst 0, 1) := by decide +kernel
theorem dX0_passYear_88 : decode cX0_passYear 88 = .ok (.aload_n 0, 1) := by decide +kernel
theorem dX0_passYear_89 : decode cX0_passYear 89 = .ok (.getfield 9, 3) := by decide +kernel
theorem dX0_passYear_92 : decode cX0_passYear 92 = .ok (.iconst 0, 1) := by decide +kernel
theorem dX0_passYear_93 : decode cX0_passYear 93 = .ok (.bipush 100, 2) := by decide +kernel
theorem dX0_passYear_95 : decode cX0_passYear 95 = .ok (.invokestatic 49, 3) := by decide +kernel
theorem dX0_passYear_98 : decode cX0_passYear 98 = .ok (.return_, 1) := by decide +kernel
theorem dX0_clear_0 : decode cX0_clear 0 = .ok (.iconst 0, 1) := by decide +kernel
theorem dX0_clear_1 : decode cX0_clear 1 = .ok (.istore_n 1, 1) := by decide +kernel
theorem dX0_clear_2 : decode cX0_clear 2 = .ok (.iload_n 1, 1) := by decide +kernel
theorem dX0_clear_3 : decode cX0_clear 3 = .ok (.aload_n 0, 1) := by decide +kernel
theorem dX0_clear_4 : decode cX0_clear 4 = .ok (.arraylength, 1) := by decide +kernel
theorem dX0_clear_5 : decode cX0_clear 5 = .ok (.if_icmp .ge 13, 3) := by decide +kernel
theorem dX0_clear_8 : decode cX0_clear 8 = .ok (.aload_n 0, 1) := by decide +kernel
theorem dX0_clear_9 : decode cX0_clear 9 = .ok (.iload_n 1, 1) := by decide +kernel
theorem dX0_clear_10 : decode cX0_clear 10 = .ok (.lconst 0, 1) := by decide +kernel
theorem dX0_clear_11 : decode cX0_clear 11 = .ok (.lastore, 1) := by decide +kernel
theorem dX0_clear_12 : decode cX0_clear 12 = .ok (.iinc 1 1, 3) := by decide +kernel
theorem dX0_clear_15 : decode cX0_clear 15 = .ok (.goto (-13), 3) := by decide +kernel
theorem dX0_clear_18 : decode cX0_clear 18 = .ok (.return_, 1) := by decide +kernel
set_option maxRecDepth 20000 in
theorem ggX0_leanTotal_X5_far : GoodIn wsX0_leanTotal wsX5_far := goodIn_r _ [4] (by decide +kernel) (by decide +kernel)
set_option maxRecDepth 20000 in
theorem gX0_leanTotal_X5_far_n55 : GoodIn wsX0_leanTotal (wsX5_far) := ggX0_leanTotal_X5_far
theorem dX0_leanTotal_0 : decode cX0_leanTotal 0 = .ok (.lconst 0, 1) := by decide +kernel
theorem dX0_leanTotal_1 : decode cX0_leanTotal 1 = .ok (.lstore_n 2, 1) := by decide +kernel
theorem dX0_leanTotal_2 : decode cX0_leanTotal 2 = .ok (.iconst 0, 1) := by decide +kernel
theorem dX0_leanTotal_3 : decode cX0_leanTotal 3 = .ok (.istore 4, 2) := by decide +kernel
theorem dX0_leanTotal_5 : decode cX0_leanTotal 5 = .ok (.iload 4, 2) := by decide +kernel
theorem dX0_leanTotal_7 : decode cX0_leanTotal 7 = .ok (.bipush 100, 2) := by decide +kernel
theorem dX0_leanTotal_9 : decode cX0_leanTotal 9 = .ok (.if_icmp .ge 27, 3) := by decide +kernel
theorem dX0_leanTotal_12 : decode cX0_leanTotal 12 = .ok (.lload_n 2, 1) := by decide +kernel
theorem dX0_leanTotal_13 : decode cX0_leanTotal 13 = .ok (.aload_n 0, 1) := by decide +kernel
theorem dX0_leanTotal_14 : decode cX0_leanTotal 14 = .ok (.getfield 9, 3) := by decide +kernel
theorem dX0_leanTotal_17 : decode cX0_leanTotal 17 = .ok (.iload 4, 2) := by decide +kernel
theorem dX0_leanTotal_19 : decode cX0_leanTotal 19 = .ok (.laload, 1) := by decide +kernel
theorem dX0_leanTotal_20 : decode cX0_leanTotal 20 = .ok (.iload 4, 2) := by decide +kernel
theorem dX0_leanTotal_22 : decode cX0_leanTotal 22 = .ok (.iload_n 1, 1) := by decide +kernel
theorem dX0_leanTotal_23 : decode cX0_leanTotal 23 = .ok (.invokestatic 55, 3) := by decide +kernel
theorem dX0_leanTotal_26 : decode cX0_leanTotal 26 = .ok (.i2l, 1) := by decide +kernel
theorem dX0_leanTotal_27 : decode cX0_leanTotal 27 = .ok (.lmul, 1) := by decide +kernel
theorem dX0_leanTotal_28 : decode cX0_leanTotal 28 = .ok (.ladd, 1) := by decide +kernel
theorem dX0_leanTotal_29 : decode cX0_leanTotal 29 = .ok (.lstore_n 2, 1) := by decide +kernel
theorem dX0_leanTotal_30 : decode cX0_leanTotal 30 = .ok (.iinc 4 1, 3) := by decide +kernel
theorem dX0_leanTotal_33 : decode cX0_leanTotal 33 = .ok (.goto (-28), 3) := by decide +kernel
theorem dX0_leanTotal_36 : decode cX0_leanTotal 36 = .ok (.lload_n 2, 1) := by decide +kernel
theorem dX0_leanTotal_37 : decode cX0_leanTotal 37 = .ok (.lreturn, 1) := by decide +kernel
theorem dX1_init_0 : decode cX1_init 0 = .ok (.aload_n 0, 1) := by decide +kernel
theorem dX1_init_1 : decode cX1_init 1 = .ok (.invokespecial 3, 3) := by decide +kernel
theorem dX1_init_4 : decode cX1_init 4 = .ok (.aload_n 0, 1) := by decide +kernel
theorem dX1_init_5 : decode cX1_init 5 = .ok (.bipush 40, 2) := by decide +kernel
theorem dX1_init_7 : decode cX1_init 7 = .ok (.newarray .int, 2) := by decide +kernel
theorem dX1_init_9 : decode cX1_init 9 = .ok (.putfield 9, 3) := by decide +kernel
theorem dX1_init_12 : decode cX1_init 12 = .ok (.aload_n 0, 1) := by decide +kernel
theorem dX1_init_13 : decode cX1_init 13 = .ok (.iconst (-1), 1) := by decide +kernel
theorem dX1_init_14 : decode cX1_init 14 = .ok (.putfield 15, 3) := by decide +kernel
theorem dX1_init_17 : decode cX1_init 17 = .ok (.return_, 1) := by decide +kernel
theorem dX1_isNothing_0 : decode cX1_isNothing 0 = .ok (.aload_n 0, 1) := by decide +kernel
theorem dX1_isNothing_1 : decode cX1_isNothing 1 = .ok (.getfield 15, 3) := by decide +kernel
theorem dX1_isNothing_4 : decode cX1_isNothing 4 = .ok (.iconst (-1), 1) := by decide +kernel
theorem dX1_isNothing_5 : decode cX1_isNothing 5 = .ok (.if_icmp .ne 7, 3) := by decide +kernel
theorem dX1_isNothing_8 : decode cX1_isNothing 8 = .ok (.iconst 1, 1) := by decide +kernel
theorem dX1_isNothing_9 : decode cX1_isNothing 9 = .ok (.goto 4, 3) := by decide +kernel
theorem dX1_isNothing_12 : decode cX1_isNothing 12 = .ok (.iconst 0, 1) := by decide +kernel
theorem dX1_isNothing_13 : decode cX1_isNothing 13 = .ok (.ireturn, 1) := by decide +kernel
theorem dX1_renew_0 : decode cX1_renew 0 = .ok (.aload_n 0, 1) := by decide +kernel
theorem dX1_renew_1 : decode cX1_renew 1 = .ok (.iload_n 1, 1) := by decide +kernel
theorem dX1_renew_2 : decode cX1_renew 2 = .ok (.putfield 15, 3) := by decide +kernel
theorem dX1_renew_5 : decode cX1_renew 5 = .ok (.aload_n 0, 1) := by decide +kernel
theorem dX1_renew_6 : decode cX1_renew 6 = .ok (.iload_n 2, 1) := by decide +kernel
theorem dX1_renew_7 : decode cX1_renew 7 = .ok (.putfield 19, 3) := by decide +kernel
theorem dX1_renew_10 : decode cX1_renew 10 = .ok (.iconst 0, 1) := by decide +kernel
theorem dX1_renew_11 : decode cX1_renew 11 = .ok (.istore_n 3, 1) := by decide +kernel
theorem dX1_renew_12 : decode cX1_renew 12 = .ok (.iload_n 3, 1) := by decide +kernel
theorem dX1_renew_13 : decode cX1_renew 13 = .ok (.bipush 40, 2) := by decide +kernel
theorem dX1_renew_15 : decode cX1_renew 15 = .ok (.if_icmp .ge 16, 3) := by decide +kernel
theorem dX1_renew_18 : decode cX1_renew 18 = .ok (.aload_n 0, 1) := by decide +kernel
theorem dX1_renew_19 : decode cX1_renew 19 = .ok (.getfield 9, 3) := by decide +kernel
theorem dX1_renew_22 : decode cX1_renew 22 = .ok (.iload_n 3, 1) := by decide +kernel
theorem dX1_renew_23 : decode cX1_renew 23 = .ok (.iconst 0, 1) := by decide +kernel
theorem dX1_renew_24 : decode cX1_renew 24 = .ok (.iastore, 1) := by decide +kernel
theorem dX1_renew_25 : decode cX1_renew 25 = .ok (.iinc 3 1, 3) := by decide +kernel
theorem dX1_renew_28 : decode cX1_renew 28 = .ok (.goto (-16), 3) := by decide +kernel
theorem dX1_renew_31 : decode cX1_renew 31 = .ok (.return_, 1) := by decide +kernel
set_option maxRecDepth 20000 in
theorem ggX1_faultOf_X1_isNothing : GoodIn wsX1_faultOf wsX1_isNothing := goodIn_r _ [7, 1, 8, 9, 10] (by decide +kernel) (by decide +kernel)
set_option maxRecDepth 20000 in
theorem gX1_faultOf_X1_isNothing : GoodIn wsX1_faultOf (wsV RX1 22 RX1 yX1_isNothing wsX1_isNothing) := goodIn_app (goodIn_of _ (by decide +kernel)) ggX1_faultOf_X1_isNothing
theorem dX1_faultOf_0 : decode cX1_faultOf 0 = .ok (.aload_n 0, 1) := by decide +kernel
theorem dX1_faultOf_1 : decode cX1_faultOf 1 = .ok (.invokevirtual 22, 3) := by decide +kernel
theorem dX1_faultOf_4 : decode cX1_faultOf 4 = .ok (.ifCond .eq 5, 3) := by decide +kernel
theorem dX1_faultOf_7 : decode cX1_faultOf 7 = .ok (.iconst 1, 1) := by decide +kernel
theorem dX1_faultOf_8 : decode cX1_faultOf 8 = .ok (.ireturn, 1) := by decide +kernel
theorem dX1_faultOf_9 : decode cX1_faultOf 9 = .ok (.aload_n 0, 1) := by decide +kernel
theorem dX1_faultOf_10 : decode cX1_faultOf 10 = .ok (.getfield 15, 3) := by decide +kernel
theorem dX1_faultOf_13 : decode cX1_faultOf 13 = .ok (.iload_n 1, 1) := by decide +kernel
theorem dX1_faultOf_14 : decode cX1_faultOf 14 = .ok (.if_icmp .eq 5, 3) := by decide +kernel
theorem dX1_faultOf_17 : decode cX1_faultOf 17 = .ok (.iconst 3, 1) := by decide +kernel
theorem dX1_faultOf_18 : decode cX1_faultOf 18 = .ok (.ireturn, 1) := by decide +kernel
theorem dX1_faultOf_19 : decode cX1_faultOf 19 = .ok (.iload_n 2, 1) := by decide +kernel
theorem dX1_faultOf_20 : decode cX1_faultOf 20 = .ok (.ifCond .lt 11, 3) := by decide +kernel
theorem dX1_faultOf_23 : decode cX1_faultOf 23 = .ok (.iload_n 2, 1) := by decide +kernel
theorem dX1_faultOf_24 : decode cX1_faultOf 24 = .ok (.aload_n 0, 1) := by decide +kernel
theorem dX1_faultOf_25 : decode cX1_faultOf 25 = .ok (.getfield 19, 3) := by decide +kernel
theorem dX1_faultOf_28 : decode cX1_faultOf 28 = .ok (.if_icmp .lt 7, 3) := by decide +kernel
theorem dX1_faultOf_31 : decode cX1_faultOf 31 = .ok (.iconst 2, 1) := by decide +kernel
theorem dX1_faultOf_32 : decode cX1_faultOf 32 = .ok (.goto 4, 3) := by decide +kernel
theorem dX1_faultOf_35 : decode cX1_faultOf 35 = .ok (.iconst 0, 1) := by decide +kernel
theorem dX1_faultOf_36 : decode cX1_faultOf 36 = .ok (.ireturn, 1) := by decide +kernel
set_option maxRecDepth 20000 in
theorem ggX1_faultOfPair_X1_faultOf : GoodIn wsX1_faultOfPair wsX1_faultOf := goodIn_r _ [5, 6, 7, 8, 9, 10, 4, 11, 12, 13, 14] (by decide +kernel) (by decide +kernel)
set_option maxRecDepth 20000 in
theorem gX1_faultOfPair_X1_faultOf : GoodIn wsX1_faultOfPair (wsV RX1 26 RX1 yX1_faultOf wsX1_faultOf) := goodIn_app (goodIn_of _ (by decide +kernel)) ggX1_faultOfPair_X1_faultOf
theorem dX1_faultOfPair_0 : decode cX1_faultOfPair 0 = .ok (.aload_n 0, 1) := by decide +kernel
theorem dX1_faultOfPair_1 : decode cX1_faultOfPair 1 = .ok (.iload_n 1, 1) := by decide +kernel
theorem dX1_faultOfPair_2 : decode cX1_faultOfPair 2 = .ok (.iload_n 2, 1) := by decide +kernel
theorem dX1_faultOfPair_3 : decode cX1_faultOfPair 3 = .ok (.invokevirtual 26, 3) := by decide +kernel
theorem dX1_faultOfPair_6 : decode cX1_faultOfPair 6 = .ok (.istore_n 3, 1) := by decide +kernel
theorem dX1_faultOfPair_7 : decode cX1_faultOfPair 7 = .ok (.iload_n 3, 1) := by decide +kernel
theorem dX1_faultOfPair_8 : decode cX1_faultOfPair 8 = .ok (.ifCond .eq 7, 3) := by decide +kernel
theorem dX1_faultOfPair_11 : decode cX1_faultOfPair 11 = .ok (.iload_n 3, 1) := by decide +kernel
theorem dX1_faultOfPair_12 : decode cX1_faultOfPair 12 = .ok (.goto 11, 3) := by decide +kernel
theorem dX1_faultOfPair_15 : decode cX1_faultOfPair 15 = .ok (.aload_n 0, 1) := by decide +kernel
theorem dX1_faultOfPair_16 : decode cX1_faultOfPair 16 = .ok (.iload_n 1, 1) := by decide +kernel
theorem dX1_faultOfPair_17 : decode cX1_faultOfPair 17 = .ok (.iload_n 2, 1) := by decide +kernel
theorem dX1_faultOfPair_18 : decode cX1_faultOfPair 18 = .ok (.iconst 1, 1) := by decide +kernel
theorem dX1_faultOfPair_19 : decode cX1_faultOfPair 19 = .ok (.iadd, 1) := by decide +kernel
theorem dX1_faultOfPair_20 : decode cX1_faultOfPair 20 = .ok (.invokevirtual 26, 3) := by decide +kernel
theorem dX1_faultOfPair_23 : decode cX1_faultOfPair 23 = .ok (.ireturn, 1) := by decide +kernel
theorem dX1_write_0 : decode cX1_write 0 = .ok (.aload_n 0, 1) := by decide +kernel
theorem dX1_write_1 : decode cX1_write 1 = .ok (.getfield 15, 3) := by decide +kernel
theorem dX1_write_4 : decode cX1_write 4 = .ok (.ifCond .ne 14, 3) := by decide +kernel
theorem dX1_write_7 : decode cX1_write 7 = .ok (.aload_n 0, 1) := by decide +kernel
theorem dX1_write_8 : decode cX1_write 8 = .ok (.getfield 9, 3) := by decide +kernel
theorem dX1_write_11 : decode cX1_write 11 = .ok (.iload_n 1, 1) := by decide +kernel
theorem dX1_write_12 : decode cX1_write 12 = .ok (.iload_n 2, 1) := by decide +kernel
theorem dX1_write_13 : decode cX1_write 13 = .ok (.i2b, 1) := by decide +kernel
theorem dX1_write_14 : decode cX1_write 14 = .ok (.iastore, 1) := by decide +kernel
theorem dX1_write_15 : decode cX1_write 15 = .ok (.goto 29, 3) := by decide +kernel
theorem dX1_write_18 : decode cX1_write 18 = .ok (.aload_n 0, 1) := by decide +kernel
theorem dX1_write_19 : decode cX1_write 19 = .ok (.getfield 15, 3) := by decide +kernel
theorem dX1_write_22 : decode cX1_write 22 = .ok (.iconst 1, 1) := by decide +kernel
theorem dX1_write_23 : decode cX1_write 23 = .ok (.if_icmp .ne 14, 3) := by decide +kernel
theorem dX1_write_26 : decode cX1_write 26 = .ok (.aload_n 0, 1) := by decide +kernel
theorem dX1_write_27 : decode cX1_write 27 = .ok (.getfield 9, 3) := by decide +kernel
theorem dX1_write_30 : decode cX1_write 30 = .ok (.iload_n 1, 1) := by decide +kernel
theorem dX1_write_31 : decode cX1_write 31 = .ok (.iload_n 2, 1) := by decide +kernel
theorem dX1_write_32 : decode cX1_write 32 = .ok (.i2s, 1) := by decide +kernel
theorem dX1_write_33 : decode cX1_write 33 = .ok (.iastore, 1) := by decide +kernel
theorem dX1_write_34 : decode cX1_write 34 = .ok (.goto 10, 3) := by decide +kernel
theorem dX1_write_37 : decode cX1_write 37 = .ok (.aload_n 0, 1) := by decide +kernel
theorem dX1_write_38 : decode cX1_write 38 = .ok (.getfield 9, 3) := by decide +kernel
theorem dX1_write_41 : decode cX1_write 41 = .ok (.iload_n 1, 1) := by decide +kernel
theorem dX1_write_42 : decode cX1_write 42 = .ok (.iload_n 2, 1) := by decide +kernel
theorem dX1_write_43 : decode cX1_write 43 = .ok (.iastore, 1) := by decide +kernel
theorem dX1_write_44 : decode cX1_write 44 = .ok (.return_, 1) := by decide +kernel
theorem dX2_init_0 : decode cX2_init 0 = .ok (.aload_n 0, 1) := by decide +kernel
theorem dX2_init_1 : decode cX2_init 1 = .ok (.invokespecial 3, 3) := by decide +kernel
theorem dX2_init_4 : decode cX2_init 4 = .ok (.aload_n 0, 1) := by decide +kernel
theorem dX2_init_5 : decode cX2_init 5 = .ok (.bipush 6, 2) := by decide +kernel
theorem dX2_init_7 : decode cX2_init 7 = .ok (.newarray .int, 2) := by decide +kernel
theorem dX2_init_9 : decode cX2_init 9 = .ok (.putfield 9, 3) := by decide +kernel
theorem dX2_init_12 : decode cX2_init 12 = .ok (.aload_n 0, 1) := by decide +kernel
theorem dX2_init_13 : decode cX2_init 13 = .ok (.bipush 6, 2) := by decide +kernel
theorem dX2_init_15 : decode cX2_init 15 = .ok (.newarray .int, 2) := by decide +kernel
theorem dX2_init_17 : decode cX2_init 17 = .ok (.putfield 15, 3) := by decide +kernel
theorem dX2_init_20 : decode cX2_init 20 = .ok (.return_, 1) := by decide +kernel
theorem dX2_add_0 : decode cX2_add 0 = .ok (.aload_n 0, 1) := by decide +kernel
theorem dX2_add_1 : decode cX2_add 1 = .ok (.getfield 18, 3) := by decide +kernel
theorem dX2_add_4 : decode cX2_add 4 = .ok (.bipush 6, 2) := by decide +kernel
theorem dX2_add_6 : decode cX2_add 6 = .ok (.if_icmp .lt 6, 3) := by decide +kernel
theorem dX2_add_9 : decode cX2_add 9 = .ok (.bipush (-3), 2) := by decide +kernel
theorem dX2_add_11 : decode cX2_add 11 = .ok (.ireturn, 1) := by decide +kernel
theorem dX2_add_12 : decode cX2_add 12 = .ok (.aload_n 0, 1) := by decide +kernel
theorem dX2_add_13 : decode cX2_add 13 = .ok (.getfield 9, 3) := by decide +kernel
theorem dX2_add_16 : decode cX2_add 16 = .ok (.aload_n 0, 1) := by decide +kernel
theorem dX2_add_17 : decode cX2_add 17 = .ok (.getfield 18, 3) := by decide +kernel
theorem dX2_add_20 : decode cX2_add 20 = .ok (.iload_n 1, 1) := by decide +kernel
theorem dX2_add_21 : decode cX2_add 21 = .ok (.iastore, 1) := by decide +kernel
theorem dX2_add_22 : decode cX2_add 22 = .ok (.aload_n 0, 1) := by decide +kernel
theorem dX2_add_23 : decode cX2_add 23 = .ok (.getfield 15, 3) := by decide +kernel
theorem dX2_add_26 : decode cX2_add 26 = .ok (.aload_n 0, 1) := by decide +kernel
theorem dX2_add_27 : decode cX2_add 27 = .ok (.getfield 18, 3) := by decide +kernel
theorem dX2_add_30 : decode cX2_add 30 = .ok (.iload_n 2, 1) := by decide +kernel
theorem dX2_add_31 : decode cX2_add 31 = .ok (.iastore, 1) := by decide +kernel
theorem dX2_add_32 : decode cX2_add 32 = .ok (.aload_n 0, 1) := by decide +kernel
theorem dX2_add_33 : decode cX2_add 33 = .ok (.dup, 1) := by decide +kernel
theorem dX2_add_34 : decode cX2_add 34 = .ok (.getfield 18, 3) := by decide +kernel
theorem dX2_add_37 : decode cX2_add 37 = .ok (.iconst 1, 1) := by decide +kernel
theorem dX2_add_38 : decode cX2_add 38 = .ok (.iadd, 1) := by decide +kernel
theorem dX2_add_39 : decode cX2_add 39 = .ok (.putfield 18, 3) := by decide +kernel
theorem dX2_add_42 : decode cX2_add 42 = .ok (.aload_n 0, 1) := by decide +kernel
theorem dX2_add_43 : decode cX2_add 43 = .ok (.getfield 18, 3) := by decide +kernel
theorem dX2_add_46 : decode cX2_add 46 = .ok (.ireturn, 1) := by decide +kernel
set_option maxRecDepth 20000 in
theorem ggX2_fits_X2_latestYear : GoodIn wsX2_fits wsX2_latestYear := goodIn_r _ [5, 6, 7, 8, 9, 10, 11, 74, 75, 76] (by decide +kernel) (by decide +kernel)
set_option maxRecDepth 20000 in
theorem gX2_fits_X2_latestYear : GoodIn wsX2_fits (wsV RX2 22 RX2 yX2_latestYear wsX2_latestYear) := goodIn_app (goodIn_of _ (by decide +kernel)) ggX2_fits_X2_latestYear
set_option maxRecDepth 20000 in
theorem ggX2_fits_X2_fitsAt : GoodIn wsX2_fits wsX2_fitsAt := goodIn_r _ [15, 6, 7, 16, 74, 75, 76] (by decide +kernel) (by decide +kernel)
set_option maxRecDepth 20000 in
theorem gX2_fits_X2_fitsAt : GoodIn wsX2_fits (wsV RX2 31 RX2 yX2_fitsAt wsX2_fitsAt) := goodIn_app (goodIn_of _ (by decide +kernel)) ggX2_fits_X2_fitsAt
set_option maxRecDepth 20000 in
theorem ggX2_fits_X4_passYear : GoodIn wsX2_fits wsX4_passYear := goodIn_r _ [20, 21, 22, 23, 24, 25, 18, 26, 27, 28, 29, 30, 31, 32, 33, 34, 35, 36, 37, 38, 39, 40, 41, 42, 43, 44, 45, 46, 47, 48, 49, 50, 51, 52, 53, 54, 55, 56, 57, 58, 59, 60, 61, 62, 63, 10, 64, 65, 66, 67, 68, 69, 70, 71, 72, 73] (by decide +kernel) (by decide +kernel)
set_option maxRecDepth 20000 in
theorem gX2_fits_X4_passYear_n35 : GoodIn wsX2_fits (wsX4_passYear) := ggX2_fits_X4_passYear
theorem dX2_fits_0 : decode cX2_fits 0 = .ok (.aload_n 0, 1) := by decide +kernel
theorem dX2_fits_1 : decode cX2_fits 1 = .ok (.invokevirtual 22, 3) := by decide +kernel
theorem dX2_fits_4 : decode cX2_fits 4 = .ok (.istore_n 2, 1) := by decide +kernel
theorem dX2_fits_5 : decode cX2_fits 5 = .ok (.iconst 0, 1) := by decide +kernel
theorem dX2_fits_6 : decode cX2_fits 6 = .ok (.istore_n 3, 1) := by decide +kernel
theorem dX2_fits_7 : decode cX2_fits 7 = .ok (.iload_n 3, 1) := by decide +kernel
theorem dX2_fits_8 : decode cX2_fits 8 = .ok (.iload_n 2, 1) := by decide +kernel
theorem dX2_fits_9 : decode cX2_fits 9 = .ok (.if_icmp .gt 28, 3) := by decide +kernel
theorem dX2_fits_12 : decode cX2_fits 12 = .ok (.aload_n 0, 1) := by decide +kernel
theorem dX2_fits_13 : decode cX2_fits 13 = .ok (.iload_n 3, 1) := by decide +kernel
theorem dX2_fits_14 : decode cX2_fits 14 = .ok (.aload_n 1, 1) := by decide +kernel
theorem dX2_fits_15 : decode cX2_fits 15 = .ok (.getfield 26, 3) := by decide +kernel
theorem dX2_fits_18 : decode cX2_fits 18 = .ok (.invokevirtual 31, 3) := by decide +kernel
theorem dX2_fits_21 : decode cX2_fits 21 = .ok (.ifCond .ne 5, 3) := by decide +kernel
theorem dX2_fits_24 : decode cX2_fits 24 = .ok (.iconst 0, 1) := by decide +kernel
theorem dX2_fits_25 : decode cX2_fits 25 = .ok (.ireturn, 1) := by decide +kernel
theorem dX2_fits_26 : decode cX2_fits 26 = .ok (.aload_n 1, 1) := by decide +kernel
theorem dX2_fits_27 : decode cX2_fits 27 = .ok (.invokevirtual 35, 3) := by decide +kernel
theorem dX2_fits_30 : decode cX2_fits 30 = .ok (.pop, 1) := by decide +kernel
theorem dX2_fits_31 : decode cX2_fits 31 = .ok (.iinc 3 1, 3) := by decide +kernel
theorem dX2_fits_34 : decode cX2_fits 34 = .ok (.goto (-27), 3) := by decide +kernel
theorem dX2_fits_37 : decode cX2_fits 37 = .ok (.iconst 1, 1) := by decide +kernel
theorem dX2_fits_38 : decode cX2_fits 38 = .ok (.ireturn, 1) := by decide +kernel
theorem dX2_latestYear_0 : decode cX2_latestYear 0 = .ok (.iconst 0, 1) := by decide +kernel
theorem dX2_latestYear_1 : decode cX2_latestYear 1 = .ok (.istore_n 1, 1) := by decide +kernel
theorem dX2_latestYear_2 : decode cX2_latestYear 2 = .ok (.iconst 0, 1) := by decide +kernel
theorem dX2_latestYear_3 : decode cX2_latestYear 3 = .ok (.istore_n 2, 1) := by decide +kernel
theorem dX2_latestYear_4 : decode cX2_latestYear 4 = .ok (.iload_n 2, 1) := by decide +kernel
theorem dX2_latestYear_5 : decode cX2_latestYear 5 = .ok (.aload_n 0, 1) := by decide +kernel
theorem dX2_latestYear_6 : decode cX2_latestYear 6 = .ok (.getfield 18, 3) := by decide +kernel
theorem dX2_latestYear_9 : decode cX2_latestYear 9 = .ok (.if_icmp .ge 20, 3) := by decide +kernel
theorem dX2_latestYear_12 : decode cX2_latestYear 12 = .ok (.iload_n 1, 1) := by decide +kernel
theorem dX2_latestYear_13 : decode cX2_latestYear 13 = .ok (.aload_n 0, 1) := by decide +kernel
theorem dX2_latestYear_14 : decode cX2_latestYear 14 = .ok (.getfield 9, 3) := by decide +kernel
theorem dX2_latestYear_17 : decode cX2_latestYear 17 = .ok (.iload_n 2, 1) := by decide +kernel
theorem dX2_latestYear_18 : decode cX2_latestYear 18 = .ok (.iaload, 1) := by decide +kernel
theorem dX2_latestYear_19 : decode cX2_latestYear 19 = .ok (.invokestatic 38, 3) := by decide +kernel
theorem dX2_latestYear_22 : decode cX2_latestYear 22 = .ok (.istore_n 1, 1) := by decide +kernel
theorem dX2_latestYear_23 : decode cX2_latestYear 23 = .ok (.iinc 2 1, 3) := by decide +kernel
theorem dX2_latestYear_26 : decode cX2_latestYear 26 = .ok (.goto (-22), 3) := by decide +kernel
theorem dX2_latestYear_29 : decode cX2_latestYear 29 = .ok (.iload_n 1, 1) := by decide +kernel
theorem dX2_latestYear_30 : decode cX2_latestYear 30 = .ok (.ireturn, 1) := by decide +kernel
theorem dX2_fitsAt_0 : decode cX2_fitsAt 0 = .ok (.iconst 0, 1) := by decide +kernel
theorem dX2_fitsAt_1 : decode cX2_fitsAt 1 = .ok (.istore_n 3, 1) := by decide +kernel
theorem dX2_fitsAt_2 : decode cX2_fitsAt 2 = .ok (.iload_n 3, 1) := by decide +kernel
theorem dX2_fitsAt_3 : decode cX2_fitsAt 3 = .ok (.aload_n 0, 1) := by decide +kernel
theorem dX2_fitsAt_4 : decode cX2_fitsAt 4 = .ok (.getfield 18, 3) := by decide +kernel
theorem dX2_fitsAt_7 : decode cX2_fitsAt 7 = .ok (.if_icmp .ge 31, 3) := by decide +kernel
theorem dX2_fitsAt_10 : decode cX2_fitsAt 10 = .ok (.aload_n 0, 1) := by decide +kernel
theorem dX2_fitsAt_11 : decode cX2_fitsAt 11 = .ok (.getfield 9, 3) := by decide +kernel
theorem dX2_fitsAt_14 : decode cX2_fitsAt 14 = .ok (.iload_n 3, 1) := by decide +kernel
theorem dX2_fitsAt_15 : decode cX2_fitsAt 15 = .ok (.iaload, 1) := by decide +kernel
theorem dX2_fitsAt_16 : decode cX2_fitsAt 16 = .ok (.iload_n 1, 1) := by decide +kernel
theorem dX2_fitsAt_17 : decode cX2_fitsAt 17 = .ok (.if_icmp .ne 15, 3) := by decide +kernel
theorem dX2_fitsAt_20 : decode cX2_fitsAt 20 = .ok (.aload_n 0, 1) := by decide +kernel
theorem dX2_fitsAt_21 : decode cX2_fitsAt 21 = .ok (.getfield 15, 3) := by decide +kernel
theorem dX2_fitsAt_24 : decode cX2_fitsAt 24 = .ok (.iload_n 3, 1) := by decide +kernel
theorem dX2_fitsAt_25 : decode cX2_fitsAt 25 = .ok (.iaload, 1) := by decide +kernel
theorem dX2_fitsAt_26 : decode cX2_fitsAt 26 = .ok (.iload_n 2, 1) := by decide +kernel
theorem dX2_fitsAt_27 : decode cX2_fitsAt 27 = .ok (.if_icmp .eq 5, 3) := by decide +kernel
theorem dX2_fitsAt_30 : decode cX2_fitsAt 30 = .ok (.iconst 0, 1) := by decide +kernel
theorem dX2_fitsAt_31 : decode cX2_fitsAt 31 = .ok (.ireturn, 1) := by decide +kernel
theorem dX2_fitsAt_32 : decode cX2_fitsAt 32 = .ok (.iinc 3 1, 3) := by decide +kernel
theorem dX2_fitsAt_35 : decode cX2_fitsAt 35 = .ok (.goto (-33), 3) := by decide +kernel
theorem dX2_fitsAt_38 : decode cX2_fitsAt 38 = .ok (.iconst 1, 1) := by decide +kernel
theorem dX2_fitsAt_39 : decode cX2_fitsAt 39 = .ok (.ireturn, 1) := by decide +kernel
theorem dX3_init_0 : decode cX3_init 0 = .ok (.aload_n 0, 1) := by decide +kernel
theorem dX3_init_1 : decode cX3_init 1 = .ok (.invokespecial 3, 3) := by decide +kernel
theorem dX3_init_4 : decode cX3_init 4 = .ok (.aload_n 0, 1) := by decide +kernel
theorem dX3_init_5 : decode cX3_init 5 = .ok (.sipush 160, 3) := by decide +kernel
theorem dX3_init_8 : decode cX3_init 8 = .ok (.newarray .byte, 2) := by decide +kernel
theorem dX3_init_10 : decode cX3_init 10 = .ok (.putfield 11, 3) := by decide +kernel
theorem dX3_init_13 : decode cX3_init 13 = .ok (.return_, 1) := by decide +kernel
theorem dX3_append_0 : decode cX3_append 0 = .ok (.aload_n 0, 1) := by decide +kernel
theorem dX3_append_1 : decode cX3_append 1 = .ok (.getfield 15, 3) := by decide +kernel
theorem dX3_append_4 : decode cX3_append 4 = .ok (.sipush 160, 3) := by decide +kernel
theorem dX3_append_7 : decode cX3_append 7 = .ok (.if_icmp .lt 6, 3) := by decide +kernel
theorem dX3_append_10 : decode cX3_append 10 = .ok (.bipush (-3), 2) := by decide +kernel
theorem dX3_append_12 : decode cX3_append 12 = .ok (.ireturn, 1) := by decide +kernel
theorem dX3_append_13 : decode cX3_append 13 = .ok (.aload_n 0, 1) := by decide +kernel
theorem dX3_append_14 : decode cX3_append 14 = .ok (.getfield 11, 3) := by decide +kernel
theorem dX3_append_17 : decode cX3_append 17 = .ok (.aload_n 0, 1) := by decide +kernel
theorem dX3_append_18 : decode cX3_append 18 = .ok (.getfield 15, 3) := by decide +kernel
theorem dX3_append_21 : decode cX3_append 21 = .ok (.iload_n 1, 1) := by decide +kernel
theorem dX3_append_22 : decode cX3_append 22 = .ok (.i2b, 1) := by decide +kernel
theorem dX3_append_23 : decode cX3_append 23 = .ok (.bastore, 1) := by decide +kernel
theorem dX3_append_24 : decode cX3_append 24 = .ok (.aload_n 0, 1) := by decide +kernel
theorem dX3_append_25 : decode cX3_append 25 = .ok (.dup, 1) := by decide +kernel
theorem dX3_append_26 : decode cX3_append 26 = .ok (.getfield 15, 3) := by decide +kernel
theorem dX3_append_29 : decode cX3_append 29 = .ok (.iconst 1, 1) := by decide +kernel
theorem dX3_append_30 : decode cX3_append 30 = .ok (.iadd, 1) := by decide +kernel
theorem dX3_append_31 : decode cX3_append 31 = .ok (.putfield 15, 3) := by decide +kernel
theorem dX3_append_34 : decode cX3_append 34 = .ok (.aload_n 0, 1) := by decide +kernel
theorem dX3_append_35 : decode cX3_append 35 = .ok (.getfield 15, 3) := by decide +kernel
theorem dX3_append_38 : decode cX3_append 38 = .ok (.ireturn, 1) := by decide +kernel
set_option maxRecDepth 20000 in
theorem ggX3_tellTo_X3_readToken : GoodIn wsX3_tellTo wsX3_readToken := goodIn_r _ [10, 3, 1, 11, 12, 13, 5, 14, 15, 9, 16, 17, 18, 19, 20, 21, 22, 23, 24, 25, 26, 27, 28, 29, 30, 31, 32, 4, 129, 130, 131, 132, 133, 134, 135, 136, 137] (by decide +kernel) (by decide +kernel)
set_option maxRecDepth 20000 in
theorem gX3_tellTo_X3_readToken : GoodIn wsX3_tellTo (wsV RX3 31 RX3 yX3_readToken wsX3_readToken) := goodIn_app (goodIn_of _ (by decide +kernel)) ggX3_tellTo_X3_readToken
set_option maxRecDepth 20000 in
theorem ggX3_tellTo_X3_wordOfToken : GoodIn wsX3_tellTo wsX3_wordOfToken := goodIn_r _ [36, 5, 37, 38, 9, 39, 40, 41, 42, 43, 1, 13, 12, 44, 45, 46, 47, 48, 49, 50, 51, 52, 53, 54, 55, 56, 57, 58, 59, 60, 61, 62, 63, 64, 65, 66, 67, 68, 69, 70, 71, 72, 73, 74, 75, 76, 77, 78, 79, 80, 81, 82, 83, 84, 85, 86, 87, 88, 89, 90, 91, 92, 129, 130, 131, 132, 133, 134, 135, 136, 137] (by decide +kernel) (by decide +kernel)
set_option maxRecDepth 20000 in
theorem gX3_tellTo_X3_wordOfToken : GoodIn wsX3_tellTo (wsV RX3 37 RX3 yX3_wordOfToken wsX3_wordOfToken) := goodIn_app (goodIn_of _ (by decide +kernel)) ggX3_tellTo_X3_wordOfToken
set_option maxRecDepth 20000 in
theorem ggX3_tellTo_X3_fail : GoodIn wsX3_tellTo wsX3_fail := goodIn_r _ [32, 3, 13, 4, 129, 130, 131, 132, 133, 134, 135, 136, 137] (by decide +kernel) (by decide +kernel)
set_option maxRecDepth 20000 in
theorem gX3_tellTo_X3_fail : GoodIn wsX3_tellTo (wsV RX3 41 RX3 yX3_fail wsX3_fail) := goodIn_app (goodIn_of _ (by decide +kernel)) ggX3_tellTo_X3_fail
set_option maxRecDepth 20000 in
theorem ggX3_tellTo_X3_readDraw : GoodIn wsX3_tellTo wsX3_readDraw := goodIn_r _ [96, 3, 97, 98, 99, 100, 101, 29, 30, 31, 9, 32, 13, 4, 102, 103, 104, 105, 5, 28, 6, 7, 8, 10, 1, 11, 12, 14, 15, 16, 17, 18, 19, 20, 21, 22, 23, 24, 25, 26, 27, 106, 107, 108, 109, 110, 111, 112, 113, 114, 115, 116, 117, 118, 119, 120, 121, 129, 130, 131, 132, 133, 134, 135, 136, 137, 138, 139, 140, 141, 142, 143, 144] (by decide +kernel) (by decide +kernel)
set_option maxRecDepth 20000 in
theorem gX3_tellTo_X3_readDraw : GoodIn wsX3_tellTo (wsV RX3 45 RX3 yX3_readDraw wsX3_readDraw) := goodIn_app (goodIn_of _ (by decide +kernel)) ggX3_tellTo_X3_readDraw
set_option maxRecDepth 20000 in
theorem ggX3_tellTo_X3_readSetting : GoodIn wsX3_tellTo wsX3_readSetting := goodIn_r _ [125, 2, 3, 29, 30, 31, 9, 32, 13, 4, 126, 127, 128, 102, 103, 104, 105, 5, 28, 6, 7, 8, 10, 1, 11, 12, 14, 15, 16, 17, 18, 19, 20, 21, 22, 23, 24, 25, 26, 27, 106, 107, 108, 109, 110, 111, 112, 129, 130, 131, 132, 133, 134, 135, 136, 137, 138, 139, 140, 141, 142, 143, 144] (by decide +kernel) (by decide +kernel)
set_option maxRecDepth 20000 in
theorem gX3_tellTo_X3_readSetting : GoodIn wsX3_tellTo (wsV RX3 49 RX3 yX3_readSetting wsX3_readSetting) := goodIn_app (goodIn_of _ (by decide +kernel)) ggX3_tellTo_X3_readSetting
theorem dX3_tellTo_0 : decode cX3_tellTo 0 = .ok (.aload_n 0, 1) := by decide +kernel
theorem dX3_tellTo_1 : decode cX3_tellTo 1 = .ok (.iconst 0, 1) := by decide +kernel
theorem dX3_tellTo_2 : decode cX3_tellTo 2 = .ok (.putfield 19, 3) := by decide +kernel
theorem dX3_tellTo_5 : decode cX3_tellTo 5 = .ok (.aload_n 0, 1) := by decide +kernel
theorem dX3_tellTo_6 : decode cX3_tellTo 6 = .ok (.iconst 0, 1) := by decide +kernel
theorem dX3_tellTo_7 : decode cX3_tellTo 7 = .ok (.putfield 22, 3) := by decide +kernel
theorem dX3_tellTo_10 : decode cX3_tellTo 10 = .ok (.aload_n 0, 1) := by decide +kernel
theorem dX3_tellTo_11 : decode cX3_tellTo 11 = .ok (.iconst 0, 1) := by decide +kernel
theorem dX3_tellTo_12 : decode cX3_tellTo 12 = .ok (.putfield 25, 3) := by decide +kernel
theorem dX3_tellTo_15 : decode cX3_tellTo 15 = .ok (.aload_n 0, 1) := by decide +kernel
theorem dX3_tellTo_16 : decode cX3_tellTo 16 = .ok (.iconst 0, 1) := by decide +kernel
theorem dX3_tellTo_17 : decode cX3_tellTo 17 = .ok (.putfield 28, 3) := by decide +kernel
theorem dX3_tellTo_20 : decode cX3_tellTo 20 = .ok (.iconst 0, 1) := by decide +kernel
theorem dX3_tellTo_21 : decode cX3_tellTo 21 = .ok (.istore_n 2, 1) := by decide +kernel
theorem dX3_tellTo_22 : decode cX3_tellTo 22 = .ok (.aload_n 0, 1) := by decide +kernel
theorem dX3_tellTo_23 : decode cX3_tellTo 23 = .ok (.invokevirtual 31, 3) := by decide +kernel
theorem dX3_tellTo_26 : decode cX3_tellTo 26 = .ok (.aload_n 0, 1) := by decide +kernel
theorem dX3_tellTo_27 : decode cX3_tellTo 27 = .ok (.getfield 25, 3) := by decide +kernel
theorem dX3_tellTo_30 : decode cX3_tellTo 30 = .ok (.ifCond .ne 66, 3) := by decide +kernel
theorem dX3_tellTo_33 : decode cX3_tellTo 33 = .ok (.aload_n 0, 1) := by decide +kernel
theorem dX3_tellTo_34 : decode cX3_tellTo 34 = .ok (.getfield 34, 3) := by decide +kernel
theorem dX3_tellTo_37 : decode cX3_tellTo 37 = .ok (.ifCond .eq 59, 3) := by decide +kernel
theorem dX3_tellTo_40 : decode cX3_tellTo 40 = .ok (.iload_n 2, 1) := by decide +kernel
theorem dX3_tellTo_41 : decode cX3_tellTo 41 = .ok (.sipush 160, 3) := by decide +kernel
theorem dX3_tellTo_44 : decode cX3_tellTo 44 = .ok (.if_icmp .ge 52, 3) := by decide +kernel
theorem dX3_tellTo_47 : decode cX3_tellTo 47 = .ok (.aload_n 0, 1) := by decide +kernel
theorem dX3_tellTo_48 : decode cX3_tellTo 48 = .ok (.invokevirtual 37, 3) := by decide +kernel
theorem dX3_tellTo_51 : decode cX3_tellTo 51 = .ok (.istore_n 3, 1) := by decide +kernel
theorem dX3_tellTo_52 : decode cX3_tellTo 52 = .ok (.iload_n 3, 1) := by decide +kernel
theorem dX3_tellTo_53 : decode cX3_tellTo 53 = .ok (.bipush (-4), 2) := by decide +kernel
theorem dX3_tellTo_55 : decode cX3_tellTo 55 = .ok (.if_icmp .ne 11, 3) := by decide +kernel
theorem dX3_tellTo_58 : decode cX3_tellTo 58 = .ok (.aload_n 0, 1) := by decide +kernel
theorem dX3_tellTo_59 : decode cX3_tellTo 59 = .ok (.iconst 2, 1) := by decide +kernel
theorem dX3_tellTo_60 : decode cX3_tellTo 60 = .ok (.invokevirtual 41, 3) := by decide +kernel
theorem dX3_tellTo_63 : decode cX3_tellTo 63 = .ok (.goto 23, 3) := by decide +kernel
theorem dX3_tellTo_66 : decode cX3_tellTo 66 = .ok (.iload_n 3, 1) := by decide +kernel
theorem dX3_tellTo_67 : decode cX3_tellTo 67 = .ok (.iconst 4, 1) := by decide +kernel
theorem dX3_tellTo_68 : decode cX3_tellTo 68 = .ok (.if_icmp .ge 12, 3) := by decide +kernel
theorem dX3_tellTo_71 : decode cX3_tellTo 71 = .ok (.aload_n 0, 1) := by decide +kernel
theorem dX3_tellTo_72 : decode cX3_tellTo 72 = .ok (.aload_n 1, 1) := by decide +kernel
theorem dX3_tellTo_73 : decode cX3_tellTo 73 = .ok (.iload_n 3, 1) := by decide +kernel
theorem dX3_tellTo_74 : decode cX3_tellTo 74 = .ok (.invokevirtual 45, 3) := by decide +kernel
theorem dX3_tellTo_77 : decode cX3_tellTo 77 = .ok (.goto 9, 3) := by decide +kernel
theorem dX3_tellTo_80 : decode cX3_tellTo 80 = .ok (.aload_n 0, 1) := by decide +kernel
theorem dX3_tellTo_81 : decode cX3_tellTo 81 = .ok (.aload_n 1, 1) := by decide +kernel
theorem dX3_tellTo_82 : decode cX3_tellTo 82 = .ok (.iload_n 3, 1) := by decide +kernel
theorem dX3_tellTo_83 : decode cX3_tellTo 83 = .ok (.invokevirtual 49, 3) := by decide +kernel
theorem dX3_tellTo_86 : decode cX3_tellTo 86 = .ok (.iinc 2 1, 3) := by decide +kernel
theorem dX3_tellTo_89 : decode cX3_tellTo 89 = .ok (.aload_n 0, 1) := by decide +kernel
theorem dX3_tellTo_90 : decode cX3_tellTo 90 = .ok (.invokevirtual 31, 3) := by decide +kernel
theorem dX3_tellTo_93 : decode cX3_tellTo 93 = .ok (.goto (-67), 3) := by decide +kernel
theorem dX3_tellTo_96 : decode cX3_tellTo 96 = .ok (.iload_n 2, 1) := by decide +kernel
theorem dX3_tellTo_97 : decode cX3_tellTo 97 = .ok (.ireturn, 1) := by decide +kernel
set_option maxRecDepth 20000 in
theorem ggX3_readDraw_X4_isFull : GoodIn wsX3_readDraw wsX4_isFull := goodIn_r _ [5, 6, 66, 67, 68, 69, 70, 71, 72] (by decide +kernel) (by decide +kernel)
set_option maxRecDepth 20000 in
theorem gX3_readDraw_X4_isFull_n52 : GoodIn wsX3_readDraw (wsX4_isFull) := ggX3_readDraw_X4_isFull
set_option maxRecDepth 20000 in
theorem ggX3_readDraw_X3_fail : GoodIn wsX3_readDraw wsX3_fail := goodIn_r _ [11, 1, 12, 13, 57, 58, 59, 60, 61, 62, 63, 64, 65] (by decide +kernel) (by decide +kernel)
set_option maxRecDepth 20000 in
theorem gX3_readDraw_X3_fail : GoodIn wsX3_readDraw (wsV RX3 41 RX3 yX3_fail wsX3_fail) := goodIn_app (goodIn_of _ (by decide +kernel)) ggX3_readDraw_X3_fail
set_option maxRecDepth 20000 in
theorem ggX3_readDraw_X3_expectNumber : GoodIn wsX3_readDraw wsX3_expectNumber := goodIn_r _ [17, 18, 19, 20, 21, 22, 10, 23, 1, 24, 25, 26, 12, 27, 28, 29, 30, 31, 32, 33, 34, 35, 36, 37, 38, 39, 40, 7, 8, 9, 11, 13, 41, 42, 43, 57, 58, 59, 60, 61, 62, 63, 64, 65] (by decide +kernel) (by decide +kernel)
set_option maxRecDepth 20000 in
theorem gX3_readDraw_X3_expectNumber : GoodIn wsX3_readDraw (wsV RX3 65 RX3 yX3_expectNumber wsX3_expectNumber) := goodIn_app (goodIn_of _ (by decide +kernel)) ggX3_readDraw_X3_expectNumber
set_option maxRecDepth 20000 in
theorem ggX3_readDraw_X3_expectClose : GoodIn wsX3_readDraw wsX3_expectClose := goodIn_r _ [47, 18, 20, 21, 22, 10, 23, 1, 24, 25, 26, 12, 27, 28, 29, 30, 31, 32, 33, 34, 35, 36, 37, 38, 39, 40, 19, 7, 8, 9, 11, 13, 57, 58, 59, 60, 61, 62, 63, 64, 65] (by decide +kernel) (by decide +kernel)
set_option maxRecDepth 20000 in
theorem gX3_readDraw_X3_expectClose : GoodIn wsX3_readDraw (wsV RX3 69 RX3 yX3_expectClose wsX3_expectClose) := goodIn_app (goodIn_of _ (by decide +kernel)) ggX3_readDraw_X3_expectClose
set_option maxRecDepth 20000 in
theorem ggX3_readDraw_X4_addDraw : GoodIn wsX3_readDraw wsX4_addDraw := goodIn_r _ [50, 6, 51, 2, 4, 3, 5, 52, 53, 54, 55, 56, 66, 67, 68, 69, 70, 71, 72] (by decide +kernel) (by decide +kernel)
set_option maxRecDepth 20000 in
theorem gX3_readDraw_X4_addDraw_n72 : GoodIn wsX3_readDraw (wsX4_addDraw) := ggX3_readDraw_X4_addDraw
theorem dX3_readDraw_0 : decode cX3_readDraw 0 = .ok (.aload_n 1, 1) := by decide +kernel
theorem dX3_readDraw_1 : decode cX3_readDraw 1 = .ok (.invokevirtual 52, 3) := by decide +kernel
theorem dX3_readDraw_4 : decode cX3_readDraw 4 = .ok (.ifCond .eq 8, 3) := by decide +kernel
theorem dX3_readDraw_7 : decode cX3_readDraw 7 = .ok (.aload_n 0, 1) := by decide +kernel
theorem dX3_readDraw_8 : decode cX3_readDraw 8 = .ok (.iconst 5, 1) := by decide +kernel
theorem dX3_readDraw_9 : decode cX3_readDraw 9 = .ok (.invokevirtual 41, 3) := by decide +kernel
theorem dX3_readDraw_12 : decode cX3_readDraw 12 = .ok (.aload_n 0, 1) := by decide +kernel
theorem dX3_readDraw_13 : decode cX3_readDraw 13 = .ok (.getstatic 58, 3) := by decide +kernel
theorem dX3_readDraw_16 : decode cX3_readDraw 16 = .ok (.iconst 1, 1) := by decide +kernel
theorem dX3_readDraw_17 : decode cX3_readDraw 17 = .ok (.iaload, 1) := by decide +kernel
theorem dX3_readDraw_18 : decode cX3_readDraw 18 = .ok (.getstatic 62, 3) := by decide +kernel
theorem dX3_readDraw_21 : decode cX3_readDraw 21 = .ok (.iconst 1, 1) := by decide +kernel
theorem dX3_readDraw_22 : decode cX3_readDraw 22 = .ok (.iaload, 1) := by decide +kernel
theorem dX3_readDraw_23 : decode cX3_readDraw 23 = .ok (.invokevirtual 65, 3) := by decide +kernel
theorem dX3_readDraw_26 : decode cX3_readDraw 26 = .ok (.istore_n 3, 1) := by decide +kernel
theorem dX3_readDraw_27 : decode cX3_readDraw 27 = .ok (.aload_n 0, 1) := by decide +kernel
theorem dX3_readDraw_28 : decode cX3_readDraw 28 = .ok (.getstatic 58, 3) := by decide +kernel
theorem dX3_readDraw_31 : decode cX3_readDraw 31 = .ok (.iconst 2, 1) := by decide +kernel
theorem dX3_readDraw_32 : decode cX3_readDraw 32 = .ok (.iaload, 1) := by decide +kernel
theorem dX3_readDraw_33 : decode cX3_readDraw 33 = .ok (.getstatic 62, 3) := by decide +kernel
theorem dX3_readDraw_36 : decode cX3_readDraw 36 = .ok (.iconst 2, 1) := by decide +kernel
theorem dX3_readDraw_37 : decode cX3_readDraw 37 = .ok (.iaload, 1) := by decide +kernel
theorem dX3_readDraw_38 : decode cX3_readDraw 38 = .ok (.invokevirtual 65, 3) := by decide +kernel
theorem dX3_readDraw_41 : decode cX3_readDraw 41 = .ok (.istore 4, 2) := by decide +kernel
theorem dX3_readDraw_43 : decode cX3_readDraw 43 = .ok (.aload_n 0, 1) := by decide +kernel
theorem dX3_readDraw_44 : decode cX3_readDraw 44 = .ok (.getstatic 58, 3) := by decide +kernel
theorem dX3_readDraw_47 : decode cX3_readDraw 47 = .ok (.iconst 3, 1) := by decide +kernel
theorem dX3_readDraw_48 : decode cX3_readDraw 48 = .ok (.iaload, 1) := by decide +kernel
theorem dX3_readDraw_49 : decode cX3_readDraw 49 = .ok (.getstatic 62, 3) := by decide +kernel
theorem dX3_readDraw_52 : decode cX3_readDraw 52 = .ok (.iconst 3, 1) := by decide +kernel
theorem dX3_readDraw_53 : decode cX3_readDraw 53 = .ok (.iaload, 1) := by decide +kernel
theorem dX3_readDraw_54 : decode cX3_readDraw 54 = .ok (.invokevirtual 65, 3) := by decide +kernel
theorem dX3_readDraw_57 : decode cX3_readDraw 57 = .ok (.istore 5, 2) := by decide +kernel
theorem dX3_readDraw_59 : decode cX3_readDraw 59 = .ok (.aload_n 0, 1) := by decide +kernel
theorem dX3_readDraw_60 : decode cX3_readDraw 60 = .ok (.invokevirtual 69, 3) := by decide +kernel
theorem dX3_readDraw_63 : decode cX3_readDraw 63 = .ok (.aload_n 0, 1) := by decide +kernel
theorem dX3_readDraw_64 : decode cX3_readDraw 64 = .ok (.getfield 25, 3) := by decide +kernel
theorem dX3_readDraw_67 : decode cX3_readDraw 67 = .ok (.ifCond .ne 13, 3) := by decide +kernel
theorem dX3_readDraw_70 : decode cX3_readDraw 70 = .ok (.aload_n 1, 1) := by decide +kernel
theorem dX3_readDraw_71 : decode cX3_readDraw 71 = .ok (.iload_n 2, 1) := by decide +kernel
theorem dX3_readDraw_72 : decode cX3_readDraw 72 = .ok (.iload_n 3, 1) := by decide +kernel
theorem dX3_readDraw_73 : decode cX3_readDraw 73 = .ok (.iload 4, 2) := by decide +kernel
theorem dX3_readDraw_75 : decode cX3_readDraw 75 = .ok (.iload 5, 2) := by decide +kernel
theorem dX3_readDraw_77 : decode cX3_readDraw 77 = .ok (.invokevirtual 72, 3) := by decide +kernel
theorem dX3_readDraw_80 : decode cX3_readDraw 80 = .ok (.return_, 1) := by decide +kernel
set_option maxRecDepth 20000 in
theorem ggX3_readSetting_X3_fail : GoodIn wsX3_readSetting wsX3_fail := goodIn_r _ [7, 2, 8, 9, 47, 48, 49, 50, 51, 52, 53, 54, 55] (by decide +kernel) (by decide +kernel)
set_option maxRecDepth 20000 in
theorem gX3_readSetting_X3_fail : GoodIn wsX3_readSetting (wsV RX3 41 RX3 yX3_fail wsX3_fail) := goodIn_app (goodIn_of _ (by decide +kernel)) ggX3_readSetting_X3_fail
set_option maxRecDepth 20000 in
theorem ggX3_readSetting_X3_mostOfSetting : GoodIn wsX3_readSetting wsX3_mostOfSetting := goodIn_r _ [12] (by decide +kernel) (by decide +kernel)
set_option maxRecDepth 20000 in
theorem gX3_readSetting_X3_mostOfSetting : GoodIn wsX3_readSetting (va_wsS RX3 76 yX3_mostOfSetting wsX3_mostOfSetting) := goodIn_app (goodIn_of _ (by decide +kernel)) ggX3_readSetting_X3_mostOfSetting
set_option maxRecDepth 20000 in
theorem ggX3_readSetting_X3_expectNumber : GoodIn wsX3_readSetting wsX3_expectNumber := goodIn_r _ [16, 17, 18, 19, 20, 21, 6, 22, 2, 23, 24, 25, 8, 26, 27, 28, 29, 30, 31, 32, 33, 34, 35, 36, 37, 38, 39, 3, 4, 5, 7, 9, 40, 41, 42, 47, 48, 49, 50, 51, 52, 53, 54, 55] (by decide +kernel) (by decide +kernel)
set_option maxRecDepth 20000 in
theorem gX3_readSetting_X3_expectNumber : GoodIn wsX3_readSetting (wsV RX3 65 RX3 yX3_expectNumber wsX3_expectNumber) := goodIn_app (goodIn_of _ (by decide +kernel)) ggX3_readSetting_X3_expectNumber
set_option maxRecDepth 20000 in
theorem ggX3_readSetting_X3_expectClose : GoodIn wsX3_readSetting wsX3_expectClose := goodIn_r _ [46, 17, 19, 20, 21, 6, 22, 2, 23, 24, 25, 8, 26, 27, 28, 29, 30, 31, 32, 33, 34, 35, 36, 37, 38, 39, 18, 3, 4, 5, 7, 9, 47, 48, 49, 50, 51, 52, 53, 54, 55] (by decide +kernel) (by decide +kernel)
set_option maxRecDepth 20000 in
theorem gX3_readSetting_X3_expectClose : GoodIn wsX3_readSetting (wsV RX3 69 RX3 yX3_expectClose wsX3_expectClose) := goodIn_app (goodIn_of _ (by decide +kernel)) ggX3_readSetting_X3_expectClose
theorem dX3_readSetting_0 : decode cX3_readSetting 0 = .ok (.aload_n 0, 1) := by decide +kernel
theorem dX3_readSetting_1 : decode cX3_readSetting 1 = .ok (.getfield 22, 3) := by decide +kernel
theorem dX3_readSetting_4 : decode cX3_readSetting 4 = .ok (.iload_n 2, 1) := by decide +kernel
theorem dX3_readSetting_5 : decode cX3_readSetting 5 = .ok (.ishr, 1) := by decide +kernel
theorem dX3_readSetting_6 : decode cX3_readSetting 6 = .ok (.iconst 1, 1) := by decide +kernel
theorem dX3_readSetting_7 : decode cX3_readSetting 7 = .ok (.iand, 1) := by decide +kernel
theorem dX3_readSetting_8 : decode cX3_readSetting 8 = .ok (.iconst 1, 1) := by decide +kernel
theorem dX3_readSetting_9 : decode cX3_readSetting 9 = .ok (.if_icmp .ne 8, 3) := by decide +kernel
theorem dX3_readSetting_12 : decode cX3_readSetting 12 = .ok (.aload_n 0, 1) := by decide +kernel
theorem dX3_readSetting_13 : decode cX3_readSetting 13 = .ok (.iconst 4, 1) := by decide +kernel
theorem dX3_readSetting_14 : decode cX3_readSetting 14 = .ok (.invokevirtual 41, 3) := by decide +kernel
theorem dX3_readSetting_17 : decode cX3_readSetting 17 = .ok (.aload_n 0, 1) := by decide +kernel
theorem dX3_readSetting_18 : decode cX3_readSetting 18 = .ok (.dup, 1) := by decide +kernel
theorem dX3_readSetting_19 : decode cX3_readSetting 19 = .ok (.getfield 22, 3) := by decide +kernel
theorem dX3_readSetting_22 : decode cX3_readSetting 22 = .ok (.iconst 1, 1) := by decide +kernel
theorem dX3_readSetting_23 : decode cX3_readSetting 23 = .ok (.iload_n 2, 1) := by decide +kernel
theorem dX3_readSetting_24 : decode cX3_readSetting 24 = .ok (.ishl, 1) := by decide +kernel
theorem dX3_readSetting_25 : decode cX3_readSetting 25 = .ok (.ior, 1) := by decide +kernel
theorem dX3_readSetting_26 : decode cX3_readSetting 26 = .ok (.putfield 22, 3) := by decide +kernel
theorem dX3_readSetting_29 : decode cX3_readSetting 29 = .ok (.aload_n 0, 1) := by decide +kernel
theorem dX3_readSetting_30 : decode cX3_readSetting 30 = .ok (.iconst 0, 1) := by decide +kernel
theorem dX3_readSetting_31 : decode cX3_readSetting 31 = .ok (.iload_n 2, 1) := by decide +kernel
theorem dX3_readSetting_32 : decode cX3_readSetting 32 = .ok (.invokestatic 76, 3) := by decide +kernel
theorem dX3_readSetting_35 : decode cX3_readSetting 35 = .ok (.invokevirtual 65, 3) := by decide +kernel
theorem dX3_readSetting_38 : decode cX3_readSetting 38 = .ok (.istore_n 3, 1) := by decide +kernel
theorem dX3_readSetting_39 : decode cX3_readSetting 39 = .ok (.aload_n 0, 1) := by decide +kernel
theorem dX3_readSetting_40 : decode cX3_readSetting 40 = .ok (.invokevirtual 69, 3) := by decide +kernel
theorem dX3_readSetting_43 : decode cX3_readSetting 43 = .ok (.aload_n 0, 1) := by decide +kernel
theorem dX3_readSetting_44 : decode cX3_readSetting 44 = .ok (.getfield 25, 3) := by decide +kernel
theorem dX3_readSetting_47 : decode cX3_readSetting 47 = .ok (.ifCond .eq 4, 3) := by decide +kernel
theorem dX3_readSetting_50 : decode cX3_readSetting 50 = .ok (.return_, 1) := by decide +kernel
theorem dX3_readSetting_51 : decode cX3_readSetting 51 = .ok (.iload_n 2, 1) := by decide +kernel
theorem dX3_readSetting_52 : decode cX3_readSetting 52 = .ok (.iconst 4, 1) := by decide +kernel
theorem dX3_readSetting_53 : decode cX3_readSetting 53 = .ok (.if_icmp .ne 16, 3) := by decide +kernel
theorem dX3_readSetting_56 : decode cX3_readSetting 56 = .ok (.aload_n 1, 1) := by decide +kernel
theorem dX3_readSetting_57 : decode cX3_readSetting 57 = .ok (.iload_n 3, 1) := by decide +kernel
theorem dX3_readSetting_58 : decode cX3_readSetting 58 = .ok (.putfield 80, 3) := by decide +kernel
theorem dX3_readSetting_61 : decode cX3_readSetting 61 = .ok (.aload_n 1, 1) := by decide +kernel
theorem dX3_readSetting_62 : decode cX3_readSetting 62 = .ok (.iload_n 3, 1) := by decide +kernel
theorem dX3_readSetting_63 : decode cX3_readSetting 63 = .ok (.putfield 83, 3) := by decide +kernel
theorem dX3_readSetting_66 : decode cX3_readSetting 66 = .ok (.goto 21, 3) := by decide +kernel
theorem dX3_readSetting_69 : decode cX3_readSetting 69 = .ok (.iload_n 2, 1) := by decide +kernel
theorem dX3_readSetting_70 : decode cX3_readSetting 70 = .ok (.iconst 5, 1) := by decide +kernel
theorem dX3_readSetting_71 : decode cX3_readSetting 71 = .ok (.if_icmp .ne 11, 3) := by decide +kernel
theorem dX3_readSetting_74 : decode cX3_readSetting 74 = .ok (.aload_n 1, 1) := by decide +kernel
theorem dX3_readSetting_75 : decode cX3_readSetting 75 = .ok (.iload_n 3, 1) := by decide +kernel
theorem dX3_readSetting_76 : decode cX3_readSetting 76 = .ok (.putfield 86, 3) := by decide +kernel
theorem dX3_readSetting_79 : decode cX3_readSetting 79 = .ok (.goto 8, 3) := by decide +kernel
theorem dX3_readSetting_82 : decode cX3_readSetting 82 = .ok (.aload_n 1, 1) := by decide +kernel
theorem dX3_readSetting_83 : decode cX3_readSetting 83 = .ok (.iload_n 3, 1) := by decide +kernel
theorem dX3_readSetting_84 : decode cX3_readSetting 84 = .ok (.putfield 89, 3) := by decide +kernel
theorem dX3_readSetting_87 : decode cX3_readSetting 87 = .ok (.return_, 1) := by decide +kernel
theorem dX3_mostOfSetting_0 : decode cX3_mostOfSetting 0 = .ok (.iload_n 0, 1) := by decide +kernel
theorem dX3_mostOfSetting_1 : decode cX3_mostOfSetting 1 = .ok (.lookupswitch 33 #[(4, 27), (5, 30)], 27) := by decide +kernel
theorem dX3_mostOfSetting_28 : decode cX3_mostOfSetting 28 = .ok (.bipush 99, 2) := by decide +kernel
theorem dX3_mostOfSetting_30 : decode cX3_mostOfSetting 30 = .ok (.ireturn, 1) := by decide +kernel
theorem dX3_mostOfSetting_31 : decode cX3_mostOfSetting 31 = .ok (.bipush 20, 2) := by decide +kernel
theorem dX3_mostOfSetting_33 : decode cX3_mostOfSetting 33 = .ok (.ireturn, 1) := by decide +kernel
theorem dX3_mostOfSetting_34 : decode cX3_mostOfSetting 34 = .ok (.bipush 18, 2) := by decide +kernel
theorem dX3_mostOfSetting_36 : decode cX3_mostOfSetting 36 = .ok (.ireturn, 1) := by decide +kernel
set_option maxRecDepth 20000 in
theorem ggX3_expectNumber_X3_readToken : GoodIn wsX3_expectNumber wsX3_readToken := goodIn_r _ [7, 8, 9, 10, 11, 12, 1, 13, 14, 6, 15, 16, 17, 18, 19, 20, 21, 22, 23, 24, 25, 26, 2, 27, 28, 29, 30, 31, 35, 36, 37, 38, 39, 40, 41, 42, 43] (by decide +kernel) (by decide +kernel)
set_option maxRecDepth 20000 in
theorem gX3_expectNumber_X3_readToken : GoodIn wsX3_expectNumber (wsV RX3 31 RX3 yX3_readToken wsX3_readToken) := goodIn_app (goodIn_of _ (by decide +kernel)) ggX3_expectNumber_X3_readToken
set_option maxRecDepth 20000 in
theorem ggX3_expectNumber_X3_fail : GoodIn wsX3_expectNumber wsX3_fail := goodIn_r _ [30, 8, 12, 31, 35, 36, 37, 38, 39, 40, 41, 42, 43] (by decide +kernel) (by decide +kernel)
set_option maxRecDepth 20000 in
theorem gX3_expectNumber_X3_fail : GoodIn wsX3_expectNumber (wsV RX3 41 RX3 yX3_fail wsX3_fail) := goodIn_app (goodIn_of _ (by decide +kernel)) ggX3_expectNumber_X3_fail
set_option maxRecDepth 20000 in
theorem ggX3_expectNumber_X5_within : GoodIn wsX3_expectNumber wsX5_within := goodIn_r _ [34] (by decide +kernel) (by decide +kernel)
set_option maxRecDepth 20000 in
theorem gX3_expectNumber_X5_within_n95 : GoodIn wsX3_expectNumber (wsX5_within) := ggX3_expectNumber_X5_within
theorem dX3_expectNumber_0 : decode cX3_expectNumber 0 = .ok (.aload_n 0, 1) := by decide +kernel
theorem dX3_expectNumber_1 : decode cX3_expectNumber 1 = .ok (.invokevirtual 31, 3) := by decide +kernel
theorem dX3_expectNumber_4 : decode cX3_expectNumber 4 = .ok (.aload_n 0, 1) := by decide +kernel
theorem dX3_expectNumber_5 : decode cX3_expectNumber 5 = .ok (.getfield 34, 3) := by decide +kernel
theorem dX3_expectNumber_8 : decode cX3_expectNumber 8 = .ok (.iconst 2, 1) := by decide +kernel
theorem dX3_expectNumber_9 : decode cX3_expectNumber 9 = .ok (.if_icmp .eq 11, 3) := by decide +kernel
theorem dX3_expectNumber_12 : decode cX3_expectNumber 12 = .ok (.aload_n 0, 1) := by decide +kernel
theorem dX3_expectNumber_13 : decode cX3_expectNumber 13 = .ok (.iconst 2, 1) := by decide +kernel
theorem dX3_expectNumber_14 : decode cX3_expectNumber 14 = .ok (.invokevirtual 41, 3) := by decide +kernel
theorem dX3_expectNumber_17 : decode cX3_expectNumber 17 = .ok (.goto 20, 3) := by decide +kernel
theorem dX3_expectNumber_20 : decode cX3_expectNumber 20 = .ok (.aload_n 0, 1) := by decide +kernel
theorem dX3_expectNumber_21 : decode cX3_expectNumber 21 = .ok (.getfield 92, 3) := by decide +kernel
theorem dX3_expectNumber_24 : decode cX3_expectNumber 24 = .ok (.iload_n 1, 1) := by decide +kernel
theorem dX3_expectNumber_25 : decode cX3_expectNumber 25 = .ok (.iload_n 2, 1) := by decide +kernel
theorem dX3_expectNumber_26 : decode cX3_expectNumber 26 = .ok (.invokestatic 95, 3) := by decide +kernel
theorem dX3_expectNumber_29 : decode cX3_expectNumber 29 = .ok (.ifCond .ne 8, 3) := by decide +kernel
theorem dX3_expectNumber_32 : decode cX3_expectNumber 32 = .ok (.aload_n 0, 1) := by decide +kernel
theorem dX3_expectNumber_33 : decode cX3_expectNumber 33 = .ok (.iconst 3, 1) := by decide +kernel
theorem dX3_expectNumber_34 : decode cX3_expectNumber 34 = .ok (.invokevirtual 41, 3) := by decide +kernel
theorem dX3_expectNumber_37 : decode cX3_expectNumber 37 = .ok (.aload_n 0, 1) := by decide +kernel
theorem dX3_expectNumber_38 : decode cX3_expectNumber 38 = .ok (.getfield 92, 3) := by decide +kernel
theorem dX3_expectNumber_41 : decode cX3_expectNumber 41 = .ok (.ireturn, 1) := by decide +kernel
set_option maxRecDepth 20000 in
theorem ggX3_expectClose_X3_readToken : GoodIn wsX3_expectClose wsX3_readToken := goodIn_r _ [6, 7, 8, 9, 10, 11, 1, 12, 13, 5, 14, 15, 16, 17, 18, 19, 20, 21, 22, 23, 24, 25, 26, 27, 28, 29, 30, 31, 32, 33, 34, 35, 36, 37, 38, 39, 40] (by decide +kernel) (by decide +kernel)
set_option maxRecDepth 20000 in
theorem gX3_expectClose_X3_readToken : GoodIn wsX3_expectClose (wsV RX3 31 RX3 yX3_readToken wsX3_readToken) := goodIn_app (goodIn_of _ (by decide +kernel)) ggX3_expectClose_X3_readToken
set_option maxRecDepth 20000 in
theorem ggX3_expectClose_X3_fail : GoodIn wsX3_expectClose wsX3_fail := goodIn_r _ [30, 7, 11, 31, 32, 33, 34, 35, 36, 37, 38, 39, 40] (by decide +kernel) (by decide +kernel)
set_option maxRecDepth 20000 in
theorem gX3_expectClose_X3_fail : GoodIn wsX3_expectClose (wsV RX3 41 RX3 yX3_fail wsX3_fail) := goodIn_app (goodIn_of _ (by decide +kernel)) ggX3_expectClose_X3_fail
theorem dX3_expectClose_0 : decode cX3_expectClose 0 = .ok (.aload_n 0, 1) := by decide +kernel
theorem dX3_expectClose_1 : decode cX3_expectClose 1 = .ok (.invokevirtual 31, 3) := by decide +kernel
theorem dX3_expectClose_4 : decode cX3_expectClose 4 = .ok (.aload_n 0, 1) := by decide +kernel
theorem dX3_expectClose_5 : decode cX3_expectClose 5 = .ok (.getfield 34, 3) := by decide +kernel
theorem dX3_expectClose_8 : decode cX3_expectClose 8 = .ok (.iconst 3, 1) := by decide +kernel
theorem dX3_expectClose_9 : decode cX3_expectClose 9 = .ok (.if_icmp .eq 8, 3) := by decide +kernel
theorem dX3_expectClose_12 : decode cX3_expectClose 12 = .ok (.aload_n 0, 1) := by decide +kernel
theorem dX3_expectClose_13 : decode cX3_expectClose 13 = .ok (.iconst 2, 1) := by decide +kernel
theorem dX3_expectClose_14 : decode cX3_expectClose 14 = .ok (.invokevirtual 41, 3) := by decide +kernel
theorem dX3_expectClose_17 : decode cX3_expectClose 17 = .ok (.return_, 1) := by decide +kernel
theorem dX3_fail_0 : decode cX3_fail 0 = .ok (.aload_n 0, 1) := by decide +kernel
theorem dX3_fail_1 : decode cX3_fail 1 = .ok (.getfield 25, 3) := by decide +kernel
theorem dX3_fail_4 : decode cX3_fail 4 = .ok (.ifCond .ne 16, 3) := by decide +kernel
theorem dX3_fail_7 : decode cX3_fail 7 = .ok (.aload_n 0, 1) := by decide +kernel
theorem dX3_fail_8 : decode cX3_fail 8 = .ok (.iload_n 1, 1) := by decide +kernel
theorem dX3_fail_9 : decode cX3_fail 9 = .ok (.putfield 25, 3) := by decide +kernel
theorem dX3_fail_12 : decode cX3_fail 12 = .ok (.aload_n 0, 1) := by decide +kernel
theorem dX3_fail_13 : decode cX3_fail 13 = .ok (.aload_n 0, 1) := by decide +kernel
theorem dX3_fail_14 : decode cX3_fail 14 = .ok (.getfield 99, 3) := by decide +kernel
theorem dX3_fail_17 : decode cX3_fail 17 = .ok (.putfield 28, 3) := by decide +kernel
theorem dX3_fail_20 : decode cX3_fail 20 = .ok (.return_, 1) := by decide +kernel
set_option maxRecDepth 20000 in
theorem ggX3_readToken_X3_isLetter : GoodIn wsX3_readToken wsX3_isLetter := goodIn_r _ [10] (by decide +kernel) (by decide +kernel)
set_option maxRecDepth 20000 in
theorem gX3_readToken_X3_isLetter : GoodIn wsX3_readToken (va_wsS RX3 102 yX3_isLetter wsX3_isLetter) := goodIn_app (goodIn_of _ (by decide +kernel)) ggX3_readToken_X3_isLetter
set_option maxRecDepth 20000 in
theorem ggX3_readToken_X3_readName : GoodIn wsX3_readToken wsX3_readName := goodIn_r _ [14, 6, 2, 3, 4, 7, 8, 9, 10, 28, 29, 30, 31, 32, 33, 34, 35, 36] (by decide +kernel) (by decide +kernel)
set_option maxRecDepth 20000 in
theorem gX3_readToken_X3_readName : GoodIn wsX3_readToken (wsV RX3 106 RX3 yX3_readName wsX3_readName) := goodIn_app (goodIn_of _ (by decide +kernel)) ggX3_readToken_X3_readName
set_option maxRecDepth 20000 in
theorem ggX3_readToken_X3_isFigure : GoodIn wsX3_readToken wsX3_isFigure := goodIn_r _ [17] (by decide +kernel) (by decide +kernel)
set_option maxRecDepth 20000 in
theorem gX3_readToken_X3_isFigure : GoodIn wsX3_readToken (va_wsS RX3 109 yX3_isFigure wsX3_isFigure) := goodIn_app (goodIn_of _ (by decide +kernel)) ggX3_readToken_X3_isFigure
set_option maxRecDepth 20000 in
theorem ggX3_readToken_X3_readNumber : GoodIn wsX3_readToken wsX3_readNumber := goodIn_r _ [21, 6, 22, 2, 3, 4, 5, 15, 16, 9, 17, 23, 24, 25, 26, 1, 27, 28, 29, 30, 31, 32, 33, 34, 35, 36] (by decide +kernel) (by decide +kernel)
set_option maxRecDepth 20000 in
theorem gX3_readToken_X3_readNumber : GoodIn wsX3_readToken (wsV RX3 112 RX3 yX3_readNumber wsX3_readNumber) := goodIn_app (goodIn_of _ (by decide +kernel)) ggX3_readToken_X3_readNumber
set_option maxRecDepth 20000 in
theorem ggX3_readToken_X3_fail : GoodIn wsX3_readToken wsX3_fail := goodIn_r _ [26, 1, 5, 27, 28, 29, 30, 31, 32, 33, 34, 35, 36] (by decide +kernel) (by decide +kernel)
set_option maxRecDepth 20000 in
theorem gX3_readToken_X3_fail : GoodIn wsX3_readToken (wsV RX3 41 RX3 yX3_fail wsX3_fail) := goodIn_app (goodIn_of _ (by decide +kernel)) ggX3_readToken_X3_fail
theorem dX3_readToken_0 : decode cX3_readToken 0 = .ok (.aload_n 0, 1) := by decide +kernel
theorem dX3_readToken_1 : decode cX3_readToken 1 = .ok (.getfield 25, 3) := by decide +kernel
theorem dX3_readToken_4 : decode cX3_readToken 4 = .ok (.ifCond .eq 4, 3) := by decide +kernel
theorem dX3_readToken_7 : decode cX3_readToken 7 = .ok (.return_, 1) := by decide +kernel
theorem dX3_readToken_8 : decode cX3_readToken 8 = .ok (.aload_n 0, 1) := by decide +kernel
theorem dX3_readToken_9 : decode cX3_readToken 9 = .ok (.getfield 19, 3) := by decide +kernel
theorem dX3_readToken_12 : decode cX3_readToken 12 = .ok (.aload_n 0, 1) := by decide +kernel
theorem dX3_readToken_13 : decode cX3_readToken 13 = .ok (.getfield 15, 3) := by decide +kernel
theorem dX3_readToken_16 : decode cX3_readToken 16 = .ok (.if_icmp .ge 30, 3) := by decide +kernel
theorem dX3_readToken_19 : decode cX3_readToken 19 = .ok (.aload_n 0, 1) := by decide +kernel
theorem dX3_readToken_20 : decode cX3_readToken 20 = .ok (.getfield 11, 3) := by decide +kernel
theorem dX3_readToken_23 : decode cX3_readToken 23 = .ok (.aload_n 0, 1) := by decide +kernel
theorem dX3_readToken_24 : decode cX3_readToken 24 = .ok (.getfield 19, 3) := by decide +kernel
theorem dX3_readToken_27 : decode cX3_readToken 27 = .ok (.baload, 1) := by decide +kernel
theorem dX3_readToken_28 : decode cX3_readToken 28 = .ok (.bipush 32, 2) := by decide +kernel
theorem dX3_readToken_30 : decode cX3_readToken 30 = .ok (.if_icmp .ne 16, 3) := by decide +kernel
theorem dX3_readToken_33 : decode cX3_readToken 33 = .ok (.aload_n 0, 1) := by decide +kernel
theorem dX3_readToken_34 : decode cX3_readToken 34 = .ok (.dup, 1) := by decide +kernel
theorem dX3_readToken_35 : decode cX3_readToken 35 = .ok (.getfield 19, 3) := by decide +kernel
theorem dX3_readToken_38 : decode cX3_readToken 38 = .ok (.iconst 1, 1) := by decide +kernel
theorem dX3_readToken_39 : decode cX3_readToken 39 = .ok (.iadd, 1) := by decide +kernel
theorem dX3_readToken_40 : decode cX3_readToken 40 = .ok (.putfield 19, 3) := by decide +kernel
theorem dX3_readToken_43 : decode cX3_readToken 43 = .ok (.goto (-35), 3) := by decide +kernel
theorem dX3_readToken_46 : decode cX3_readToken 46 = .ok (.aload_n 0, 1) := by decide +kernel
theorem dX3_readToken_47 : decode cX3_readToken 47 = .ok (.aload_n 0, 1) := by decide +kernel
theorem dX3_readToken_48 : decode cX3_readToken 48 = .ok (.getfield 19, 3) := by decide +kernel
theorem dX3_readToken_51 : decode cX3_readToken 51 = .ok (.putfield 99, 3) := by decide +kernel
theorem dX3_readToken_54 : decode cX3_readToken 54 = .ok (.aload_n 0, 1) := by decide +kernel
theorem dX3_readToken_55 : decode cX3_readToken 55 = .ok (.getfield 19, 3) := by decide +kernel
theorem dX3_readToken_58 : decode cX3_readToken 58 = .ok (.aload_n 0, 1) := by decide +kernel
theorem dX3_readToken_59 : decode cX3_readToken 59 = .ok (.getfield 15, 3) := by decide +kernel
theorem dX3_readToken_62 : decode cX3_readToken 62 = .ok (.if_icmp .lt 11, 3) := by decide +kernel
theorem dX3_readToken_65 : decode cX3_readToken 65 = .ok (.aload_n 0, 1) := by decide +kernel
theorem dX3_readToken_66 : decode cX3_readToken 66 = .ok (.iconst 0, 1) := by decide +kernel
theorem dX3_readToken_67 : decode cX3_readToken 67 = .ok (.putfield 34, 3) := by decide +kernel
theorem dX3_readToken_70 : decode cX3_readToken 70 = .ok (.goto 84, 3) := by decide +kernel
theorem dX3_readToken_73 : decode cX3_readToken 73 = .ok (.aload_n 0, 1) := by decide +kernel
theorem dX3_readToken_74 : decode cX3_readToken 74 = .ok (.getfield 11, 3) := by decide +kernel
theorem dX3_readToken_77 : decode cX3_readToken 77 = .ok (.aload_n 0, 1) := by decide +kernel
theorem dX3_readToken_78 : decode cX3_readToken 78 = .ok (.getfield 19, 3) := by decide +kernel
theorem dX3_readToken_81 : decode cX3_readToken 81 = .ok (.baload, 1) := by decide +kernel
theorem dX3_readToken_82 : decode cX3_readToken 82 = .ok (.invokestatic 102, 3) := by decide +kernel
theorem dX3_readToken_85 : decode cX3_readToken 85 = .ok (.ifCond .eq 10, 3) := by decide +kernel
theorem dX3_readToken_88 : decode cX3_readToken 88 = .ok (.aload_n 0, 1) := by decide +kernel
theorem dX3_readToken_89 : decode cX3_readToken 89 = .ok (.invokevirtual 106, 3) := by decide +kernel
theorem dX3_readToken_92 : decode cX3_readToken 92 = .ok (.goto 62, 3) := by decide +kernel
theorem dX3_readToken_95 : decode cX3_readToken 95 = .ok (.aload_n 0, 1) := by decide +kernel
theorem dX3_readToken_96 : decode cX3_readToken 96 = .ok (.getfield 11, 3) := by decide +kernel
theorem dX3_readToken_99 : decode cX3_readToken 99 = .ok (.aload_n 0, 1) := by decide +kernel
theorem dX3_readToken_100 : decode cX3_readToken 100 = .ok (.getfield 19, 3) := by decide +kernel
theorem dX3_readToken_103 : decode cX3_readToken 103 = .ok (.baload, 1) := by decide +kernel
theorem dX3_readToken_104 : decode cX3_readToken 104 = .ok (.invokestatic 109, 3) := by decide +kernel
theorem dX3_readToken_107 : decode cX3_readToken 107 = .ok (.ifCond .eq 10, 3) := by decide +kernel
theorem dX3_readToken_110 : decode cX3_readToken 110 = .ok (.aload_n 0, 1) := by decide +kernel
theorem dX3_readToken_111 : decode cX3_readToken 111 = .ok (.invokevirtual 112, 3) := by decide +kernel
theorem dX3_readToken_114 : decode cX3_readToken 114 = .ok (.goto 40, 3) := by decide +kernel
theorem dX3_readToken_117 : decode cX3_readToken 117 = .ok (.aload_n 0, 1) := by decide +kernel
theorem dX3_readToken_118 : decode cX3_readToken 118 = .ok (.getfield 11, 3) := by decide +kernel
theorem dX3_readToken_121 : decode cX3_readToken 121 = .ok (.aload_n 0, 1) := by decide +kernel
theorem dX3_readToken_122 : decode cX3_readToken 122 = .ok (.getfield 19, 3) := by decide +kernel
theorem dX3_readToken_125 : decode cX3_readToken 125 = .ok (.baload, 1) := by decide +kernel
theorem dX3_readToken_126 : decode cX3_readToken 126 = .ok (.bipush 59, 2) := by decide +kernel
theorem dX3_readToken_128 : decode cX3_readToken 128 = .ok (.if_icmp .ne 21, 3) := by decide +kernel
theorem dX3_readToken_131 : decode cX3_readToken 131 = .ok (.aload_n 0, 1) := by decide +kernel
theorem dX3_readToken_132 : decode cX3_readToken 132 = .ok (.iconst 3, 1) := by decide +kernel
theorem dX3_readToken_133 : decode cX3_readToken 133 = .ok (.putfield 34, 3) := by decide +kernel
theorem dX3_readToken_136 : decode cX3_readToken 136 = .ok (.aload_n 0, 1) := by decide +kernel
theorem dX3_readToken_137 : decode cX3_readToken 137 = .ok (.dup, 1) := by decide +kernel
theorem dX3_readToken_138 : decode cX3_readToken 138 = .ok (.getfield 19, 3) := by decide +kernel
theorem dX3_readToken_141 : decode cX3_readToken 141 = .ok (.iconst 1, 1) := by decide +kernel
theorem dX3_readToken_142 : decode cX3_readToken 142 = .ok (.iadd, 1) := by decide +kernel
theorem dX3_readToken_143 : decode cX3_readToken 143 = .ok (.putfield 19, 3) := by decide +kernel
theorem dX3_readToken_146 : decode cX3_readToken 146 = .ok (.goto 8, 3) := by decide +kernel
theorem dX3_readToken_149 : decode cX3_readToken 149 = .ok (.aload_n 0, 1) := by decide +kernel
theorem dX3_readToken_150 : decode cX3_readToken 150 = .ok (.iconst 1, 1) := by decide +kernel
theorem dX3_readToken_151 : decode cX3_readToken 151 = .ok (.invokevirtual 41, 3) := by decide +kernel
theorem dX3_readToken_154 : decode cX3_readToken 154 = .ok (.return_, 1) := by decide +kernel
set_option maxRecDepth 20000 in
theorem ggX3_readName_X3_isLetter : GoodIn wsX3_readName wsX3_isLetter := goodIn_r _ [8] (by decide +kernel) (by decide +kernel)
set_option maxRecDepth 20000 in
theorem gX3_readName_X3_isLetter : GoodIn wsX3_readName (va_wsS RX3 102 yX3_isLetter wsX3_isLetter) := goodIn_app (goodIn_of _ (by decide +kernel)) ggX3_readName_X3_isLetter
theorem dX3_readName_0 : decode cX3_readName 0 = .ok (.aload_n 0, 1) := by decide +kernel
theorem dX3_readName_1 : decode cX3_readName 1 = .ok (.iconst 1, 1) := by decide +kernel
theorem dX3_readName_2 : decode cX3_readName 2 = .ok (.putfield 34, 3) := by decide +kernel
theorem dX3_readName_5 : decode cX3_readName 5 = .ok (.aload_n 0, 1) := by decide +kernel
theorem dX3_readName_6 : decode cX3_readName 6 = .ok (.getfield 19, 3) := by decide +kernel
theorem dX3_readName_9 : decode cX3_readName 9 = .ok (.aload_n 0, 1) := by decide +kernel
theorem dX3_readName_10 : decode cX3_readName 10 = .ok (.getfield 15, 3) := by decide +kernel
theorem dX3_readName_13 : decode cX3_readName 13 = .ok (.if_icmp .ge 31, 3) := by decide +kernel
theorem dX3_readName_16 : decode cX3_readName 16 = .ok (.aload_n 0, 1) := by decide +kernel
theorem dX3_readName_17 : decode cX3_readName 17 = .ok (.getfield 11, 3) := by decide +kernel
theorem dX3_readName_20 : decode cX3_readName 20 = .ok (.aload_n 0, 1) := by decide +kernel
theorem dX3_readName_21 : decode cX3_readName 21 = .ok (.getfield 19, 3) := by decide +kernel
theorem dX3_readName_24 : decode cX3_readName 24 = .ok (.baload, 1) := by decide +kernel
theorem dX3_readName_25 : decode cX3_readName 25 = .ok (.invokestatic 102, 3) := by decide +kernel
theorem dX3_readName_28 : decode cX3_readName 28 = .ok (.ifCond .eq 16, 3) := by decide +kernel
theorem dX3_readName_31 : decode cX3_readName 31 = .ok (.aload_n 0, 1) := by decide +kernel
theorem dX3_readName_32 : decode cX3_readName 32 = .ok (.dup, 1) := by decide +kernel
theorem dX3_readName_33 : decode cX3_readName 33 = .ok (.getfield 19, 3) := by decide +kernel
theorem dX3_readName_36 : decode cX3_readName 36 = .ok (.iconst 1, 1) := by decide +kernel
theorem dX3_readName_37 : decode cX3_readName 37 = .ok (.iadd, 1) := by decide +kernel
theorem dX3_readName_38 : decode cX3_readName 38 = .ok (.putfield 19, 3) := by decide +kernel
theorem dX3_readName_41 : decode cX3_readName 41 = .ok (.goto (-36), 3) := by decide +kernel
theorem dX3_readName_44 : decode cX3_readName 44 = .ok (.return_, 1) := by decide +kernel
set_option maxRecDepth 20000 in
theorem ggX3_readNumber_X3_isFigure : GoodIn wsX3_readNumber wsX3_isFigure := goodIn_r _ [10] (by decide +kernel) (by decide +kernel)
set_option maxRecDepth 20000 in
theorem gX3_readNumber_X3_isFigure : GoodIn wsX3_readNumber (va_wsS RX3 109 yX3_isFigure wsX3_isFigure) := goodIn_app (goodIn_of _ (by decide +kernel)) ggX3_readNumber_X3_isFigure
set_option maxRecDepth 20000 in
theorem ggX3_readNumber_X3_fail : GoodIn wsX3_readNumber wsX3_fail := goodIn_r _ [14, 15, 6, 16, 17, 18, 19, 20, 21, 22, 23, 24, 25] (by decide +kernel) (by decide +kernel)
set_option maxRecDepth 20000 in
theorem gX3_readNumber_X3_fail : GoodIn wsX3_readNumber (wsV RX3 41 RX3 yX3_fail wsX3_fail) := goodIn_app (goodIn_of _ (by decide +kernel)) ggX3_readNumber_X3_fail
theorem dX3_readNumber_0 : decode cX3_readNumber 0 = .ok (.aload_n 0, 1) := by decide +kernel
theorem dX3_readNumber_1 : decode cX3_readNumber 1 = .ok (.iconst 2, 1) := by decide +kernel
theorem dX3_readNumber_2 : decode cX3_readNumber 2 = .ok (.putfield 34, 3) := by decide +kernel
theorem dX3_readNumber_5 : decode cX3_readNumber 5 = .ok (.aload_n 0, 1) := by decide +kernel
theorem dX3_readNumber_6 : decode cX3_readNumber 6 = .ok (.iconst 0, 1) := by decide +kernel
theorem dX3_readNumber_7 : decode cX3_readNumber 7 = .ok (.putfield 92, 3) := by decide +kernel
theorem dX3_readNumber_10 : decode cX3_readNumber 10 = .ok (.aload_n 0, 1) := by decide +kernel
theorem dX3_readNumber_11 : decode cX3_readNumber 11 = .ok (.getfield 19, 3) := by decide +kernel
theorem dX3_readNumber_14 : decode cX3_readNumber 14 = .ok (.aload_n 0, 1) := by decide +kernel
theorem dX3_readNumber_15 : decode cX3_readNumber 15 = .ok (.getfield 15, 3) := by decide +kernel
theorem dX3_readNumber_18 : decode cX3_readNumber 18 = .ok (.if_icmp .ge 55, 3) := by decide +kernel
theorem dX3_readNumber_21 : decode cX3_readNumber 21 = .ok (.aload_n 0, 1) := by decide +kernel
theorem dX3_readNumber_22 : decode cX3_readNumber 22 = .ok (.getfield 11, 3) := by decide +kernel
theorem dX3_readNumber_25 : decode cX3_readNumber 25 = .ok (.aload_n 0, 1) := by decide +kernel
theorem dX3_readNumber_26 : decode cX3_readNumber 26 = .ok (.getfield 19, 3) := by decide +kernel
theorem dX3_readNumber_29 : decode cX3_readNumber 29 = .ok (.baload, 1) := by decide +kernel
theorem dX3_readNumber_30 : decode cX3_readNumber 30 = .ok (.invokestatic 109, 3) := by decide +kernel
theorem dX3_readNumber_33 : decode cX3_readNumber 33 = .ok (.ifCond .eq 40, 3) := by decide +kernel
theorem dX3_readNumber_36 : decode cX3_readNumber 36 = .ok (.aload_n 0, 1) := by decide +kernel
theorem dX3_readNumber_37 : decode cX3_readNumber 37 = .ok (.bipush 10, 2) := by decide +kernel
theorem dX3_readNumber_39 : decode cX3_readNumber 39 = .ok (.aload_n 0, 1) := by decide +kernel
theorem dX3_readNumber_40 : decode cX3_readNumber 40 = .ok (.getfield 92, 3) := by decide +kernel
theorem dX3_readNumber_43 : decode cX3_readNumber 43 = .ok (.imul, 1) := by decide +kernel
theorem dX3_readNumber_44 : decode cX3_readNumber 44 = .ok (.aload_n 0, 1) := by decide +kernel
theorem dX3_readNumber_45 : decode cX3_readNumber 45 = .ok (.getfield 11, 3) := by decide +kernel
theorem dX3_readNumber_48 : decode cX3_readNumber 48 = .ok (.aload_n 0, 1) := by decide +kernel
theorem dX3_readNumber_49 : decode cX3_readNumber 49 = .ok (.getfield 19, 3) := by decide +kernel
theorem dX3_readNumber_52 : decode cX3_readNumber 52 = .ok (.baload, 1) := by decide +kernel
theorem dX3_readNumber_53 : decode cX3_readNumber 53 = .ok (.iadd, 1) := by decide +kernel
theorem dX3_readNumber_54 : decode cX3_readNumber 54 = .ok (.bipush 48, 2) := by decide +kernel
theorem dX3_readNumber_56 : decode cX3_readNumber 56 = .ok (.isub, 1) := by decide +kernel
theorem dX3_readNumber_57 : decode cX3_readNumber 57 = .ok (.putfield 92, 3) := by decide +kernel
theorem dX3_readNumber_60 : decode cX3_readNumber 60 = .ok (.aload_n 0, 1) := by decide +kernel
theorem dX3_readNumber_61 : decode cX3_readNumber 61 = .ok (.dup, 1) := by decide +kernel
theorem dX3_readNumber_62 : decode cX3_readNumber 62 = .ok (.getfield 19, 3) := by decide +kernel
theorem dX3_readNumber_65 : decode cX3_readNumber 65 = .ok (.iconst 1, 1) := by decide +kernel
theorem dX3_readNumber_66 : decode cX3_readNumber 66 = .ok (.iadd, 1) := by decide +kernel
theorem dX3_readNumber_67 : decode cX3_readNumber 67 = .ok (.putfield 19, 3) := by decide +kernel
theorem dX3_readNumber_70 : decode cX3_readNumber 70 = .ok (.goto (-60), 3) := by decide +kernel
theorem dX3_readNumber_73 : decode cX3_readNumber 73 = .ok (.aload_n 0, 1) := by decide +kernel
theorem dX3_readNumber_74 : decode cX3_readNumber 74 = .ok (.getfield 19, 3) := by decide +kernel
theorem dX3_readNumber_77 : decode cX3_readNumber 77 = .ok (.aload_n 0, 1) := by decide +kernel
theorem dX3_readNumber_78 : decode cX3_readNumber 78 = .ok (.getfield 99, 3) := by decide +kernel
theorem dX3_readNumber_81 : decode cX3_readNumber 81 = .ok (.isub, 1) := by decide +kernel
theorem dX3_readNumber_82 : decode cX3_readNumber 82 = .ok (.iconst 2, 1) := by decide +kernel
theorem dX3_readNumber_83 : decode cX3_readNumber 83 = .ok (.if_icmp .le 8, 3) := by decide +kernel
theorem dX3_readNumber_86 : decode cX3_readNumber 86 = .ok (.aload_n 0, 1) := by decide +kernel
theorem dX3_readNumber_87 : decode cX3_readNumber 87 = .ok (.iconst 1, 1) := by decide +kernel
theorem dX3_readNumber_88 : decode cX3_readNumber 88 = .ok (.invokevirtual 41, 3) := by decide +kernel
theorem dX3_readNumber_91 : decode cX3_readNumber 91 = .ok (.return_, 1) := by decide +kernel
theorem dX3_isLetter_0 : decode cX3_isLetter 0 = .ok (.iload_n 0, 1) := by decide +kernel
theorem dX3_isLetter_1 : decode cX3_isLetter 1 = .ok (.bipush 97, 2) := by decide +kernel
theorem dX3_isLetter_3 : decode cX3_isLetter 3 = .ok (.if_icmp .lt 13, 3) := by decide +kernel
theorem dX3_isLetter_6 : decode cX3_isLetter 6 = .ok (.iload_n 0, 1) := by decide +kernel
theorem dX3_isLetter_7 : decode cX3_isLetter 7 = .ok (.bipush 122, 2) := by decide +kernel
theorem dX3_isLetter_9 : decode cX3_isLetter 9 = .ok (.if_icmp .gt 7, 3) := by decide +kernel
theorem dX3_isLetter_12 : decode cX3_isLetter 12 = .ok (.iconst 1, 1) := by decide +kernel
theorem dX3_isLetter_13 : decode cX3_isLetter 13 = .ok (.goto 4, 3) := by decide +kernel
theorem dX3_isLetter_16 : decode cX3_isLetter 16 = .ok (.iconst 0, 1) := by decide +kernel
theorem dX3_isLetter_17 : decode cX3_isLetter 17 = .ok (.ireturn, 1) := by decide +kernel
theorem dX3_isFigure_0 : decode cX3_isFigure 0 = .ok (.iload_n 0, 1) := by decide +kernel
theorem dX3_isFigure_1 : decode cX3_isFigure 1 = .ok (.bipush 48, 2) := by decide +kernel
theorem dX3_isFigure_3 : decode cX3_isFigure 3 = .ok (.if_icmp .lt 13, 3) := by decide +kernel
theorem dX3_isFigure_6 : decode cX3_isFigure 6 = .ok (.iload_n 0, 1) := by decide +kernel
theorem dX3_isFigure_7 : decode cX3_isFigure 7 = .ok (.bipush 57, 2) := by decide +kernel
theorem dX3_isFigure_9 : decode cX3_isFigure 9 = .ok (.if_icmp .gt 7, 3) := by decide +kernel
theorem dX3_isFigure_12 : decode cX3_isFigure 12 = .ok (.iconst 1, 1) := by decide +kernel
theorem dX3_isFigure_13 : decode cX3_isFigure 13 = .ok (.goto 4, 3) := by decide +kernel
theorem dX3_isFigure_16 : decode cX3_isFigure 16 = .ok (.iconst 0, 1) := by decide +kernel
theorem dX3_isFigure_17 : decode cX3_isFigure 17 = .ok (.ireturn, 1) := by decide +kernel
set_option maxRecDepth 20000 in
theorem ggX3_wordOfToken_X3_spelling : GoodIn wsX3_wordOfToken wsX3_spelling := goodIn_r _ [5] (by decide +kernel) (by decide +kernel)
set_option maxRecDepth 20000 in
theorem gX3_wordOfToken_X3_spelling : GoodIn wsX3_wordOfToken (va_wsS RX3 115 yX3_spelling wsX3_spelling) := goodIn_app (goodIn_of _ (by decide +kernel)) ggX3_wordOfToken_X3_spelling
set_option maxRecDepth 20000 in
theorem ggX3_wordOfToken_X3_tokenSays : GoodIn wsX3_wordOfToken wsX3_tokenSays := goodIn_r _ [9, 10, 11, 12, 13, 14, 15, 16, 17, 18, 19, 20, 21, 22, 23, 24, 25, 26, 27, 28, 29, 30, 31, 32, 33, 34, 35, 36, 37, 38, 39, 40, 41, 42, 43, 44, 45, 46, 47, 48, 49, 50, 51, 52, 53, 54, 55, 56, 57, 58, 59, 60, 61, 62, 63, 64, 65, 66, 67, 68, 69, 70] (by decide +kernel) (by decide +kernel)
set_option maxRecDepth 20000 in
theorem gX3_wordOfToken_X3_tokenSays : GoodIn wsX3_wordOfToken (wsV RX3 119 RX3 yX3_tokenSays wsX3_tokenSays) := goodIn_app (goodIn_of _ (by decide +kernel)) ggX3_wordOfToken_X3_tokenSays
theorem dX3_wordOfToken_0 : decode cX3_wordOfToken 0 = .ok (.aload_n 0, 1) := by decide +kernel
theorem dX3_wordOfToken_1 : decode cX3_wordOfToken 1 = .ok (.getfield 34, 3) := by decide +kernel
theorem dX3_wordOfToken_4 : decode cX3_wordOfToken 4 = .ok (.iconst 1, 1) := by decide +kernel
theorem dX3_wordOfToken_5 : decode cX3_wordOfToken 5 = .ok (.if_icmp .eq 6, 3) := by decide +kernel
theorem dX3_wordOfToken_8 : decode cX3_wordOfToken 8 = .ok (.bipush (-4), 2) := by decide +kernel
theorem dX3_wordOfToken_10 : decode cX3_wordOfToken 10 = .ok (.ireturn, 1) := by decide +kernel
theorem dX3_wordOfToken_11 : decode cX3_wordOfToken 11 = .ok (.iconst 0, 1) := by decide +kernel
theorem dX3_wordOfToken_12 : decode cX3_wordOfToken 12 = .ok (.istore_n 1, 1) := by decide +kernel
theorem dX3_wordOfToken_13 : decode cX3_wordOfToken 13 = .ok (.iload_n 1, 1) := by decide +kernel
theorem dX3_wordOfToken_14 : decode cX3_wordOfToken 14 = .ok (.bipush 7, 2) := by decide +kernel
theorem dX3_wordOfToken_16 : decode cX3_wordOfToken 16 = .ok (.if_icmp .ge 22, 3) := by decide +kernel
theorem dX3_wordOfToken_19 : decode cX3_wordOfToken 19 = .ok (.aload_n 0, 1) := by decide +kernel
theorem dX3_wordOfToken_20 : decode cX3_wordOfToken 20 = .ok (.iload_n 1, 1) := by decide +kernel
theorem dX3_wordOfToken_21 : decode cX3_wordOfToken 21 = .ok (.invokestatic 115, 3) := by decide +kernel
theorem dX3_wordOfToken_24 : decode cX3_wordOfToken 24 = .ok (.invokevirtual 119, 3) := by decide +kernel
theorem dX3_wordOfToken_27 : decode cX3_wordOfToken 27 = .ok (.ifCond .eq 5, 3) := by decide +kernel
theorem dX3_wordOfToken_30 : decode cX3_wordOfToken 30 = .ok (.iload_n 1, 1) := by decide +kernel
theorem dX3_wordOfToken_31 : decode cX3_wordOfToken 31 = .ok (.ireturn, 1) := by decide +kernel
theorem dX3_wordOfToken_32 : decode cX3_wordOfToken 32 = .ok (.iinc 1 1, 3) := by decide +kernel
theorem dX3_wordOfToken_35 : decode cX3_wordOfToken 35 = .ok (.goto (-22), 3) := by decide +kernel
theorem dX3_wordOfToken_38 : decode cX3_wordOfToken 38 = .ok (.bipush (-4), 2) := by decide +kernel
theorem dX3_wordOfToken_40 : decode cX3_wordOfToken 40 = .ok (.ireturn, 1) := by decide +kernel
set_option maxRecDepth 20000 in
theorem ggX3_tokenSays_J0_length_8abf5 : GoodIn wsX3_tokenSays wsJ0_length_8abf5 := goodIn_r _ [8, 9, 10, 11, 12, 7, 13, 14, 15] (by decide +kernel) (by decide +kernel)
set_option maxRecDepth 20000 in
theorem gX3_tokenSays_J0_length_8abf5 : GoodIn wsX3_tokenSays (wsV RX3 123 RJ0 yJ0_length_8abf5 wsJ0_length_8abf5) := goodIn_app (goodIn_of _ (by decide +kernel)) ggX3_tokenSays_J0_length_8abf5
set_option maxRecDepth 20000 in
theorem ggX3_tokenSays_J0_charAt_5068e : GoodIn wsX3_tokenSays wsJ0_charAt_5068e := goodIn_r _ [19, 9, 20, 21, 22, 7, 23, 14, 15, 24, 25, 26, 27, 28, 29, 30, 31, 32, 33, 34, 35, 36, 37, 38, 39, 40, 41, 42, 43, 44, 45, 46, 47, 48, 49, 50, 51, 52] (by decide +kernel) (by decide +kernel)
set_option maxRecDepth 20000 in
theorem gX3_tokenSays_J0_charAt_5068e : GoodIn wsX3_tokenSays (wsV RX3 127 RJ0 yJ0_charAt_5068e wsJ0_charAt_5068e) := goodIn_app (goodIn_of _ (by decide +kernel)) ggX3_tokenSays_J0_charAt_5068e
theorem dX3_tokenSays_0 : decode cX3_tokenSays 0 = .ok (.aload_n 0, 1) := by decide +kernel
theorem dX3_tokenSays_1 : decode cX3_tokenSays 1 = .ok (.getfield 19, 3) := by decide +kernel
theorem dX3_tokenSays_4 : decode cX3_tokenSays 4 = .ok (.aload_n 0, 1) := by decide +kernel
theorem dX3_tokenSays_5 : decode cX3_tokenSays 5 = .ok (.getfield 99, 3) := by decide +kernel
theorem dX3_tokenSays_8 : decode cX3_tokenSays 8 = .ok (.isub, 1) := by decide +kernel
theorem dX3_tokenSays_9 : decode cX3_tokenSays 9 = .ok (.aload_n 1, 1) := by decide +kernel
theorem dX3_tokenSays_10 : decode cX3_tokenSays 10 = .ok (.invokevirtual 123, 3) := by decide +kernel
theorem dX3_tokenSays_13 : decode cX3_tokenSays 13 = .ok (.if_icmp .eq 5, 3) := by decide +kernel
theorem dX3_tokenSays_16 : decode cX3_tokenSays 16 = .ok (.iconst 0, 1) := by decide +kernel
theorem dX3_tokenSays_17 : decode cX3_tokenSays 17 = .ok (.ireturn, 1) := by decide +kernel
theorem dX3_tokenSays_18 : decode cX3_tokenSays 18 = .ok (.iconst 0, 1) := by decide +kernel
theorem dX3_tokenSays_19 : decode cX3_tokenSays 19 = .ok (.istore_n 2, 1) := by decide +kernel
theorem dX3_tokenSays_20 : decode cX3_tokenSays 20 = .ok (.iload_n 2, 1) := by decide +kernel
theorem dX3_tokenSays_21 : decode cX3_tokenSays 21 = .ok (.aload_n 1, 1) := by decide +kernel
theorem dX3_tokenSays_22 : decode cX3_tokenSays 22 = .ok (.invokevirtual 123, 3) := by decide +kernel
theorem dX3_tokenSays_25 : decode cX3_tokenSays 25 = .ok (.if_icmp .ge 30, 3) := by decide +kernel
theorem dX3_tokenSays_28 : decode cX3_tokenSays 28 = .ok (.aload_n 0, 1) := by decide +kernel
theorem dX3_tokenSays_29 : decode cX3_tokenSays 29 = .ok (.getfield 11, 3) := by decide +kernel
theorem dX3_tokenSays_32 : decode cX3_tokenSays 32 = .ok (.aload_n 0, 1) := by decide +kernel
theorem dX3_tokenSays_33 : decode cX3_tokenSays 33 = .ok (.getfield 99, 3) := by decide +kernel
theorem dX3_tokenSays_36 : decode cX3_tokenSays 36 = .ok (.iload_n 2, 1) := by decide +kernel
theorem dX3_tokenSays_37 : decode cX3_tokenSays 37 = .ok (.iadd, 1) := by decide +kernel
theorem dX3_tokenSays_38 : decode cX3_tokenSays 38 = .ok (.baload, 1) := by decide +kernel
theorem dX3_tokenSays_39 : decode cX3_tokenSays 39 = .ok (.aload_n 1, 1) := by decide +kernel
theorem dX3_tokenSays_40 : decode cX3_tokenSays 40 = .ok (.iload_n 2, 1) := by decide +kernel
theorem dX3_tokenSays_41 : decode cX3_tokenSays 41 = .ok (.invokevirtual 127, 3) := by decide +kernel
theorem dX3_tokenSays_44 : decode cX3_tokenSays 44 = .ok (.if_icmp .eq 5, 3) := by decide +kernel
theorem dX3_tokenSays_47 : decode cX3_tokenSays 47 = .ok (.iconst 0, 1) := by decide +kernel
theorem dX3_tokenSays_48 : decode cX3_tokenSays 48 = .ok (.ireturn, 1) := by decide +kernel
theorem dX3_tokenSays_49 : decode cX3_tokenSays 49 = .ok (.iinc 2 1, 3) := by decide +kernel
theorem dX3_tokenSays_52 : decode cX3_tokenSays 52 = .ok (.goto (-32), 3) := by decide +kernel
theorem dX3_tokenSays_55 : decode cX3_tokenSays 55 = .ok (.iconst 1, 1) := by decide +kernel
theorem dX3_tokenSays_56 : decode cX3_tokenSays 56 = .ok (.ireturn, 1) := by decide +kernel
theorem dX3_spelling_0 : decode cX3_spelling 0 = .ok (.iload_n 0, 1) := by decide +kernel
theorem dX3_spelling_1 : decode cX3_spelling 1 = .ok (.tableswitch 57 0 5 #[39, 42, 45, 48, 51, 54], 39) := by decide +kernel
theorem dX3_spelling_40 : decode cX3_spelling 40 = .ok (.ldc 131, 2) := by decide +kernel
theorem dX3_spelling_42 : decode cX3_spelling 42 = .ok (.areturn, 1) := by decide +kernel
theorem dX3_spelling_43 : decode cX3_spelling 43 = .ok (.ldc 133, 2) := by decide +kernel
theorem dX3_spelling_45 : decode cX3_spelling 45 = .ok (.areturn, 1) := by decide +kernel
theorem dX3_spelling_46 : decode cX3_spelling 46 = .ok (.ldc 135, 2) := by decide +kernel
theorem dX3_spelling_48 : decode cX3_spelling 48 = .ok (.areturn, 1) := by decide +kernel
theorem dX3_spelling_49 : decode cX3_spelling 49 = .ok (.ldc 137, 2) := by decide +kernel
theorem dX3_spelling_51 : decode cX3_spelling 51 = .ok (.areturn, 1) := by decide +kernel
theorem dX3_spelling_52 : decode cX3_spelling 52 = .ok (.ldc 139, 2) := by decide +kernel
theorem dX3_spelling_54 : decode cX3_spelling 54 = .ok (.areturn, 1) := by decide +kernel
theorem dX3_spelling_55 : decode cX3_spelling 55 = .ok (.ldc 140, 2) := by decide +kernel
theorem dX3_spelling_57 : decode cX3_spelling 57 = .ok (.areturn, 1) := by decide +kernel
theorem dX3_spelling_58 : decode cX3_spelling 58 = .ok (.ldc 141, 2) := by decide +kernel
theorem dX3_spelling_60 : decode cX3_spelling 60 = .ok (.areturn, 1) := by decide +kernel
set_option maxRecDepth 20000 in
theorem ggX4_init_X4_clear : GoodIn wsX4_init wsX4_clear := goodIn_r _ [10, 11, 12, 13, 14, 15, 16, 17, 18, 19, 20, 21, 22, 23] (by decide +kernel) (by decide +kernel)
set_option maxRecDepth 20000 in
theorem gX4_init_X4_clear : GoodIn wsX4_init (wsV RX4 15 RX4 yX4_clear wsX4_clear) := goodIn_app (goodIn_of _ (by decide +kernel)) ggX4_init_X4_clear
theorem dX4_init_0 : decode cX4_init 0 = .ok (.aload_n 0, 1) := by decide +kernel
theorem dX4_init_1 : decode cX4_init 1 = .ok (.invokespecial 3, 3) := by decide +kernel
theorem dX4_init_4 : decode cX4_init 4 = .ok (.aload_n 0, 1) := by decide +kernel
theorem dX4_init_5 : decode cX4_init 5 = .ok (.bipush 20, 2) := by decide +kernel
theorem dX4_init_7 : decode cX4_init 7 = .ok (.newarray .int, 2) := by decide +kernel
theorem dX4_init_9 : decode cX4_init 9 = .ok (.putfield 9, 3) := by decide +kernel
theorem dX4_init_12 : decode cX4_init 12 = .ok (.aload_n 0, 1) := by decide +kernel
theorem dX4_init_13 : decode cX4_init 13 = .ok (.invokevirtual 15, 3) := by decide +kernel
theorem dX4_init_16 : decode cX4_init 16 = .ok (.return_, 1) := by decide +kernel
theorem dX4_clear_0 : decode cX4_clear 0 = .ok (.aload_n 0, 1) := by decide +kernel
theorem dX4_clear_1 : decode cX4_clear 1 = .ok (.iconst 0, 1) := by decide +kernel
theorem dX4_clear_2 : decode cX4_clear 2 = .ok (.putfield 18, 3) := by decide +kernel
theorem dX4_clear_5 : decode cX4_clear 5 = .ok (.aload_n 0, 1) := by decide +kernel
theorem dX4_clear_6 : decode cX4_clear 6 = .ok (.bipush 44, 2) := by decide +kernel
theorem dX4_clear_8 : decode cX4_clear 8 = .ok (.putfield 22, 3) := by decide +kernel
theorem dX4_clear_11 : decode cX4_clear 11 = .ok (.aload_n 0, 1) := by decide +kernel
theorem dX4_clear_12 : decode cX4_clear 12 = .ok (.bipush 44, 2) := by decide +kernel
theorem dX4_clear_14 : decode cX4_clear 14 = .ok (.putfield 25, 3) := by decide +kernel
theorem dX4_clear_17 : decode cX4_clear 17 = .ok (.aload_n 0, 1) := by decide +kernel
theorem dX4_clear_18 : decode cX4_clear 18 = .ok (.iconst 2, 1) := by decide +kernel
theorem dX4_clear_19 : decode cX4_clear 19 = .ok (.putfield 28, 3) := by decide +kernel
theorem dX4_clear_22 : decode cX4_clear 22 = .ok (.aload_n 0, 1) := by decide +kernel
theorem dX4_clear_23 : decode cX4_clear 23 = .ok (.bipush 9, 2) := by decide +kernel
theorem dX4_clear_25 : decode cX4_clear 25 = .ok (.putfield 31, 3) := by decide +kernel
theorem dX4_clear_28 : decode cX4_clear 28 = .ok (.aload_n 0, 1) := by decide +kernel
theorem dX4_clear_29 : decode cX4_clear 29 = .ok (.iconst 0, 1) := by decide +kernel
theorem dX4_clear_30 : decode cX4_clear 30 = .ok (.putfield 34, 3) := by decide +kernel
theorem dX4_clear_33 : decode cX4_clear 33 = .ok (.return_, 1) := by decide +kernel
theorem dX4_copyFrom_0 : decode cX4_copyFrom 0 = .ok (.aload_n 1, 1) := by decide +kernel
theorem dX4_copyFrom_1 : decode cX4_copyFrom 1 = .ok (.getfield 9, 3) := by decide +kernel
theorem dX4_copyFrom_4 : decode cX4_copyFrom 4 = .ok (.iconst 0, 1) := by decide +kernel
theorem dX4_copyFrom_5 : decode cX4_copyFrom 5 = .ok (.aload_n 0, 1) := by decide +kernel
theorem dX4_copyFrom_6 : decode cX4_copyFrom 6 = .ok (.getfield 9, 3) := by decide +kernel
theorem dX4_copyFrom_9 : decode cX4_copyFrom 9 = .ok (.iconst 0, 1) := by decide +kernel
theorem dX4_copyFrom_10 : decode cX4_copyFrom 10 = .ok (.bipush 20, 2) := by decide +kernel
theorem dX4_copyFrom_12 : decode cX4_copyFrom 12 = .ok (.invokestatic 37, 3) := by decide +kernel
theorem dX4_copyFrom_15 : decode cX4_copyFrom 15 = .ok (.aload_n 0, 1) := by decide +kernel
theorem dX4_copyFrom_16 : decode cX4_copyFrom 16 = .ok (.aload_n 1, 1) := by decide +kernel
theorem dX4_copyFrom_17 : decode cX4_copyFrom 17 = .ok (.getfield 18, 3) := by decide +kernel
theorem dX4_copyFrom_20 : decode cX4_copyFrom 20 = .ok (.putfield 18, 3) := by decide +kernel
theorem dX4_copyFrom_23 : decode cX4_copyFrom 23 = .ok (.aload_n 0, 1) := by decide +kernel
theorem dX4_copyFrom_24 : decode cX4_copyFrom 24 = .ok (.aload_n 1, 1) := by decide +kernel
theorem dX4_copyFrom_25 : decode cX4_copyFrom 25 = .ok (.getfield 22, 3) := by decide +kernel
theorem dX4_copyFrom_28 : decode cX4_copyFrom 28 = .ok (.putfield 22, 3) := by decide +kernel
theorem dX4_copyFrom_31 : decode cX4_copyFrom 31 = .ok (.aload_n 0, 1) := by decide +kernel
theorem dX4_copyFrom_32 : decode cX4_copyFrom 32 = .ok (.aload_n 1, 1) := by decide +kernel
theorem dX4_copyFrom_33 : decode cX4_copyFrom 33 = .ok (.getfield 25, 3) := by decide +kernel
theorem dX4_copyFrom_36 : decode cX4_copyFrom 36 = .ok (.putfield 25, 3) := by decide +kernel
theorem dX4_copyFrom_39 : decode cX4_copyFrom 39 = .ok (.aload_n 0, 1) := by decide +kernel
theorem dX4_copyFrom_40 : decode cX4_copyFrom 40 = .ok (.aload_n 1, 1) := by decide +kernel
theorem dX4_copyFrom_41 : decode cX4_copyFrom 41 = .ok (.getfield 28, 3) := by decide +kernel
theorem dX4_copyFrom_44 : decode cX4_copyFrom 44 = .ok (.putfield 28, 3) := by decide +kernel
theorem dX4_copyFrom_47 : decode cX4_copyFrom 47 = .ok (.aload_n 0, 1) := by decide +kernel
theorem dX4_copyFrom_48 : decode cX4_copyFrom 48 = .ok (.aload_n 1, 1) := by decide +kernel
theorem dX4_copyFrom_49 : decode cX4_copyFrom 49 = .ok (.getfield 31, 3) := by decide +kernel
theorem dX4_copyFrom_52 : decode cX4_copyFrom 52 = .ok (.putfield 31, 3) := by decide +kernel
theorem dX4_copyFrom_55 : decode cX4_copyFrom 55 = .ok (.aload_n 0, 1) := by decide +kernel
theorem dX4_copyFrom_56 : decode cX4_copyFrom 56 = .ok (.aload_n 1, 1) := by decide +kernel
theorem dX4_copyFrom_57 : decode cX4_copyFrom 57 = .ok (.getfield 34, 3) := by decide +kernel
theorem dX4_copyFrom_60 : decode cX4_copyFrom 60 = .ok (.putfield 34, 3) := by decide +kernel
theorem dX4_copyFrom_63 : decode cX4_copyFrom 63 = .ok (.return_, 1) := by decide +kernel
theorem dX4_hasDraw_0 : decode cX4_hasDraw 0 = .ok (.iload_n 1, 1) := by decide +kernel
theorem dX4_hasDraw_1 : decode cX4_hasDraw 1 = .ok (.ifCond .lt 15, 3) := by decide +kernel
theorem dX4_hasDraw_4 : decode cX4_hasDraw 4 = .ok (.iload_n 1, 1) := by decide +kernel
theorem dX4_hasDraw_5 : decode cX4_hasDraw 5 = .ok (.aload_n 0, 1) := by decide +kernel
theorem dX4_hasDraw_6 : decode cX4_hasDraw 6 = .ok (.getfield 18, 3) := by decide +kernel
theorem dX4_hasDraw_9 : decode cX4_hasDraw 9 = .ok (.if_icmp .ge 7, 3) := by decide +kernel
theorem dX4_hasDraw_12 : decode cX4_hasDraw 12 = .ok (.iconst 1, 1) := by decide +kernel
theorem dX4_hasDraw_13 : decode cX4_hasDraw 13 = .ok (.goto 4, 3) := by decide +kernel
theorem dX4_hasDraw_16 : decode cX4_hasDraw 16 = .ok (.iconst 0, 1) := by decide +kernel
theorem dX4_hasDraw_17 : decode cX4_hasDraw 17 = .ok (.ireturn, 1) := by decide +kernel
theorem dX4_isFull_0 : decode cX4_isFull 0 = .ok (.aload_n 0, 1) := by decide +kernel
theorem dX4_isFull_1 : decode cX4_isFull 1 = .ok (.getfield 18, 3) := by decide +kernel
theorem dX4_isFull_4 : decode cX4_isFull 4 = .ok (.iconst 5, 1) := by decide +kernel
theorem dX4_isFull_5 : decode cX4_isFull 5 = .ok (.if_icmp .lt 7, 3) := by decide +kernel
theorem dX4_isFull_8 : decode cX4_isFull 8 = .ok (.iconst 1, 1) := by decide +kernel
theorem dX4_isFull_9 : decode cX4_isFull 9 = .ok (.goto 4, 3) := by decide +kernel
theorem dX4_isFull_12 : decode cX4_isFull 12 = .ok (.iconst 0, 1) := by decide +kernel
theorem dX4_isFull_13 : decode cX4_isFull 13 = .ok (.ireturn, 1) := by decide +kernel
theorem dX4_trait_0 : decode cX4_trait 0 = .ok (.aload_n 0, 1) := by decide +kernel
theorem dX4_trait_1 : decode cX4_trait 1 = .ok (.getfield 9, 3) := by decide +kernel
theorem dX4_trait_4 : decode cX4_trait 4 = .ok (.iconst 4, 1) := by decide +kernel
theorem dX4_trait_5 : decode cX4_trait 5 = .ok (.iload_n 1, 1) := by decide +kernel
theorem dX4_trait_6 : decode cX4_trait 6 = .ok (.imul, 1) := by decide +kernel
theorem dX4_trait_7 : decode cX4_trait 7 = .ok (.iload_n 2, 1) := by decide +kernel
theorem dX4_trait_8 : decode cX4_trait 8 = .ok (.iadd, 1) := by decide +kernel
theorem dX4_trait_9 : decode cX4_trait 9 = .ok (.iaload, 1) := by decide +kernel
theorem dX4_trait_10 : decode cX4_trait 10 = .ok (.ireturn, 1) := by decide +kernel
theorem dX4_setTrait_0 : decode cX4_setTrait 0 = .ok (.aload_n 0, 1) := by decide +kernel
theorem dX4_setTrait_1 : decode cX4_setTrait 1 = .ok (.getfield 9, 3) := by decide +kernel
theorem dX4_setTrait_4 : decode cX4_setTrait 4 = .ok (.iconst 4, 1) := by decide +kernel
theorem dX4_setTrait_5 : decode cX4_setTrait 5 = .ok (.iload_n 1, 1) := by decide +kernel
theorem dX4_setTrait_6 : decode cX4_setTrait 6 = .ok (.imul, 1) := by decide +kernel
theorem dX4_setTrait_7 : decode cX4_setTrait 7 = .ok (.iload_n 2, 1) := by decide +kernel
theorem dX4_setTrait_8 : decode cX4_setTrait 8 = .ok (.iadd, 1) := by decide +kernel
theorem dX4_setTrait_9 : decode cX4_setTrait 9 = .ok (.iload_n 3, 1) := by decide +kernel
theorem dX4_setTrait_10 : decode cX4_setTrait 10 = .ok (.iastore, 1) := by decide +kernel
theorem dX4_setTrait_11 : decode cX4_setTrait 11 = .ok (.return_, 1) := by decide +kernel
set_option maxRecDepth 20000 in
theorem ggX4_addDraw_X4_isFull : GoodIn wsX4_addDraw wsX4_isFull := goodIn_r _ [6, 1, 12, 13, 14, 15, 16, 17, 18] (by decide +kernel) (by decide +kernel)
set_option maxRecDepth 20000 in
theorem gX4_addDraw_X4_isFull : GoodIn wsX4_addDraw (wsV RX4 43 RX4 yX4_isFull wsX4_isFull) := goodIn_app (goodIn_of _ (by decide +kernel)) ggX4_addDraw_X4_isFull
set_option maxRecDepth 20000 in
theorem ggX4_addDraw_X4_setTrait : GoodIn wsX4_addDraw wsX4_setTrait := goodIn_r _ [10, 11, 12, 13, 14, 15, 16, 17, 18] (by decide +kernel) (by decide +kernel)
set_option maxRecDepth 20000 in
theorem gX4_addDraw_X4_setTrait : GoodIn wsX4_addDraw (wsV RX4 47 RX4 yX4_setTrait wsX4_setTrait) := goodIn_app (goodIn_of _ (by decide +kernel)) ggX4_addDraw_X4_setTrait
theorem dX4_addDraw_0 : decode cX4_addDraw 0 = .ok (.aload_n 0, 1) := by decide +kernel
theorem dX4_addDraw_1 : decode cX4_addDraw 1 = .ok (.invokevirtual 43, 3) := by decide +kernel
theorem dX4_addDraw_4 : decode cX4_addDraw 4 = .ok (.ifCond .eq 4, 3) := by decide +kernel
theorem dX4_addDraw_7 : decode cX4_addDraw 7 = .ok (.return_, 1) := by decide +kernel
theorem dX4_addDraw_8 : decode cX4_addDraw 8 = .ok (.aload_n 0, 1) := by decide +kernel
theorem dX4_addDraw_9 : decode cX4_addDraw 9 = .ok (.getfield 18, 3) := by decide +kernel
theorem dX4_addDraw_12 : decode cX4_addDraw 12 = .ok (.istore 5, 2) := by decide +kernel
theorem dX4_addDraw_14 : decode cX4_addDraw 14 = .ok (.aload_n 0, 1) := by decide +kernel
theorem dX4_addDraw_15 : decode cX4_addDraw 15 = .ok (.dup, 1) := by decide +kernel
theorem dX4_addDraw_16 : decode cX4_addDraw 16 = .ok (.getfield 18, 3) := by decide +kernel
theorem dX4_addDraw_19 : decode cX4_addDraw 19 = .ok (.iconst 1, 1) := by decide +kernel
theorem dX4_addDraw_20 : decode cX4_addDraw 20 = .ok (.iadd, 1) := by decide +kernel
theorem dX4_addDraw_21 : decode cX4_addDraw 21 = .ok (.putfield 18, 3) := by decide +kernel
theorem dX4_addDraw_24 : decode cX4_addDraw 24 = .ok (.aload_n 0, 1) := by decide +kernel
theorem dX4_addDraw_25 : decode cX4_addDraw 25 = .ok (.iload 5, 2) := by decide +kernel
theorem dX4_addDraw_27 : decode cX4_addDraw 27 = .ok (.iconst 0, 1) := by decide +kernel
theorem dX4_addDraw_28 : decode cX4_addDraw 28 = .ok (.iload_n 1, 1) := by decide +kernel
theorem dX4_addDraw_29 : decode cX4_addDraw 29 = .ok (.invokevirtual 47, 3) := by decide +kernel
theorem dX4_addDraw_32 : decode cX4_addDraw 32 = .ok (.aload_n 0, 1) := by decide +kernel
theorem dX4_addDraw_33 : decode cX4_addDraw 33 = .ok (.iload 5, 2) := by decide +kernel
theorem dX4_addDraw_35 : decode cX4_addDraw 35 = .ok (.iconst 1, 1) := by decide +kernel
theorem dX4_addDraw_36 : decode cX4_addDraw 36 = .ok (.iload_n 2, 1) := by decide +kernel
theorem dX4_addDraw_37 : decode cX4_addDraw 37 = .ok (.invokevirtual 47, 3) := by decide +kernel
theorem dX4_addDraw_40 : decode cX4_addDraw 40 = .ok (.aload_n 0, 1) := by decide +kernel
theorem dX4_addDraw_41 : decode cX4_addDraw 41 = .ok (.iload 5, 2) := by decide +kernel
theorem dX4_addDraw_43 : decode cX4_addDraw 43 = .ok (.iconst 2, 1) := by decide +kernel
theorem dX4_addDraw_44 : decode cX4_addDraw 44 = .ok (.iload_n 3, 1) := by decide +kernel
theorem dX4_addDraw_45 : decode cX4_addDraw 45 = .ok (.invokevirtual 47, 3) := by decide +kernel
theorem dX4_addDraw_48 : decode cX4_addDraw 48 = .ok (.aload_n 0, 1) := by decide +kernel
theorem dX4_addDraw_49 : decode cX4_addDraw 49 = .ok (.iload 5, 2) := by decide +kernel
theorem dX4_addDraw_51 : decode cX4_addDraw 51 = .ok (.iconst 3, 1) := by decide +kernel
theorem dX4_addDraw_52 : decode cX4_addDraw 52 = .ok (.iload 4, 2) := by decide +kernel
theorem dX4_addDraw_54 : decode cX4_addDraw 54 = .ok (.invokevirtual 47, 3) := by decide +kernel
theorem dX4_addDraw_57 : decode cX4_addDraw 57 = .ok (.return_, 1) := by decide +kernel
theorem dX4_strength_0 : decode cX4_strength 0 = .ok (.iload_n 1, 1) := by decide +kernel
theorem dX4_strength_1 : decode cX4_strength 1 = .ok (.iconst 1, 1) := by decide +kernel
theorem dX4_strength_2 : decode cX4_strength 2 = .ok (.iadd, 1) := by decide +kernel
theorem dX4_strength_3 : decode cX4_strength 3 = .ok (.iconst 2, 1) := by decide +kernel
theorem dX4_strength_4 : decode cX4_strength 4 = .ok (.idiv, 1) := by decide +kernel
theorem dX4_strength_5 : decode cX4_strength 5 = .ok (.istore_n 2, 1) := by decide +kernel
theorem dX4_strength_6 : decode cX4_strength 6 = .ok (.iload_n 0, 1) := by decide +kernel
theorem dX4_strength_7 : decode cX4_strength 7 = .ok (.tableswitch 33 0 2 #[25, 27, 29], 25) := by decide +kernel
theorem dX4_strength_32 : decode cX4_strength 32 = .ok (.iload_n 1, 1) := by decide +kernel
theorem dX4_strength_33 : decode cX4_strength 33 = .ok (.ireturn, 1) := by decide +kernel
theorem dX4_strength_34 : decode cX4_strength 34 = .ok (.iload_n 2, 1) := by decide +kernel
theorem dX4_strength_35 : decode cX4_strength 35 = .ok (.ireturn, 1) := by decide +kernel
theorem dX4_strength_36 : decode cX4_strength 36 = .ok (.iload_n 2, 1) := by decide +kernel
theorem dX4_strength_37 : decode cX4_strength 37 = .ok (.iconst 1, 1) := by decide +kernel
theorem dX4_strength_38 : decode cX4_strength 38 = .ok (.iadd, 1) := by decide +kernel
theorem dX4_strength_39 : decode cX4_strength 39 = .ok (.ireturn, 1) := by decide +kernel
theorem dX4_strength_40 : decode cX4_strength 40 = .ok (.iconst 3, 1) := by decide +kernel
theorem dX4_strength_41 : decode cX4_strength 41 = .ok (.iload_n 2, 1) := by decide +kernel
theorem dX4_strength_42 : decode cX4_strength 42 = .ok (.imul, 1) := by decide +kernel
theorem dX4_strength_43 : decode cX4_strength 43 = .ok (.ireturn, 1) := by decide +kernel
set_option maxRecDepth 20000 in
theorem ggX4_gap_X4_trait : GoodIn wsX4_gap wsX4_trait := goodIn_r _ [6, 7, 11, 12, 13, 14, 15, 16, 17] (by decide +kernel) (by decide +kernel)
set_option maxRecDepth 20000 in
theorem gX4_gap_X4_trait : GoodIn wsX4_gap (wsV RX4 51 RX4 yX4_trait wsX4_trait) := goodIn_app (goodIn_of _ (by decide +kernel)) ggX4_gap_X4_trait
set_option maxRecDepth 20000 in
theorem ggX4_gap_X5_far : GoodIn wsX4_gap wsX5_far := goodIn_r _ [10] (by decide +kernel) (by decide +kernel)
set_option maxRecDepth 20000 in
theorem gX4_gap_X5_far_n55 : GoodIn wsX4_gap (wsX5_far) := ggX4_gap_X5_far
theorem dX4_gap_0 : decode cX4_gap 0 = .ok (.aload_n 0, 1) := by decide +kernel
theorem dX4_gap_1 : decode cX4_gap 1 = .ok (.iload_n 1, 1) := by decide +kernel
theorem dX4_gap_2 : decode cX4_gap 2 = .ok (.iconst 2, 1) := by decide +kernel
theorem dX4_gap_3 : decode cX4_gap 3 = .ok (.invokevirtual 51, 3) := by decide +kernel
theorem dX4_gap_6 : decode cX4_gap 6 = .ok (.aload_n 0, 1) := by decide +kernel
theorem dX4_gap_7 : decode cX4_gap 7 = .ok (.getfield 25, 3) := by decide +kernel
theorem dX4_gap_10 : decode cX4_gap 10 = .ok (.invokestatic 55, 3) := by decide +kernel
theorem dX4_gap_13 : decode cX4_gap 13 = .ok (.ireturn, 1) := by decide +kernel
set_option maxRecDepth 20000 in
theorem ggX4_force_X4_trait : GoodIn wsX4_force wsX4_trait := goodIn_r _ [7, 8, 15, 16, 17, 18, 19, 20, 21] (by decide +kernel) (by decide +kernel)
set_option maxRecDepth 20000 in
theorem gX4_force_X4_trait : GoodIn wsX4_force (wsV RX4 51 RX4 yX4_trait wsX4_trait) := goodIn_app (goodIn_of _ (by decide +kernel)) ggX4_force_X4_trait
set_option maxRecDepth 20000 in
theorem ggX4_force_X5_far : GoodIn wsX4_force wsX5_far := goodIn_r _ [11] (by decide +kernel) (by decide +kernel)
set_option maxRecDepth 20000 in
theorem gX4_force_X5_far_n55 : GoodIn wsX4_force (wsX5_far) := ggX4_force_X5_far
set_option maxRecDepth 20000 in
theorem ggX4_force_X4_strength : GoodIn wsX4_force wsX4_strength := goodIn_r _ [14] (by decide +kernel) (by decide +kernel)
set_option maxRecDepth 20000 in
theorem gX4_force_X4_strength : GoodIn wsX4_force (va_wsS RX4 58 yX4_strength wsX4_strength) := goodIn_app (goodIn_of _ (by decide +kernel)) ggX4_force_X4_strength
theorem dX4_force_0 : decode cX4_force 0 = .ok (.iconst 1, 1) := by decide +kernel
theorem dX4_force_1 : decode cX4_force 1 = .ok (.aload_n 0, 1) := by decide +kernel
theorem dX4_force_2 : decode cX4_force 2 = .ok (.iload_n 1, 1) := by decide +kernel
theorem dX4_force_3 : decode cX4_force 3 = .ok (.iconst 2, 1) := by decide +kernel
theorem dX4_force_4 : decode cX4_force 4 = .ok (.invokevirtual 51, 3) := by decide +kernel
theorem dX4_force_7 : decode cX4_force 7 = .ok (.aload_n 0, 1) := by decide +kernel
theorem dX4_force_8 : decode cX4_force 8 = .ok (.getfield 25, 3) := by decide +kernel
theorem dX4_force_11 : decode cX4_force 11 = .ok (.invokestatic 55, 3) := by decide +kernel
theorem dX4_force_14 : decode cX4_force 14 = .ok (.iadd, 1) := by decide +kernel
theorem dX4_force_15 : decode cX4_force 15 = .ok (.istore_n 2, 1) := by decide +kernel
theorem dX4_force_16 : decode cX4_force 16 = .ok (.iload_n 2, 1) := by decide +kernel
theorem dX4_force_17 : decode cX4_force 17 = .ok (.ifCond .le 16, 3) := by decide +kernel
theorem dX4_force_20 : decode cX4_force 20 = .ok (.aload_n 0, 1) := by decide +kernel
theorem dX4_force_21 : decode cX4_force 21 = .ok (.getfield 34, 3) := by decide +kernel
theorem dX4_force_24 : decode cX4_force 24 = .ok (.aload_n 0, 1) := by decide +kernel
theorem dX4_force_25 : decode cX4_force 25 = .ok (.iload_n 1, 1) := by decide +kernel
theorem dX4_force_26 : decode cX4_force 26 = .ok (.iconst 3, 1) := by decide +kernel
theorem dX4_force_27 : decode cX4_force 27 = .ok (.invokevirtual 51, 3) := by decide +kernel
theorem dX4_force_30 : decode cX4_force 30 = .ok (.if_icmp .ge 5, 3) := by decide +kernel
theorem dX4_force_33 : decode cX4_force 33 = .ok (.iconst 0, 1) := by decide +kernel
theorem dX4_force_34 : decode cX4_force 34 = .ok (.ireturn, 1) := by decide +kernel
theorem dX4_force_35 : decode cX4_force 35 = .ok (.bipush 60, 2) := by decide +kernel
theorem dX4_force_37 : decode cX4_force 37 = .ok (.aload_n 0, 1) := by decide +kernel
theorem dX4_force_38 : decode cX4_force 38 = .ok (.iload_n 1, 1) := by decide +kernel
theorem dX4_force_39 : decode cX4_force 39 = .ok (.iconst 0, 1) := by decide +kernel
theorem dX4_force_40 : decode cX4_force 40 = .ok (.invokevirtual 51, 3) := by decide +kernel
theorem dX4_force_43 : decode cX4_force 43 = .ok (.aload_n 0, 1) := by decide +kernel
theorem dX4_force_44 : decode cX4_force 44 = .ok (.iload_n 1, 1) := by decide +kernel
theorem dX4_force_45 : decode cX4_force 45 = .ok (.iconst 1, 1) := by decide +kernel
theorem dX4_force_46 : decode cX4_force 46 = .ok (.invokevirtual 51, 3) := by decide +kernel
theorem dX4_force_49 : decode cX4_force 49 = .ok (.invokestatic 58, 3) := by decide +kernel
theorem dX4_force_52 : decode cX4_force 52 = .ok (.imul, 1) := by decide +kernel
theorem dX4_force_53 : decode cX4_force 53 = .ok (.iload_n 2, 1) := by decide +kernel
theorem dX4_force_54 : decode cX4_force 54 = .ok (.idiv, 1) := by decide +kernel
theorem dX4_force_55 : decode cX4_force 55 = .ok (.ireturn, 1) := by decide +kernel
set_option maxRecDepth 20000 in
theorem ggX4_lean_X5_far : GoodIn wsX4_lean wsX5_far := goodIn_r _ [5] (by decide +kernel) (by decide +kernel)
set_option maxRecDepth 20000 in
theorem gX4_lean_X5_far_n55 : GoodIn wsX4_lean (wsX5_far) := ggX4_lean_X5_far
theorem dX4_lean_0 : decode cX4_lean 0 = .ok (.aload_n 0, 1) := by decide +kernel
theorem dX4_lean_1 : decode cX4_lean 1 = .ok (.getfield 25, 3) := by decide +kernel
theorem dX4_lean_4 : decode cX4_lean 4 = .ok (.aload_n 0, 1) := by decide +kernel
theorem dX4_lean_5 : decode cX4_lean 5 = .ok (.getfield 22, 3) := by decide +kernel
theorem dX4_lean_8 : decode cX4_lean 8 = .ok (.invokestatic 55, 3) := by decide +kernel
theorem dX4_lean_11 : decode cX4_lean 11 = .ok (.ireturn, 1) := by decide +kernel
set_option maxRecDepth 20000 in
theorem ggX4_pullBack_X4_lean : GoodIn wsX4_pullBack wsX4_lean := goodIn_r _ [6, 7, 8, 9, 10, 11, 12, 13, 14, 15, 16, 17, 18] (by decide +kernel) (by decide +kernel)
set_option maxRecDepth 20000 in
theorem gX4_pullBack_X4_lean : GoodIn wsX4_pullBack (wsV RX4 61 RX4 yX4_lean wsX4_lean) := goodIn_app (goodIn_of _ (by decide +kernel)) ggX4_pullBack_X4_lean
theorem dX4_pullBack_0 : decode cX4_pullBack 0 = .ok (.aload_n 0, 1) := by decide +kernel
theorem dX4_pullBack_1 : decode cX4_pullBack 1 = .ok (.getfield 28, 3) := by decide +kernel
theorem dX4_pullBack_4 : decode cX4_pullBack 4 = .ok (.aload_n 0, 1) := by decide +kernel
theorem dX4_pullBack_5 : decode cX4_pullBack 5 = .ok (.invokevirtual 61, 3) := by decide +kernel
theorem dX4_pullBack_8 : decode cX4_pullBack 8 = .ok (.imul, 1) := by decide +kernel
theorem dX4_pullBack_9 : decode cX4_pullBack 9 = .ok (.ireturn, 1) := by decide +kernel
set_option maxRecDepth 20000 in
theorem ggX4_isFallen_X4_lean : GoodIn wsX4_isFallen wsX4_lean := goodIn_r _ [6, 7, 8, 9, 10, 11, 12, 13, 14, 15, 16, 17, 18] (by decide +kernel) (by decide +kernel)
set_option maxRecDepth 20000 in
theorem gX4_isFallen_X4_lean : GoodIn wsX4_isFallen (wsV RX4 61 RX4 yX4_lean wsX4_lean) := goodIn_app (goodIn_of _ (by decide +kernel)) ggX4_isFallen_X4_lean
theorem dX4_isFallen_0 : decode cX4_isFallen 0 = .ok (.aload_n 0, 1) := by decide +kernel
theorem dX4_isFallen_1 : decode cX4_isFallen 1 = .ok (.invokevirtual 61, 3) := by decide +kernel
theorem dX4_isFallen_4 : decode cX4_isFallen 4 = .ok (.aload_n 0, 1) := by decide +kernel
theorem dX4_isFallen_5 : decode cX4_isFallen 5 = .ok (.getfield 31, 3) := by decide +kernel
theorem dX4_isFallen_8 : decode cX4_isFallen 8 = .ok (.if_icmp .le 7, 3) := by decide +kernel
theorem dX4_isFallen_11 : decode cX4_isFallen 11 = .ok (.iconst 1, 1) := by decide +kernel
theorem dX4_isFallen_12 : decode cX4_isFallen 12 = .ok (.goto 4, 3) := by decide +kernel
theorem dX4_isFallen_15 : decode cX4_isFallen 15 = .ok (.iconst 0, 1) := by decide +kernel
theorem dX4_isFallen_16 : decode cX4_isFallen 16 = .ok (.ireturn, 1) := by decide +kernel
set_option maxRecDepth 20000 in
theorem ggX4_holder_X4_lean : GoodIn wsX4_holder wsX4_lean := goodIn_r _ [8, 9, 10, 11, 12, 13, 27, 28, 29, 30, 31, 32, 33] (by decide +kernel) (by decide +kernel)
set_option maxRecDepth 20000 in
theorem gX4_holder_X4_lean : GoodIn wsX4_holder (wsV RX4 61 RX4 yX4_lean wsX4_lean) := goodIn_app (goodIn_of _ (by decide +kernel)) ggX4_holder_X4_lean
set_option maxRecDepth 20000 in
theorem ggX4_holder_X4_force : GoodIn wsX4_holder wsX4_force := goodIn_r _ [17, 9, 18, 19, 20, 21, 7, 22, 23, 11, 12, 13, 24, 25, 26, 27, 28, 29, 30, 31, 32, 33] (by decide +kernel) (by decide +kernel)
set_option maxRecDepth 20000 in
theorem gX4_holder_X4_force : GoodIn wsX4_holder (wsV RX4 65 RX4 yX4_force wsX4_force) := goodIn_app (goodIn_of _ (by decide +kernel)) ggX4_holder_X4_force
theorem dX4_holder_0 : decode cX4_holder 0 = .ok (.aload_n 0, 1) := by decide +kernel
theorem dX4_holder_1 : decode cX4_holder 1 = .ok (.invokevirtual 61, 3) := by decide +kernel
theorem dX4_holder_4 : decode cX4_holder 4 = .ok (.istore_n 1, 1) := by decide +kernel
theorem dX4_holder_5 : decode cX4_holder 5 = .ok (.iload_n 1, 1) := by decide +kernel
theorem dX4_holder_6 : decode cX4_holder 6 = .ok (.aload_n 0, 1) := by decide +kernel
theorem dX4_holder_7 : decode cX4_holder 7 = .ok (.getfield 31, 3) := by decide +kernel
theorem dX4_holder_10 : decode cX4_holder 10 = .ok (.if_icmp .le 6, 3) := by decide +kernel
theorem dX4_holder_13 : decode cX4_holder 13 = .ok (.bipush (-4), 2) := by decide +kernel
theorem dX4_holder_15 : decode cX4_holder 15 = .ok (.ireturn, 1) := by decide +kernel
theorem dX4_holder_16 : decode cX4_holder 16 = .ok (.bipush (-4), 2) := by decide +kernel
theorem dX4_holder_18 : decode cX4_holder 18 = .ok (.istore_n 2, 1) := by decide +kernel
theorem dX4_holder_19 : decode cX4_holder 19 = .ok (.aload_n 0, 1) := by decide +kernel
theorem dX4_holder_20 : decode cX4_holder 20 = .ok (.getfield 28, 3) := by decide +kernel
theorem dX4_holder_23 : decode cX4_holder 23 = .ok (.iload_n 1, 1) := by decide +kernel
theorem dX4_holder_24 : decode cX4_holder 24 = .ok (.imul, 1) := by decide +kernel
theorem dX4_holder_25 : decode cX4_holder 25 = .ok (.istore_n 3, 1) := by decide +kernel
theorem dX4_holder_26 : decode cX4_holder 26 = .ok (.iconst 0, 1) := by decide +kernel
theorem dX4_holder_27 : decode cX4_holder 27 = .ok (.istore 4, 2) := by decide +kernel
theorem dX4_holder_29 : decode cX4_holder 29 = .ok (.iload 4, 2) := by decide +kernel
theorem dX4_holder_31 : decode cX4_holder 31 = .ok (.aload_n 0, 1) := by decide +kernel
theorem dX4_holder_32 : decode cX4_holder 32 = .ok (.getfield 18, 3) := by decide +kernel
theorem dX4_holder_35 : decode cX4_holder 35 = .ok (.if_icmp .ge 29, 3) := by decide +kernel
theorem dX4_holder_38 : decode cX4_holder 38 = .ok (.aload_n 0, 1) := by decide +kernel
theorem dX4_holder_39 : decode cX4_holder 39 = .ok (.iload 4, 2) := by decide +kernel
theorem dX4_holder_41 : decode cX4_holder 41 = .ok (.invokevirtual 65, 3) := by decide +kernel
theorem dX4_holder_44 : decode cX4_holder 44 = .ok (.istore 5, 2) := by decide +kernel
theorem dX4_holder_46 : decode cX4_holder 46 = .ok (.iload 5, 2) := by decide +kernel
theorem dX4_holder_48 : decode cX4_holder 48 = .ok (.iload_n 3, 1) := by decide +kernel
theorem dX4_holder_49 : decode cX4_holder 49 = .ok (.if_icmp .le 9, 3) := by decide +kernel
theorem dX4_holder_52 : decode cX4_holder 52 = .ok (.iload 4, 2) := by decide +kernel
theorem dX4_holder_54 : decode cX4_holder 54 = .ok (.istore_n 2, 1) := by decide +kernel
theorem dX4_holder_55 : decode cX4_holder 55 = .ok (.iload 5, 2) := by decide +kernel
theorem dX4_holder_57 : decode cX4_holder 57 = .ok (.istore_n 3, 1) := by decide +kernel
theorem dX4_holder_58 : decode cX4_holder 58 = .ok (.iinc 4 1, 3) := by decide +kernel
theorem dX4_holder_61 : decode cX4_holder 61 = .ok (.goto (-32), 3) := by decide +kernel
theorem dX4_holder_64 : decode cX4_holder 64 = .ok (.iload_n 2, 1) := by decide +kernel
theorem dX4_holder_65 : decode cX4_holder 65 = .ok (.ireturn, 1) := by decide +kernel
set_option maxRecDepth 20000 in
theorem ggX4_nextPoint_X4_isFallen : GoodIn wsX4_nextPoint wsX4_isFallen := goodIn_r _ [7, 8, 9, 10, 11, 6, 12, 1, 2, 13, 14, 15, 31, 32, 33, 34, 35, 36, 37] (by decide +kernel) (by decide +kernel)
set_option maxRecDepth 20000 in
theorem gX4_nextPoint_X4_isFallen : GoodIn wsX4_nextPoint (wsV RX4 69 RX4 yX4_isFallen wsX4_isFallen) := goodIn_app (goodIn_of _ (by decide +kernel)) ggX4_nextPoint_X4_isFallen
set_option maxRecDepth 20000 in
theorem ggX4_nextPoint_X4_trait : GoodIn wsX4_nextPoint wsX4_trait := goodIn_r _ [19, 20, 31, 32, 33, 34, 35, 36, 37] (by decide +kernel) (by decide +kernel)
set_option maxRecDepth 20000 in
theorem gX4_nextPoint_X4_trait : GoodIn wsX4_nextPoint (wsV RX4 51 RX4 yX4_trait wsX4_trait) := goodIn_app (goodIn_of _ (by decide +kernel)) ggX4_nextPoint_X4_trait
set_option maxRecDepth 20000 in
theorem ggX4_nextPoint_X4_stepTowards : GoodIn wsX4_nextPoint wsX4_stepTowards := goodIn_r _ [24, 1, 25, 26, 27, 28, 29, 14, 30, 31, 32, 33, 34, 35, 36, 37] (by decide +kernel) (by decide +kernel)
set_option maxRecDepth 20000 in
theorem gX4_nextPoint_X4_stepTowards : GoodIn wsX4_nextPoint (wsV RX4 72 RX4 yX4_stepTowards wsX4_stepTowards) := goodIn_app (goodIn_of _ (by decide +kernel)) ggX4_nextPoint_X4_stepTowards
theorem dX4_nextPoint_0 : decode cX4_nextPoint 0 = .ok (.aload_n 0, 1) := by decide +kernel
theorem dX4_nextPoint_1 : decode cX4_nextPoint 1 = .ok (.invokevirtual 69, 3) := by decide +kernel
theorem dX4_nextPoint_4 : decode cX4_nextPoint 4 = .ok (.ifCond .eq 8, 3) := by decide +kernel
theorem dX4_nextPoint_7 : decode cX4_nextPoint 7 = .ok (.aload_n 0, 1) := by decide +kernel
theorem dX4_nextPoint_8 : decode cX4_nextPoint 8 = .ok (.getfield 25, 3) := by decide +kernel
theorem dX4_nextPoint_11 : decode cX4_nextPoint 11 = .ok (.ireturn, 1) := by decide +kernel
theorem dX4_nextPoint_12 : decode cX4_nextPoint 12 = .ok (.aload_n 0, 1) := by decide +kernel
theorem dX4_nextPoint_13 : decode cX4_nextPoint 13 = .ok (.iload_n 1, 1) := by decide +kernel
theorem dX4_nextPoint_14 : decode cX4_nextPoint 14 = .ok (.bipush (-4), 2) := by decide +kernel
theorem dX4_nextPoint_16 : decode cX4_nextPoint 16 = .ok (.if_icmp .ne 10, 3) := by decide +kernel
theorem dX4_nextPoint_19 : decode cX4_nextPoint 19 = .ok (.aload_n 0, 1) := by decide +kernel
theorem dX4_nextPoint_20 : decode cX4_nextPoint 20 = .ok (.getfield 22, 3) := by decide +kernel
theorem dX4_nextPoint_23 : decode cX4_nextPoint 23 = .ok (.goto 9, 3) := by decide +kernel
theorem dX4_nextPoint_26 : decode cX4_nextPoint 26 = .ok (.aload_n 0, 1) := by decide +kernel
theorem dX4_nextPoint_27 : decode cX4_nextPoint 27 = .ok (.iload_n 1, 1) := by decide +kernel
theorem dX4_nextPoint_28 : decode cX4_nextPoint 28 = .ok (.iconst 2, 1) := by decide +kernel
theorem dX4_nextPoint_29 : decode cX4_nextPoint 29 = .ok (.invokevirtual 51, 3) := by decide +kernel
theorem dX4_nextPoint_32 : decode cX4_nextPoint 32 = .ok (.invokevirtual 72, 3) := by decide +kernel
theorem dX4_nextPoint_35 : decode cX4_nextPoint 35 = .ok (.ireturn, 1) := by decide +kernel
set_option maxRecDepth 20000 in
theorem ggX4_stepTowards_X5_sign : GoodIn wsX4_stepTowards wsX5_sign := goodIn_r _ [8] (by decide +kernel) (by decide +kernel)
set_option maxRecDepth 20000 in
theorem gX4_stepTowards_X5_sign_n80 : GoodIn wsX4_stepTowards (wsX5_sign) := ggX4_stepTowards_X5_sign
theorem dX4_stepTowards_0 : decode cX4_stepTowards 0 = .ok (.iload_n 1, 1) := by decide +kernel
theorem dX4_stepTowards_1 : decode cX4_stepTowards 1 = .ok (.bipush 10, 2) := by decide +kernel
theorem dX4_stepTowards_3 : decode cX4_stepTowards 3 = .ok (.idiv, 1) := by decide +kernel
theorem dX4_stepTowards_4 : decode cX4_stepTowards 4 = .ok (.aload_n 0, 1) := by decide +kernel
theorem dX4_stepTowards_5 : decode cX4_stepTowards 5 = .ok (.getfield 25, 3) := by decide +kernel
theorem dX4_stepTowards_8 : decode cX4_stepTowards 8 = .ok (.bipush 10, 2) := by decide +kernel
theorem dX4_stepTowards_10 : decode cX4_stepTowards 10 = .ok (.idiv, 1) := by decide +kernel
theorem dX4_stepTowards_11 : decode cX4_stepTowards 11 = .ok (.isub, 1) := by decide +kernel
theorem dX4_stepTowards_12 : decode cX4_stepTowards 12 = .ok (.istore_n 2, 1) := by decide +kernel
theorem dX4_stepTowards_13 : decode cX4_stepTowards 13 = .ok (.iload_n 1, 1) := by decide +kernel
theorem dX4_stepTowards_14 : decode cX4_stepTowards 14 = .ok (.bipush 10, 2) := by decide +kernel
theorem dX4_stepTowards_16 : decode cX4_stepTowards 16 = .ok (.irem, 1) := by decide +kernel
theorem dX4_stepTowards_17 : decode cX4_stepTowards 17 = .ok (.aload_n 0, 1) := by decide +kernel
theorem dX4_stepTowards_18 : decode cX4_stepTowards 18 = .ok (.getfield 25, 3) := by decide +kernel
theorem dX4_stepTowards_21 : decode cX4_stepTowards 21 = .ok (.bipush 10, 2) := by decide +kernel
theorem dX4_stepTowards_23 : decode cX4_stepTowards 23 = .ok (.irem, 1) := by decide +kernel
theorem dX4_stepTowards_24 : decode cX4_stepTowards 24 = .ok (.isub, 1) := by decide +kernel
theorem dX4_stepTowards_25 : decode cX4_stepTowards 25 = .ok (.istore_n 3, 1) := by decide +kernel
theorem dX4_stepTowards_26 : decode cX4_stepTowards 26 = .ok (.iload_n 2, 1) := by decide +kernel
theorem dX4_stepTowards_27 : decode cX4_stepTowards 27 = .ok (.invokestatic 75, 3) := by decide +kernel
theorem dX4_stepTowards_30 : decode cX4_stepTowards 30 = .ok (.iload_n 3, 1) := by decide +kernel
theorem dX4_stepTowards_31 : decode cX4_stepTowards 31 = .ok (.invokestatic 75, 3) := by decide +kernel
theorem dX4_stepTowards_34 : decode cX4_stepTowards 34 = .ok (.if_icmp .lt 16, 3) := by decide +kernel
theorem dX4_stepTowards_37 : decode cX4_stepTowards 37 = .ok (.aload_n 0, 1) := by decide +kernel
theorem dX4_stepTowards_38 : decode cX4_stepTowards 38 = .ok (.getfield 25, 3) := by decide +kernel
theorem dX4_stepTowards_41 : decode cX4_stepTowards 41 = .ok (.bipush 10, 2) := by decide +kernel
theorem dX4_stepTowards_43 : decode cX4_stepTowards 43 = .ok (.iload_n 2, 1) := by decide +kernel
theorem dX4_stepTowards_44 : decode cX4_stepTowards 44 = .ok (.invokestatic 80, 3) := by decide +kernel
theorem dX4_stepTowards_47 : decode cX4_stepTowards 47 = .ok (.imul, 1) := by decide +kernel
theorem dX4_stepTowards_48 : decode cX4_stepTowards 48 = .ok (.iadd, 1) := by decide +kernel
theorem dX4_stepTowards_49 : decode cX4_stepTowards 49 = .ok (.ireturn, 1) := by decide +kernel
theorem dX4_stepTowards_50 : decode cX4_stepTowards 50 = .ok (.aload_n 0, 1) := by decide +kernel
theorem dX4_stepTowards_51 : decode cX4_stepTowards 51 = .ok (.getfield 25, 3) := by decide +kernel
theorem dX4_stepTowards_54 : decode cX4_stepTowards 54 = .ok (.iload_n 3, 1) := by decide +kernel
theorem dX4_stepTowards_55 : decode cX4_stepTowards 55 = .ok (.invokestatic 80, 3) := by decide +kernel
theorem dX4_stepTowards_58 : decode cX4_stepTowards 58 = .ok (.iadd, 1) := by decide +kernel
theorem dX4_stepTowards_59 : decode cX4_stepTowards 59 = .ok (.ireturn, 1) := by decide +kernel
set_option maxRecDepth 20000 in
theorem ggX4_passYear_X4_holder : GoodIn wsX4_passYear wsX4_holder := goodIn_r _ [7, 8, 9, 10, 11, 12, 13, 6, 14, 1, 15, 16, 17, 18, 19, 20, 21, 22, 2, 23, 24, 25, 26, 27, 28, 29, 30, 49, 50, 51, 52, 53, 54, 55] (by decide +kernel) (by decide +kernel)
set_option maxRecDepth 20000 in
theorem gX4_passYear_X4_holder : GoodIn wsX4_passYear (wsV RX4 83 RX4 yX4_holder wsX4_holder) := goodIn_app (goodIn_of _ (by decide +kernel)) ggX4_passYear_X4_holder
set_option maxRecDepth 20000 in
theorem ggX4_passYear_X4_nextPoint : GoodIn wsX4_passYear wsX4_nextPoint := goodIn_r _ [34, 1, 15, 35, 36, 37, 6, 38, 8, 11, 12, 13, 14, 16, 17, 18, 23, 24, 25, 26, 27, 39, 40, 41, 42, 43, 44, 45, 46, 47, 48, 49, 50, 51, 52, 53, 54, 55] (by decide +kernel) (by decide +kernel)
set_option maxRecDepth 20000 in
theorem gX4_passYear_X4_nextPoint : GoodIn wsX4_passYear (wsV RX4 86 RX4 yX4_nextPoint wsX4_nextPoint) := goodIn_app (goodIn_of _ (by decide +kernel)) ggX4_passYear_X4_nextPoint
theorem dX4_passYear_0 : decode cX4_passYear 0 = .ok (.aload_n 0, 1) := by decide +kernel
theorem dX4_passYear_1 : decode cX4_passYear 1 = .ok (.invokevirtual 83, 3) := by decide +kernel
theorem dX4_passYear_4 : decode cX4_passYear 4 = .ok (.istore_n 1, 1) := by decide +kernel
theorem dX4_passYear_5 : decode cX4_passYear 5 = .ok (.aload_n 0, 1) := by decide +kernel
theorem dX4_passYear_6 : decode cX4_passYear 6 = .ok (.aload_n 0, 1) := by decide +kernel
theorem dX4_passYear_7 : decode cX4_passYear 7 = .ok (.iload_n 1, 1) := by decide +kernel
theorem dX4_passYear_8 : decode cX4_passYear 8 = .ok (.invokevirtual 86, 3) := by decide +kernel
theorem dX4_passYear_11 : decode cX4_passYear 11 = .ok (.putfield 25, 3) := by decide +kernel
theorem dX4_passYear_14 : decode cX4_passYear 14 = .ok (.aload_n 0, 1) := by decide +kernel
theorem dX4_passYear_15 : decode cX4_passYear 15 = .ok (.dup, 1) := by decide +kernel
theorem dX4_passYear_16 : decode cX4_passYear 16 = .ok (.getfield 34, 3) := by decide +kernel
theorem dX4_passYear_19 : decode cX4_passYear 19 = .ok (.iconst 1, 1) := by decide +kernel
theorem dX4_passYear_20 : decode cX4_passYear 20 = .ok (.iadd, 1) := by decide +kernel
theorem dX4_passYear_21 : decode cX4_passYear 21 = .ok (.putfield 34, 3) := by decide +kernel
theorem dX4_passYear_24 : decode cX4_passYear 24 = .ok (.iload_n 1, 1) := by decide +kernel
theorem dX4_passYear_25 : decode cX4_passYear 25 = .ok (.ireturn, 1) := by decide +kernel
set_option maxRecDepth 20000 in
theorem ggX4_passYears_X4_passYear : GoodIn wsX4_passYears wsX4_passYear := goodIn_r _ [5, 6, 7, 8, 9, 10, 4, 11, 12, 13, 14, 15, 16, 17, 18, 19, 20, 21, 22, 23, 24, 25, 26, 27, 28, 29, 30, 31, 32, 33, 34, 35, 36, 37, 38, 39, 40, 41, 42, 43, 44, 45, 46, 47, 48, 49, 50, 51, 52, 53, 54, 55, 56, 57, 58, 59] (by decide +kernel) (by decide +kernel)
set_option maxRecDepth 20000 in
theorem gX4_passYears_X4_passYear : GoodIn wsX4_passYears (wsV RX4 89 RX4 yX4_passYear wsX4_passYear) := goodIn_app (goodIn_of _ (by decide +kernel)) ggX4_passYears_X4_passYear
theorem dX4_passYears_0 : decode cX4_passYears 0 = .ok (.iconst 0, 1) := by decide +kernel
theorem dX4_passYears_1 : decode cX4_passYears 1 = .ok (.istore_n 2, 1) := by decide +kernel
theorem dX4_passYears_2 : decode cX4_passYears 2 = .ok (.iload_n 2, 1) := by decide +kernel
theorem dX4_passYears_3 : decode cX4_passYears 3 = .ok (.iload_n 1, 1) := by decide +kernel
theorem dX4_passYears_4 : decode cX4_passYears 4 = .ok (.if_icmp .ge 14, 3) := by decide +kernel
theorem dX4_passYears_7 : decode cX4_passYears 7 = .ok (.aload_n 0, 1) := by decide +kernel
theorem dX4_passYears_8 : decode cX4_passYears 8 = .ok (.invokevirtual 89, 3) := by decide +kernel
theorem dX4_passYears_11 : decode cX4_passYears 11 = .ok (.pop, 1) := by decide +kernel
theorem dX4_passYears_12 : decode cX4_passYears 12 = .ok (.iinc 2 1, 3) := by decide +kernel
theorem dX4_passYears_15 : decode cX4_passYears 15 = .ok (.goto (-13), 3) := by decide +kernel
theorem dX4_passYears_18 : decode cX4_passYears 18 = .ok (.return_, 1) := by decide +kernel
set_option maxRecDepth 20000 in
theorem ggX4_greatestLean_X4_lean : GoodIn wsX4_greatestLean wsX4_lean := goodIn_r _ [9, 10, 11, 12, 13, 14, 56, 57, 58, 59, 60, 61, 62] (by decide +kernel) (by decide +kernel)
set_option maxRecDepth 20000 in
theorem gX4_greatestLean_X4_lean : GoodIn wsX4_greatestLean (wsV RX4 61 RX4 yX4_lean wsX4_lean) := goodIn_app (goodIn_of _ (by decide +kernel)) ggX4_greatestLean_X4_lean
set_option maxRecDepth 20000 in
theorem ggX4_greatestLean_X4_passYear : GoodIn wsX4_greatestLean wsX4_passYear := goodIn_r _ [18, 10, 19, 20, 21, 22, 8, 23, 24, 25, 26, 5, 6, 7, 9, 11, 12, 13, 14, 27, 28, 29, 30, 31, 32, 33, 34, 35, 36, 37, 38, 39, 40, 41, 42, 43, 44, 45, 46, 47, 48, 49, 50, 51, 52, 3, 53, 54, 55, 56, 57, 58, 59, 60, 61, 62] (by decide +kernel) (by decide +kernel)
set_option maxRecDepth 20000 in
theorem gX4_greatestLean_X4_passYear : GoodIn wsX4_greatestLean (wsV RX4 89 RX4 yX4_passYear wsX4_passYear) := goodIn_app (goodIn_of _ (by decide +kernel)) ggX4_greatestLean_X4_passYear
theorem dX4_greatestLean_0 : decode cX4_greatestLean 0 = .ok (.aload_n 0, 1) := by decide +kernel
theorem dX4_greatestLean_1 : decode cX4_greatestLean 1 = .ok (.invokevirtual 61, 3) := by decide +kernel
theorem dX4_greatestLean_4 : decode cX4_greatestLean 4 = .ok (.istore_n 2, 1) := by decide +kernel
theorem dX4_greatestLean_5 : decode cX4_greatestLean 5 = .ok (.iconst 0, 1) := by decide +kernel
theorem dX4_greatestLean_6 : decode cX4_greatestLean 6 = .ok (.istore_n 3, 1) := by decide +kernel
theorem dX4_greatestLean_7 : decode cX4_greatestLean 7 = .ok (.iload_n 3, 1) := by decide +kernel
theorem dX4_greatestLean_8 : decode cX4_greatestLean 8 = .ok (.iload_n 1, 1) := by decide +kernel
theorem dX4_greatestLean_9 : decode cX4_greatestLean 9 = .ok (.if_icmp .ge 23, 3) := by decide +kernel
theorem dX4_greatestLean_12 : decode cX4_greatestLean 12 = .ok (.aload_n 0, 1) := by decide +kernel
theorem dX4_greatestLean_13 : decode cX4_greatestLean 13 = .ok (.invokevirtual 89, 3) := by decide +kernel
theorem dX4_greatestLean_16 : decode cX4_greatestLean 16 = .ok (.pop, 1) := by decide +kernel
theorem dX4_greatestLean_17 : decode cX4_greatestLean 17 = .ok (.iload_n 2, 1) := by decide +kernel
theorem dX4_greatestLean_18 : decode cX4_greatestLean 18 = .ok (.aload_n 0, 1) := by decide +kernel
theorem dX4_greatestLean_19 : decode cX4_greatestLean 19 = .ok (.invokevirtual 61, 3) := by decide +kernel
theorem dX4_greatestLean_22 : decode cX4_greatestLean 22 = .ok (.invokestatic 92, 3) := by decide +kernel
theorem dX4_greatestLean_25 : decode cX4_greatestLean 25 = .ok (.istore_n 2, 1) := by decide +kernel
theorem dX4_greatestLean_26 : decode cX4_greatestLean 26 = .ok (.iinc 3 1, 3) := by decide +kernel
theorem dX4_greatestLean_29 : decode cX4_greatestLean 29 = .ok (.goto (-22), 3) := by decide +kernel
theorem dX4_greatestLean_32 : decode cX4_greatestLean 32 = .ok (.iload_n 2, 1) := by decide +kernel
theorem dX4_greatestLean_33 : decode cX4_greatestLean 33 = .ok (.ireturn, 1) := by decide +kernel
set_option maxRecDepth 20000 in
theorem ggX4_movesIn_X4_passYear : GoodIn wsX4_movesIn wsX4_passYear := goodIn_r _ [6, 1, 7, 8, 9, 10, 5, 11, 12, 13, 14, 15, 16, 17, 18, 19, 20, 21, 22, 23, 24, 25, 26, 27, 28, 29, 30, 31, 32, 33, 34, 35, 36, 37, 38, 39, 40, 41, 42, 43, 44, 45, 46, 47, 48, 49, 50, 51, 52, 53, 54, 55, 56, 57, 58, 59] (by decide +kernel) (by decide +kernel)
set_option maxRecDepth 20000 in
theorem gX4_movesIn_X4_passYear : GoodIn wsX4_movesIn (wsV RX4 89 RX4 yX4_passYear wsX4_passYear) := goodIn_app (goodIn_of _ (by decide +kernel)) ggX4_movesIn_X4_passYear
theorem dX4_movesIn_0 : decode cX4_movesIn 0 = .ok (.iconst 0, 1) := by decide +kernel
theorem dX4_movesIn_1 : decode cX4_movesIn 1 = .ok (.istore_n 2, 1) := by decide +kernel
theorem dX4_movesIn_2 : decode cX4_movesIn 2 = .ok (.iconst 0, 1) := by decide +kernel
theorem dX4_movesIn_3 : decode cX4_movesIn 3 = .ok (.istore_n 3, 1) := by decide +kernel
theorem dX4_movesIn_4 : decode cX4_movesIn 4 = .ok (.iload_n 3, 1) := by decide +kernel
theorem dX4_movesIn_5 : decode cX4_movesIn 5 = .ok (.iload_n 1, 1) := by decide +kernel
theorem dX4_movesIn_6 : decode cX4_movesIn 6 = .ok (.if_icmp .ge 32, 3) := by decide +kernel
theorem dX4_movesIn_9 : decode cX4_movesIn 9 = .ok (.aload_n 0, 1) := by decide +kernel
theorem dX4_movesIn_10 : decode cX4_movesIn 10 = .ok (.getfield 25, 3) := by decide +kernel
theorem dX4_movesIn_13 : decode cX4_movesIn 13 = .ok (.istore 4, 2) := by decide +kernel
theorem dX4_movesIn_15 : decode cX4_movesIn 15 = .ok (.aload_n 0, 1) := by decide +kernel
theorem dX4_movesIn_16 : decode cX4_movesIn 16 = .ok (.invokevirtual 89, 3) := by decide +kernel
theorem dX4_movesIn_19 : decode cX4_movesIn 19 = .ok (.pop, 1) := by decide +kernel
theorem dX4_movesIn_20 : decode cX4_movesIn 20 = .ok (.aload_n 0, 1) := by decide +kernel
theorem dX4_movesIn_21 : decode cX4_movesIn 21 = .ok (.getfield 25, 3) := by decide +kernel
theorem dX4_movesIn_24 : decode cX4_movesIn 24 = .ok (.iload 4, 2) := by decide +kernel
theorem dX4_movesIn_26 : decode cX4_movesIn 26 = .ok (.if_icmp .eq 6, 3) := by decide +kernel
theorem dX4_movesIn_29 : decode cX4_movesIn 29 = .ok (.iinc 2 1, 3) := by decide +kernel
theorem dX4_movesIn_32 : decode cX4_movesIn 32 = .ok (.iinc 3 1, 3) := by decide +kernel
theorem dX4_movesIn_35 : decode cX4_movesIn 35 = .ok (.goto (-31), 3) := by decide +kernel
theorem dX4_movesIn_38 : decode cX4_movesIn 38 = .ok (.iload_n 2, 1) := by decide +kernel
theorem dX4_movesIn_39 : decode cX4_movesIn 39 = .ok (.ireturn, 1) := by decide +kernel
set_option maxRecDepth 20000 in
theorem ggX4_holdersIn_X4_passYear : GoodIn wsX4_holdersIn wsX4_passYear := goodIn_r _ [5, 6, 7, 8, 9, 10, 4, 11, 12, 13, 14, 15, 16, 17, 18, 19, 20, 21, 22, 23, 24, 25, 26, 27, 28, 29, 30, 31, 32, 33, 34, 35, 36, 37, 38, 39, 40, 41, 42, 43, 44, 45, 46, 47, 48, 49, 50, 51, 52, 53, 54, 55, 56, 57, 58, 59] (by decide +kernel) (by decide +kernel)
set_option maxRecDepth 20000 in
theorem gX4_holdersIn_X4_passYear : GoodIn wsX4_holdersIn (wsV RX4 89 RX4 yX4_passYear wsX4_passYear) := goodIn_app (goodIn_of _ (by decide +kernel)) ggX4_holdersIn_X4_passYear
theorem dX4_holdersIn_0 : decode cX4_holdersIn 0 = .ok (.iconst 0, 1) := by decide +kernel
theorem dX4_holdersIn_1 : decode cX4_holdersIn 1 = .ok (.istore_n 2, 1) := by decide +kernel
theorem dX4_holdersIn_2 : decode cX4_holdersIn 2 = .ok (.iconst 0, 1) := by decide +kernel
theorem dX4_holdersIn_3 : decode cX4_holdersIn 3 = .ok (.istore_n 3, 1) := by decide +kernel
theorem dX4_holdersIn_4 : decode cX4_holdersIn 4 = .ok (.iload_n 3, 1) := by decide +kernel
theorem dX4_holdersIn_5 : decode cX4_holdersIn 5 = .ok (.iload_n 1, 1) := by decide +kernel
theorem dX4_holdersIn_6 : decode cX4_holdersIn 6 = .ok (.if_icmp .ge 29, 3) := by decide +kernel
theorem dX4_holdersIn_9 : decode cX4_holdersIn 9 = .ok (.aload_n 0, 1) := by decide +kernel
theorem dX4_holdersIn_10 : decode cX4_holdersIn 10 = .ok (.invokevirtual 89, 3) := by decide +kernel
theorem dX4_holdersIn_13 : decode cX4_holdersIn 13 = .ok (.istore 4, 2) := by decide +kernel
theorem dX4_holdersIn_15 : decode cX4_holdersIn 15 = .ok (.iload 4, 2) := by decide +kernel
theorem dX4_holdersIn_17 : decode cX4_holdersIn 17 = .ok (.bipush (-4), 2) := by decide +kernel
theorem dX4_holdersIn_19 : decode cX4_holdersIn 19 = .ok (.if_icmp .eq 10, 3) := by decide +kernel
theorem dX4_holdersIn_22 : decode cX4_holdersIn 22 = .ok (.iload_n 2, 1) := by decide +kernel
theorem dX4_holdersIn_23 : decode cX4_holdersIn 23 = .ok (.iconst 1, 1) := by decide +kernel
theorem dX4_holdersIn_24 : decode cX4_holdersIn 24 = .ok (.iload 4, 2) := by decide +kernel
theorem dX4_holdersIn_26 : decode cX4_holdersIn 26 = .ok (.ishl, 1) := by decide +kernel
theorem dX4_holdersIn_27 : decode cX4_holdersIn 27 = .ok (.ior, 1) := by decide +kernel
theorem dX4_holdersIn_28 : decode cX4_holdersIn 28 = .ok (.istore_n 2, 1) := by decide +kernel
theorem dX4_holdersIn_29 : decode cX4_holdersIn 29 = .ok (.iinc 3 1, 3) := by decide +kernel
theorem dX4_holdersIn_32 : decode cX4_holdersIn 32 = .ok (.goto (-28), 3) := by decide +kernel
theorem dX4_holdersIn_35 : decode cX4_holdersIn 35 = .ok (.iload_n 2, 1) := by decide +kernel
theorem dX4_holdersIn_36 : decode cX4_holdersIn 36 = .ok (.ireturn, 1) := by decide +kernel
set_option maxRecDepth 20000 in
theorem ggX4_yearsHeldBy_X4_passYear : GoodIn wsX4_yearsHeldBy wsX4_passYear := goodIn_r _ [5, 6, 7, 8, 9, 10, 4, 11, 12, 13, 14, 15, 16, 17, 18, 19, 20, 21, 22, 23, 24, 25, 26, 27, 28, 29, 30, 31, 32, 33, 34, 35, 36, 37, 38, 39, 40, 41, 42, 43, 44, 45, 46, 47, 48, 49, 50, 51, 52, 53, 54, 55, 56, 57, 58, 59] (by decide +kernel) (by decide +kernel)
set_option maxRecDepth 20000 in
theorem gX4_yearsHeldBy_X4_passYear : GoodIn wsX4_yearsHeldBy (wsV RX4 89 RX4 yX4_passYear wsX4_passYear) := goodIn_app (goodIn_of _ (by decide +kernel)) ggX4_yearsHeldBy_X4_passYear
theorem dX4_yearsHeldBy_0 : decode cX4_yearsHeldBy 0 = .ok (.iconst 0, 1) := by decide +kernel
theorem dX4_yearsHeldBy_1 : decode cX4_yearsHeldBy 1 = .ok (.istore_n 3, 1) := by decide +kernel
theorem dX4_yearsHeldBy_2 : decode cX4_yearsHeldBy 2 = .ok (.iconst 0, 1) := by decide +kernel
theorem dX4_yearsHeldBy_3 : decode cX4_yearsHeldBy 3 = .ok (.istore 4, 2) := by decide +kernel
theorem dX4_yearsHeldBy_5 : decode cX4_yearsHeldBy 5 = .ok (.iload 4, 2) := by decide +kernel
theorem dX4_yearsHeldBy_7 : decode cX4_yearsHeldBy 7 = .ok (.iload_n 2, 1) := by decide +kernel
theorem dX4_yearsHeldBy_8 : decode cX4_yearsHeldBy 8 = .ok (.if_icmp .ge 20, 3) := by decide +kernel
theorem dX4_yearsHeldBy_11 : decode cX4_yearsHeldBy 11 = .ok (.aload_n 0, 1) := by decide +kernel
theorem dX4_yearsHeldBy_12 : decode cX4_yearsHeldBy 12 = .ok (.invokevirtual 89, 3) := by decide +kernel
theorem dX4_yearsHeldBy_15 : decode cX4_yearsHeldBy 15 = .ok (.iload_n 1, 1) := by decide +kernel
theorem dX4_yearsHeldBy_16 : decode cX4_yearsHeldBy 16 = .ok (.if_icmp .ne 6, 3) := by decide +kernel
theorem dX4_yearsHeldBy_19 : decode cX4_yearsHeldBy 19 = .ok (.iinc 3 1, 3) := by decide +kernel
theorem dX4_yearsHeldBy_22 : decode cX4_yearsHeldBy 22 = .ok (.iinc 4 1, 3) := by decide +kernel
theorem dX4_yearsHeldBy_25 : decode cX4_yearsHeldBy 25 = .ok (.goto (-20), 3) := by decide +kernel
theorem dX4_yearsHeldBy_28 : decode cX4_yearsHeldBy 28 = .ok (.iload_n 3, 1) := by decide +kernel
theorem dX4_yearsHeldBy_29 : decode cX4_yearsHeldBy 29 = .ok (.ireturn, 1) := by decide +kernel
set_option maxRecDepth 20000 in
theorem ggX4_yearsTo_X4_passYear : GoodIn wsX4_yearsTo wsX4_passYear := goodIn_r _ [6, 1, 7, 8, 9, 10, 5, 11, 12, 13, 14, 15, 16, 17, 18, 19, 20, 21, 22, 23, 24, 25, 26, 27, 28, 29, 30, 31, 32, 33, 34, 35, 36, 37, 38, 39, 40, 41, 42, 43, 44, 45, 46, 47, 48, 49, 50, 51, 52, 53, 54, 55, 56, 57, 58, 59] (by decide +kernel) (by decide +kernel)
set_option maxRecDepth 20000 in
theorem gX4_yearsTo_X4_passYear : GoodIn wsX4_yearsTo (wsV RX4 89 RX4 yX4_passYear wsX4_passYear) := goodIn_app (goodIn_of _ (by decide +kernel)) ggX4_yearsTo_X4_passYear
theorem dX4_yearsTo_0 : decode cX4_yearsTo 0 = .ok (.iconst 0, 1) := by decide +kernel
theorem dX4_yearsTo_1 : decode cX4_yearsTo 1 = .ok (.istore_n 3, 1) := by decide +kernel
theorem dX4_yearsTo_2 : decode cX4_yearsTo 2 = .ok (.iload_n 3, 1) := by decide +kernel
theorem dX4_yearsTo_3 : decode cX4_yearsTo 3 = .ok (.iload_n 2, 1) := by decide +kernel
theorem dX4_yearsTo_4 : decode cX4_yearsTo 4 = .ok (.if_icmp .gt 24, 3) := by decide +kernel
theorem dX4_yearsTo_7 : decode cX4_yearsTo 7 = .ok (.aload_n 0, 1) := by decide +kernel
theorem dX4_yearsTo_8 : decode cX4_yearsTo 8 = .ok (.getfield 25, 3) := by decide +kernel
theorem dX4_yearsTo_11 : decode cX4_yearsTo 11 = .ok (.iload_n 1, 1) := by decide +kernel
theorem dX4_yearsTo_12 : decode cX4_yearsTo 12 = .ok (.if_icmp .ne 5, 3) := by decide +kernel
theorem dX4_yearsTo_15 : decode cX4_yearsTo 15 = .ok (.iload_n 3, 1) := by decide +kernel
theorem dX4_yearsTo_16 : decode cX4_yearsTo 16 = .ok (.ireturn, 1) := by decide +kernel
theorem dX4_yearsTo_17 : decode cX4_yearsTo 17 = .ok (.aload_n 0, 1) := by decide +kernel
theorem dX4_yearsTo_18 : decode cX4_yearsTo 18 = .ok (.invokevirtual 89, 3) := by decide +kernel
theorem dX4_yearsTo_21 : decode cX4_yearsTo 21 = .ok (.pop, 1) := by decide +kernel
theorem dX4_yearsTo_22 : decode cX4_yearsTo 22 = .ok (.iinc 3 1, 3) := by decide +kernel
theorem dX4_yearsTo_25 : decode cX4_yearsTo 25 = .ok (.goto (-23), 3) := by decide +kernel
theorem dX4_yearsTo_28 : decode cX4_yearsTo 28 = .ok (.bipush (-4), 2) := by decide +kernel
theorem dX4_yearsTo_30 : decode cX4_yearsTo 30 = .ok (.ireturn, 1) := by decide +kernel
set_option maxRecDepth 20000 in
theorem ggX4_yearsToFall_X4_isFallen : GoodIn wsX4_yearsToFall wsX4_isFallen := goodIn_r _ [5, 6, 7, 8, 9, 4, 10, 11, 12, 13, 14, 15, 53, 54, 55, 56, 57, 58, 59] (by decide +kernel) (by decide +kernel)
set_option maxRecDepth 20000 in
theorem gX4_yearsToFall_X4_isFallen : GoodIn wsX4_yearsToFall (wsV RX4 69 RX4 yX4_isFallen wsX4_isFallen) := goodIn_app (goodIn_of _ (by decide +kernel)) ggX4_yearsToFall_X4_isFallen
set_option maxRecDepth 20000 in
theorem ggX4_yearsToFall_X4_passYear : GoodIn wsX4_yearsToFall wsX4_passYear := goodIn_r _ [19, 11, 20, 21, 22, 23, 4, 24, 6, 25, 26, 7, 8, 9, 10, 12, 13, 14, 15, 27, 28, 29, 30, 31, 32, 33, 34, 35, 36, 37, 38, 39, 40, 41, 42, 1, 2, 3, 5, 43, 44, 45, 46, 47, 48, 49, 50, 51, 52, 53, 54, 55, 56, 57, 58, 59] (by decide +kernel) (by decide +kernel)
set_option maxRecDepth 20000 in
theorem gX4_yearsToFall_X4_passYear : GoodIn wsX4_yearsToFall (wsV RX4 89 RX4 yX4_passYear wsX4_passYear) := goodIn_app (goodIn_of _ (by decide +kernel)) ggX4_yearsToFall_X4_passYear
theorem dX4_yearsToFall_0 : decode cX4_yearsToFall 0 = .ok (.iconst 0, 1) := by decide +kernel
theorem dX4_yearsToFall_1 : decode cX4_yearsToFall 1 = .ok (.istore_n 2, 1) := by decide +kernel
theorem dX4_yearsToFall_2 : decode cX4_yearsToFall 2 = .ok (.iload_n 2, 1) := by decide +kernel
theorem dX4_yearsToFall_3 : decode cX4_yearsToFall 3 = .ok (.iload_n 1, 1) := by decide +kernel
theorem dX4_yearsToFall_4 : decode cX4_yearsToFall 4 = .ok (.if_icmp .gt 23, 3) := by decide +kernel
theorem dX4_yearsToFall_7 : decode cX4_yearsToFall 7 = .ok (.aload_n 0, 1) := by decide +kernel
theorem dX4_yearsToFall_8 : decode cX4_yearsToFall 8 = .ok (.invokevirtual 69, 3) := by decide +kernel
theorem dX4_yearsToFall_11 : decode cX4_yearsToFall 11 = .ok (.ifCond .eq 5, 3) := by decide +kernel
theorem dX4_yearsToFall_14 : decode cX4_yearsToFall 14 = .ok (.iload_n 2, 1) := by decide +kernel
theorem dX4_yearsToFall_15 : decode cX4_yearsToFall 15 = .ok (.ireturn, 1) := by decide +kernel
theorem dX4_yearsToFall_16 : decode cX4_yearsToFall 16 = .ok (.aload_n 0, 1) := by decide +kernel
theorem dX4_yearsToFall_17 : decode cX4_yearsToFall 17 = .ok (.invokevirtual 89, 3) := by decide +kernel
theorem dX4_yearsToFall_20 : decode cX4_yearsToFall 20 = .ok (.pop, 1) := by decide +kernel
theorem dX4_yearsToFall_21 : decode cX4_yearsToFall 21 = .ok (.iinc 2 1, 3) := by decide +kernel
theorem dX4_yearsToFall_24 : decode cX4_yearsToFall 24 = .ok (.goto (-22), 3) := by decide +kernel
theorem dX4_yearsToFall_27 : decode cX4_yearsToFall 27 = .ok (.bipush (-4), 2) := by decide +kernel
theorem dX4_yearsToFall_29 : decode cX4_yearsToFall 29 = .ok (.ireturn, 1) := by decide +kernel
set_option maxRecDepth 20000 in
theorem ggX4_pullOfAll_X4_trait : GoodIn wsX4_pullOfAll wsX4_trait := goodIn_r _ [6, 7, 8, 9, 10, 11, 12, 13, 14] (by decide +kernel) (by decide +kernel)
set_option maxRecDepth 20000 in
theorem gX4_pullOfAll_X4_trait : GoodIn wsX4_pullOfAll (wsV RX4 51 RX4 yX4_trait wsX4_trait) := goodIn_app (goodIn_of _ (by decide +kernel)) ggX4_pullOfAll_X4_trait
theorem dX4_pullOfAll_0 : decode cX4_pullOfAll 0 = .ok (.iconst 0, 1) := by decide +kernel
theorem dX4_pullOfAll_1 : decode cX4_pullOfAll 1 = .ok (.istore_n 1, 1) := by decide +kernel
theorem dX4_pullOfAll_2 : decode cX4_pullOfAll 2 = .ok (.iconst 0, 1) := by decide +kernel
theorem dX4_pullOfAll_3 : decode cX4_pullOfAll 3 = .ok (.istore_n 2, 1) := by decide +kernel
theorem dX4_pullOfAll_4 : decode cX4_pullOfAll 4 = .ok (.iload_n 2, 1) := by decide +kernel
theorem dX4_pullOfAll_5 : decode cX4_pullOfAll 5 = .ok (.aload_n 0, 1) := by decide +kernel
theorem dX4_pullOfAll_6 : decode cX4_pullOfAll 6 = .ok (.getfield 18, 3) := by decide +kernel
theorem dX4_pullOfAll_9 : decode cX4_pullOfAll 9 = .ok (.if_icmp .ge 18, 3) := by decide +kernel
theorem dX4_pullOfAll_12 : decode cX4_pullOfAll 12 = .ok (.iload_n 1, 1) := by decide +kernel
theorem dX4_pullOfAll_13 : decode cX4_pullOfAll 13 = .ok (.aload_n 0, 1) := by decide +kernel
theorem dX4_pullOfAll_14 : decode cX4_pullOfAll 14 = .ok (.iload_n 2, 1) := by decide +kernel
theorem dX4_pullOfAll_15 : decode cX4_pullOfAll 15 = .ok (.iconst 1, 1) := by decide +kernel
theorem dX4_pullOfAll_16 : decode cX4_pullOfAll 16 = .ok (.invokevirtual 51, 3) := by decide +kernel
theorem dX4_pullOfAll_19 : decode cX4_pullOfAll 19 = .ok (.iadd, 1) := by decide +kernel
theorem dX4_pullOfAll_20 : decode cX4_pullOfAll 20 = .ok (.istore_n 1, 1) := by decide +kernel
theorem dX4_pullOfAll_21 : decode cX4_pullOfAll 21 = .ok (.iinc 2 1, 3) := by decide +kernel
theorem dX4_pullOfAll_24 : decode cX4_pullOfAll 24 = .ok (.goto (-20), 3) := by decide +kernel
theorem dX4_pullOfAll_27 : decode cX4_pullOfAll 27 = .ok (.iload_n 1, 1) := by decide +kernel
theorem dX4_pullOfAll_28 : decode cX4_pullOfAll 28 = .ok (.ireturn, 1) := by decide +kernel
set_option maxRecDepth 20000 in
theorem ggX4_drawing_X4_trait : GoodIn wsX4_drawing wsX4_trait := goodIn_r _ [7, 8, 9, 10, 11, 12, 13, 14, 15] (by decide +kernel) (by decide +kernel)
set_option maxRecDepth 20000 in
theorem gX4_drawing_X4_trait : GoodIn wsX4_drawing (wsV RX4 51 RX4 yX4_trait wsX4_trait) := goodIn_app (goodIn_of _ (by decide +kernel)) ggX4_drawing_X4_trait
theorem dX4_drawing_0 : decode cX4_drawing 0 = .ok (.iconst 0, 1) := by decide +kernel
theorem dX4_drawing_1 : decode cX4_drawing 1 = .ok (.istore_n 1, 1) := by decide +kernel
theorem dX4_drawing_2 : decode cX4_drawing 2 = .ok (.iconst 0, 1) := by decide +kernel
theorem dX4_drawing_3 : decode cX4_drawing 3 = .ok (.istore_n 2, 1) := by decide +kernel
theorem dX4_drawing_4 : decode cX4_drawing 4 = .ok (.iload_n 2, 1) := by decide +kernel
theorem dX4_drawing_5 : decode cX4_drawing 5 = .ok (.aload_n 0, 1) := by decide +kernel
theorem dX4_drawing_6 : decode cX4_drawing 6 = .ok (.getfield 18, 3) := by decide +kernel
theorem dX4_drawing_9 : decode cX4_drawing 9 = .ok (.if_icmp .ge 25, 3) := by decide +kernel
theorem dX4_drawing_12 : decode cX4_drawing 12 = .ok (.aload_n 0, 1) := by decide +kernel
theorem dX4_drawing_13 : decode cX4_drawing 13 = .ok (.getfield 34, 3) := by decide +kernel
theorem dX4_drawing_16 : decode cX4_drawing 16 = .ok (.aload_n 0, 1) := by decide +kernel
theorem dX4_drawing_17 : decode cX4_drawing 17 = .ok (.iload_n 2, 1) := by decide +kernel
theorem dX4_drawing_18 : decode cX4_drawing 18 = .ok (.iconst 3, 1) := by decide +kernel
theorem dX4_drawing_19 : decode cX4_drawing 19 = .ok (.invokevirtual 51, 3) := by decide +kernel
theorem dX4_drawing_22 : decode cX4_drawing 22 = .ok (.if_icmp .lt 6, 3) := by decide +kernel
theorem dX4_drawing_25 : decode cX4_drawing 25 = .ok (.iinc 1 1, 3) := by decide +kernel
theorem dX4_drawing_28 : decode cX4_drawing 28 = .ok (.iinc 2 1, 3) := by decide +kernel
theorem dX4_drawing_31 : decode cX4_drawing 31 = .ok (.goto (-27), 3) := by decide +kernel
theorem dX4_drawing_34 : decode cX4_drawing 34 = .ok (.iload_n 1, 1) := by decide +kernel
theorem dX4_drawing_35 : decode cX4_drawing 35 = .ok (.ireturn, 1) := by decide +kernel
