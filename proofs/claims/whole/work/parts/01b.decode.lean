set_option maxRecDepth 20000 in
theorem ggX5_init_X4_init : GoodIn wsX5_init wsX4_init := goodIn_r _ [32, 33, 2, 3, 26, 34, 35, 36, 37, 6, 38, 39, 40, 41, 42, 43, 44, 66, 67, 68, 69, 70, 71, 72] (by decide +kernel) (by decide +kernel)
set_option maxRecDepth 20000 in
theorem gX5_init_X4_init_n9 : GoodIn wsX5_init (wsX4_init) := ggX5_init_X4_init
set_option maxRecDepth 20000 in
theorem ggX5_init_X3_init : GoodIn wsX5_init wsX3_init := goodIn_r _ [46, 47, 2, 3, 48, 49, 85, 86, 87, 88, 89, 90, 91, 92, 93] (by decide +kernel) (by decide +kernel)
set_option maxRecDepth 20000 in
theorem gX5_init_X3_init_n29 : GoodIn wsX5_init (wsX3_init) := ggX5_init_X3_init
set_option maxRecDepth 20000 in
theorem ggX5_init_X2_init : GoodIn wsX5_init wsX2_init := goodIn_r _ [51, 52, 2, 3, 26, 53, 54, 94, 95, 96] (by decide +kernel) (by decide +kernel)
set_option maxRecDepth 20000 in
theorem gX5_init_X2_init_n36 : GoodIn wsX5_init (wsX2_init) := ggX5_init_X2_init
set_option maxRecDepth 20000 in
theorem ggX5_init_X0_init : GoodIn wsX5_init wsX0_init := goodIn_r _ [56, 57, 2, 3, 58, 59, 60, 97, 98, 99] (by decide +kernel) (by decide +kernel)
set_option maxRecDepth 20000 in
theorem gX5_init_X0_init_n43 : GoodIn wsX5_init (wsX0_init) := ggX5_init_X0_init
set_option maxRecDepth 20000 in
theorem ggX5_init_X1_init : GoodIn wsX5_init wsX1_init := goodIn_r _ [62, 63, 2, 3, 26, 64, 65, 100, 101, 102] (by decide +kernel) (by decide +kernel)
set_option maxRecDepth 20000 in
theorem gX5_init_X1_init_n61 : GoodIn wsX5_init (wsX1_init) := ggX5_init_X1_init
theorem dX5_init_0 : decode cX5_init 0 = .ok (.aload_n 0, 1) := by decide +kernel
theorem dX5_init_1 : decode cX5_init 1 = .ok (.invokespecial 1, 3) := by decide +kernel
theorem dX5_init_4 : decode cX5_init 4 = .ok (.aload_n 0, 1) := by decide +kernel
theorem dX5_init_5 : decode cX5_init 5 = .ok (.new 7, 3) := by decide +kernel
theorem dX5_init_8 : decode cX5_init 8 = .ok (.dup, 1) := by decide +kernel
theorem dX5_init_9 : decode cX5_init 9 = .ok (.invokespecial 9, 3) := by decide +kernel
theorem dX5_init_12 : decode cX5_init 12 = .ok (.putfield 10, 3) := by decide +kernel
theorem dX5_init_15 : decode cX5_init 15 = .ok (.aload_n 0, 1) := by decide +kernel
theorem dX5_init_16 : decode cX5_init 16 = .ok (.new 7, 3) := by decide +kernel
theorem dX5_init_19 : decode cX5_init 19 = .ok (.dup, 1) := by decide +kernel
theorem dX5_init_20 : decode cX5_init 20 = .ok (.invokespecial 9, 3) := by decide +kernel
theorem dX5_init_23 : decode cX5_init 23 = .ok (.putfield 16, 3) := by decide +kernel
theorem dX5_init_26 : decode cX5_init 26 = .ok (.aload_n 0, 1) := by decide +kernel
theorem dX5_init_27 : decode cX5_init 27 = .ok (.iconst 2, 1) := by decide +kernel
theorem dX5_init_28 : decode cX5_init 28 = .ok (.anewarray 7, 3) := by decide +kernel
theorem dX5_init_31 : decode cX5_init 31 = .ok (.putfield 19, 3) := by decide +kernel
theorem dX5_init_34 : decode cX5_init 34 = .ok (.aload_n 0, 1) := by decide +kernel
theorem dX5_init_35 : decode cX5_init 35 = .ok (.iconst 2, 1) := by decide +kernel
theorem dX5_init_36 : decode cX5_init 36 = .ok (.newarray .boolean, 2) := by decide +kernel
theorem dX5_init_38 : decode cX5_init 38 = .ok (.putfield 23, 3) := by decide +kernel
theorem dX5_init_41 : decode cX5_init 41 = .ok (.aload_n 0, 1) := by decide +kernel
theorem dX5_init_42 : decode cX5_init 42 = .ok (.new 27, 3) := by decide +kernel
theorem dX5_init_45 : decode cX5_init 45 = .ok (.dup, 1) := by decide +kernel
theorem dX5_init_46 : decode cX5_init 46 = .ok (.invokespecial 29, 3) := by decide +kernel
theorem dX5_init_49 : decode cX5_init 49 = .ok (.putfield 30, 3) := by decide +kernel
theorem dX5_init_52 : decode cX5_init 52 = .ok (.aload_n 0, 1) := by decide +kernel
theorem dX5_init_53 : decode cX5_init 53 = .ok (.new 34, 3) := by decide +kernel
theorem dX5_init_56 : decode cX5_init 56 = .ok (.dup, 1) := by decide +kernel
theorem dX5_init_57 : decode cX5_init 57 = .ok (.invokespecial 36, 3) := by decide +kernel
theorem dX5_init_60 : decode cX5_init 60 = .ok (.putfield 37, 3) := by decide +kernel
theorem dX5_init_63 : decode cX5_init 63 = .ok (.aload_n 0, 1) := by decide +kernel
theorem dX5_init_64 : decode cX5_init 64 = .ok (.new 41, 3) := by decide +kernel
theorem dX5_init_67 : decode cX5_init 67 = .ok (.dup, 1) := by decide +kernel
theorem dX5_init_68 : decode cX5_init 68 = .ok (.invokespecial 43, 3) := by decide +kernel
theorem dX5_init_71 : decode cX5_init 71 = .ok (.putfield 44, 3) := by decide +kernel
theorem dX5_init_74 : decode cX5_init 74 = .ok (.aload_n 0, 1) := by decide +kernel
theorem dX5_init_75 : decode cX5_init 75 = .ok (.iconst 4, 1) := by decide +kernel
theorem dX5_init_76 : decode cX5_init 76 = .ok (.anewarray 48, 3) := by decide +kernel
theorem dX5_init_79 : decode cX5_init 79 = .ok (.putfield 50, 3) := by decide +kernel
theorem dX5_init_82 : decode cX5_init 82 = .ok (.aload_n 0, 1) := by decide +kernel
theorem dX5_init_83 : decode cX5_init 83 = .ok (.bipush 21, 2) := by decide +kernel
theorem dX5_init_85 : decode cX5_init 85 = .ok (.newarray .int, 2) := by decide +kernel
theorem dX5_init_87 : decode cX5_init 87 = .ok (.putfield 54, 3) := by decide +kernel
theorem dX5_init_90 : decode cX5_init 90 = .ok (.aload_n 0, 1) := by decide +kernel
theorem dX5_init_91 : decode cX5_init 91 = .ok (.bipush 100, 2) := by decide +kernel
theorem dX5_init_93 : decode cX5_init 93 = .ok (.newarray .int, 2) := by decide +kernel
theorem dX5_init_95 : decode cX5_init 95 = .ok (.putfield 58, 3) := by decide +kernel
theorem dX5_init_98 : decode cX5_init 98 = .ok (.iconst 0, 1) := by decide +kernel
theorem dX5_init_99 : decode cX5_init 99 = .ok (.istore_n 1, 1) := by decide +kernel
theorem dX5_init_100 : decode cX5_init 100 = .ok (.iload_n 1, 1) := by decide +kernel
theorem dX5_init_101 : decode cX5_init 101 = .ok (.iconst 2, 1) := by decide +kernel
theorem dX5_init_102 : decode cX5_init 102 = .ok (.if_icmp .ge 22, 3) := by decide +kernel
theorem dX5_init_105 : decode cX5_init 105 = .ok (.aload_n 0, 1) := by decide +kernel
theorem dX5_init_106 : decode cX5_init 106 = .ok (.getfield 19, 3) := by decide +kernel
theorem dX5_init_109 : decode cX5_init 109 = .ok (.iload_n 1, 1) := by decide +kernel
theorem dX5_init_110 : decode cX5_init 110 = .ok (.new 7, 3) := by decide +kernel
theorem dX5_init_113 : decode cX5_init 113 = .ok (.dup, 1) := by decide +kernel
theorem dX5_init_114 : decode cX5_init 114 = .ok (.invokespecial 9, 3) := by decide +kernel
theorem dX5_init_117 : decode cX5_init 117 = .ok (.aastore, 1) := by decide +kernel
theorem dX5_init_118 : decode cX5_init 118 = .ok (.iinc 1 1, 3) := by decide +kernel
theorem dX5_init_121 : decode cX5_init 121 = .ok (.goto (-21), 3) := by decide +kernel
theorem dX5_init_124 : decode cX5_init 124 = .ok (.iconst 0, 1) := by decide +kernel
theorem dX5_init_125 : decode cX5_init 125 = .ok (.istore_n 1, 1) := by decide +kernel
theorem dX5_init_126 : decode cX5_init 126 = .ok (.iload_n 1, 1) := by decide +kernel
theorem dX5_init_127 : decode cX5_init 127 = .ok (.iconst 4, 1) := by decide +kernel
theorem dX5_init_128 : decode cX5_init 128 = .ok (.if_icmp .ge 22, 3) := by decide +kernel
theorem dX5_init_131 : decode cX5_init 131 = .ok (.aload_n 0, 1) := by decide +kernel
theorem dX5_init_132 : decode cX5_init 132 = .ok (.getfield 50, 3) := by decide +kernel
theorem dX5_init_135 : decode cX5_init 135 = .ok (.iload_n 1, 1) := by decide +kernel
theorem dX5_init_136 : decode cX5_init 136 = .ok (.new 48, 3) := by decide +kernel
theorem dX5_init_139 : decode cX5_init 139 = .ok (.dup, 1) := by decide +kernel
theorem dX5_init_140 : decode cX5_init 140 = .ok (.invokespecial 61, 3) := by decide +kernel
theorem dX5_init_143 : decode cX5_init 143 = .ok (.aastore, 1) := by decide +kernel
theorem dX5_init_144 : decode cX5_init 144 = .ok (.iinc 1 1, 3) := by decide +kernel
theorem dX5_init_147 : decode cX5_init 147 = .ok (.goto (-21), 3) := by decide +kernel
theorem dX5_init_150 : decode cX5_init 150 = .ok (.return_, 1) := by decide +kernel
set_option maxRecDepth 20000 in
theorem ggX5_feed_X5_within : GoodIn wsX5_feed wsX5_within := goodIn_r _ [5] (by decide +kernel) (by decide +kernel)
set_option maxRecDepth 20000 in
theorem gX5_feed_X5_within : GoodIn wsX5_feed (va_wsS RX5 62 yX5_within wsX5_within) := goodIn_app (goodIn_of _ (by decide +kernel)) ggX5_feed_X5_within
set_option maxRecDepth 20000 in
theorem ggX5_feed_X3_append : GoodIn wsX5_feed wsX3_append := goodIn_r _ [9, 10, 11, 24, 25, 26, 27, 28, 29, 30, 31, 32] (by decide +kernel) (by decide +kernel)
set_option maxRecDepth 20000 in
theorem gX5_feed_X3_append_n66 : GoodIn wsX5_feed (wsX3_append) := ggX5_feed_X3_append
theorem dX5_feed_0 : decode cX5_feed 0 = .ok (.iload_n 1, 1) := by decide +kernel
theorem dX5_feed_1 : decode cX5_feed 1 = .ok (.iconst 0, 1) := by decide +kernel
theorem dX5_feed_2 : decode cX5_feed 2 = .ok (.bipush 127, 2) := by decide +kernel
theorem dX5_feed_4 : decode cX5_feed 4 = .ok (.invokestatic 62, 3) := by decide +kernel
theorem dX5_feed_7 : decode cX5_feed 7 = .ok (.ifCond .ne 5, 3) := by decide +kernel
theorem dX5_feed_10 : decode cX5_feed 10 = .ok (.iconst (-1), 1) := by decide +kernel
theorem dX5_feed_11 : decode cX5_feed 11 = .ok (.ireturn, 1) := by decide +kernel
theorem dX5_feed_12 : decode cX5_feed 12 = .ok (.aload_n 0, 1) := by decide +kernel
theorem dX5_feed_13 : decode cX5_feed 13 = .ok (.getfield 30, 3) := by decide +kernel
theorem dX5_feed_16 : decode cX5_feed 16 = .ok (.iload_n 1, 1) := by decide +kernel
theorem dX5_feed_17 : decode cX5_feed 17 = .ok (.invokevirtual 66, 3) := by decide +kernel
theorem dX5_feed_20 : decode cX5_feed 20 = .ok (.ireturn, 1) := by decide +kernel
set_option maxRecDepth 20000 in
theorem ggX5_end_X5_within : GoodIn wsX5_end wsX5_within := goodIn_r _ [5] (by decide +kernel) (by decide +kernel)
set_option maxRecDepth 20000 in
theorem gX5_end_X5_within : GoodIn wsX5_end (va_wsS RX5 62 yX5_within wsX5_within) := goodIn_app (goodIn_of _ (by decide +kernel)) ggX5_end_X5_within
theorem dX5_end_0 : decode cX5_end 0 = .ok (.aload_n 0, 1) := by decide +kernel
theorem dX5_end_1 : decode cX5_end 1 = .ok (.getfield 30, 3) := by decide +kernel
theorem dX5_end_4 : decode cX5_end 4 = .ok (.getfield 70, 3) := by decide +kernel
theorem dX5_end_7 : decode cX5_end 7 = .ok (.istore_n 2, 1) := by decide +kernel
theorem dX5_end_8 : decode cX5_end 8 = .ok (.iload_n 1, 1) := by decide +kernel
theorem dX5_end_9 : decode cX5_end 9 = .ok (.iconst 0, 1) := by decide +kernel
theorem dX5_end_10 : decode cX5_end 10 = .ok (.iload_n 2, 1) := by decide +kernel
theorem dX5_end_11 : decode cX5_end 11 = .ok (.invokestatic 62, 3) := by decide +kernel
theorem dX5_end_14 : decode cX5_end 14 = .ok (.ifCond .ne 5, 3) := by decide +kernel
theorem dX5_end_17 : decode cX5_end 17 = .ok (.iconst (-1), 1) := by decide +kernel
theorem dX5_end_18 : decode cX5_end 18 = .ok (.ireturn, 1) := by decide +kernel
theorem dX5_end_19 : decode cX5_end 19 = .ok (.aload_n 0, 1) := by decide +kernel
theorem dX5_end_20 : decode cX5_end 20 = .ok (.getfield 30, 3) := by decide +kernel
theorem dX5_end_23 : decode cX5_end 23 = .ok (.iload_n 1, 1) := by decide +kernel
theorem dX5_end_24 : decode cX5_end 24 = .ok (.putfield 70, 3) := by decide +kernel
theorem dX5_end_27 : decode cX5_end 27 = .ok (.iload_n 2, 1) := by decide +kernel
theorem dX5_end_28 : decode cX5_end 28 = .ok (.ireturn, 1) := by decide +kernel
set_option maxRecDepth 20000 in
theorem ggX5_text_X4_clear : GoodIn wsX5_text wsX4_clear := goodIn_r _ [10, 11, 12, 13, 14, 15, 16, 177, 178, 179, 180, 181, 182, 183] (by decide +kernel) (by decide +kernel)
set_option maxRecDepth 20000 in
theorem gX5_text_X4_clear_n74 : GoodIn wsX5_text (wsX4_clear) := ggX5_text_X4_clear
set_option maxRecDepth 20000 in
theorem ggX5_text_X3_tellTo : GoodIn wsX5_text wsX3_tellTo := goodIn_r _ [20, 21, 22, 23, 24, 25, 26, 27, 28, 18, 29, 30, 31, 32, 33, 34, 35, 36, 37, 38, 39, 40, 41, 42, 43, 44, 45, 46, 47, 48, 49, 50, 51, 52, 53, 54, 55, 56, 57, 58, 59, 60, 61, 62, 63, 64, 65, 66, 67, 68, 69, 70, 71, 72, 73, 74, 75, 76, 77, 78, 79, 80, 81, 82, 83, 84, 85, 86, 87, 88, 89, 90, 91, 92, 93, 94, 95, 96, 97, 98, 99, 100, 101, 102, 103, 104, 105, 106, 107, 108, 109, 110, 111, 112, 113, 114, 115, 116, 8, 117, 118, 11, 119, 120, 121, 122, 123, 124, 125, 126, 127, 128, 129, 130, 131, 132, 133, 134, 135, 136, 137, 138, 139, 140, 141, 142, 143, 144, 145, 165, 166, 167, 168, 169, 170, 171, 172, 173, 177, 178, 179, 180, 181, 182, 183] (by decide +kernel) (by decide +kernel)
set_option maxRecDepth 20000 in
theorem gX5_text_X3_tellTo_n77 : GoodIn wsX5_text (wsX3_tellTo) := ggX5_text_X3_tellTo
set_option maxRecDepth 20000 in
theorem ggX5_text_X4_copyFrom : GoodIn wsX5_text wsX4_copyFrom := goodIn_r _ [148, 138, 149, 150, 151, 152, 11, 12, 13, 14, 15, 16, 177, 178, 179, 180, 181, 182, 183] (by decide +kernel) (by decide +kernel)
set_option maxRecDepth 20000 in
theorem gX5_text_X4_copyFrom_n90 : GoodIn wsX5_text (wsX4_copyFrom) := ggX5_text_X4_copyFrom
theorem dX5_text_0 : decode cX5_text 0 = .ok (.aload_n 0, 1) := by decide +kernel
theorem dX5_text_1 : decode cX5_text 1 = .ok (.getfield 16, 3) := by decide +kernel
theorem dX5_text_4 : decode cX5_text 4 = .ok (.invokevirtual 74, 3) := by decide +kernel
theorem dX5_text_7 : decode cX5_text 7 = .ok (.aload_n 0, 1) := by decide +kernel
theorem dX5_text_8 : decode cX5_text 8 = .ok (.getfield 30, 3) := by decide +kernel
theorem dX5_text_11 : decode cX5_text 11 = .ok (.aload_n 0, 1) := by decide +kernel
theorem dX5_text_12 : decode cX5_text 12 = .ok (.getfield 16, 3) := by decide +kernel
theorem dX5_text_15 : decode cX5_text 15 = .ok (.invokevirtual 77, 3) := by decide +kernel
theorem dX5_text_18 : decode cX5_text 18 = .ok (.istore_n 1, 1) := by decide +kernel
theorem dX5_text_19 : decode cX5_text 19 = .ok (.aload_n 0, 1) := by decide +kernel
theorem dX5_text_20 : decode cX5_text 20 = .ok (.getfield 30, 3) := by decide +kernel
theorem dX5_text_23 : decode cX5_text 23 = .ok (.iconst 0, 1) := by decide +kernel
theorem dX5_text_24 : decode cX5_text 24 = .ok (.putfield 70, 3) := by decide +kernel
theorem dX5_text_27 : decode cX5_text 27 = .ok (.aload_n 0, 1) := by decide +kernel
theorem dX5_text_28 : decode cX5_text 28 = .ok (.aload_n 0, 1) := by decide +kernel
theorem dX5_text_29 : decode cX5_text 29 = .ok (.getfield 30, 3) := by decide +kernel
theorem dX5_text_32 : decode cX5_text 32 = .ok (.getfield 81, 3) := by decide +kernel
theorem dX5_text_35 : decode cX5_text 35 = .ok (.putfield 84, 3) := by decide +kernel
theorem dX5_text_38 : decode cX5_text 38 = .ok (.aload_n 0, 1) := by decide +kernel
theorem dX5_text_39 : decode cX5_text 39 = .ok (.getfield 84, 3) := by decide +kernel
theorem dX5_text_42 : decode cX5_text 42 = .ok (.ifCond .eq 14, 3) := by decide +kernel
theorem dX5_text_45 : decode cX5_text 45 = .ok (.bipush (-10), 2) := by decide +kernel
theorem dX5_text_47 : decode cX5_text 47 = .ok (.aload_n 0, 1) := by decide +kernel
theorem dX5_text_48 : decode cX5_text 48 = .ok (.getfield 30, 3) := by decide +kernel
theorem dX5_text_51 : decode cX5_text 51 = .ok (.getfield 87, 3) := by decide +kernel
theorem dX5_text_54 : decode cX5_text 54 = .ok (.isub, 1) := by decide +kernel
theorem dX5_text_55 : decode cX5_text 55 = .ok (.ireturn, 1) := by decide +kernel
theorem dX5_text_56 : decode cX5_text 56 = .ok (.aload_n 0, 1) := by decide +kernel
theorem dX5_text_57 : decode cX5_text 57 = .ok (.getfield 10, 3) := by decide +kernel
theorem dX5_text_60 : decode cX5_text 60 = .ok (.aload_n 0, 1) := by decide +kernel
theorem dX5_text_61 : decode cX5_text 61 = .ok (.getfield 16, 3) := by decide +kernel
theorem dX5_text_64 : decode cX5_text 64 = .ok (.invokevirtual 90, 3) := by decide +kernel
theorem dX5_text_67 : decode cX5_text 67 = .ok (.aload_n 0, 1) := by decide +kernel
theorem dX5_text_68 : decode cX5_text 68 = .ok (.getfield 37, 3) := by decide +kernel
theorem dX5_text_71 : decode cX5_text 71 = .ok (.iconst 0, 1) := by decide +kernel
theorem dX5_text_72 : decode cX5_text 72 = .ok (.putfield 94, 3) := by decide +kernel
theorem dX5_text_75 : decode cX5_text 75 = .ok (.iconst 0, 1) := by decide +kernel
theorem dX5_text_76 : decode cX5_text 76 = .ok (.istore_n 2, 1) := by decide +kernel
theorem dX5_text_77 : decode cX5_text 77 = .ok (.iload_n 2, 1) := by decide +kernel
theorem dX5_text_78 : decode cX5_text 78 = .ok (.iconst 2, 1) := by decide +kernel
theorem dX5_text_79 : decode cX5_text 79 = .ok (.if_icmp .ge 16, 3) := by decide +kernel
theorem dX5_text_82 : decode cX5_text 82 = .ok (.aload_n 0, 1) := by decide +kernel
theorem dX5_text_83 : decode cX5_text 83 = .ok (.getfield 23, 3) := by decide +kernel
theorem dX5_text_86 : decode cX5_text 86 = .ok (.iload_n 2, 1) := by decide +kernel
theorem dX5_text_87 : decode cX5_text 87 = .ok (.iconst 0, 1) := by decide +kernel
theorem dX5_text_88 : decode cX5_text 88 = .ok (.bastore, 1) := by decide +kernel
theorem dX5_text_89 : decode cX5_text 89 = .ok (.iinc 2 1, 3) := by decide +kernel
theorem dX5_text_92 : decode cX5_text 92 = .ok (.goto (-15), 3) := by decide +kernel
theorem dX5_text_95 : decode cX5_text 95 = .ok (.iload_n 1, 1) := by decide +kernel
theorem dX5_text_96 : decode cX5_text 96 = .ok (.ireturn, 1) := by decide +kernel
theorem dX5_fault_0 : decode cX5_fault 0 = .ok (.aload_n 0, 1) := by decide +kernel
theorem dX5_fault_1 : decode cX5_fault 1 = .ok (.getfield 84, 3) := by decide +kernel
theorem dX5_fault_4 : decode cX5_fault 4 = .ok (.ireturn, 1) := by decide +kernel
set_option maxRecDepth 20000 in
theorem ggX5_rule_X4_lean : GoodIn wsX5_rule wsX4_lean := goodIn_r _ [5, 6, 7, 8, 9, 10, 49, 50, 51, 52, 53, 54, 55] (by decide +kernel) (by decide +kernel)
set_option maxRecDepth 20000 in
theorem gX5_rule_X4_lean_n109 : GoodIn wsX5_rule (wsX4_lean) := ggX5_rule_X4_lean
set_option maxRecDepth 20000 in
theorem ggX5_rule_X4_isFallen : GoodIn wsX5_rule wsX4_isFallen := goodIn_r _ [13, 14, 15, 2, 4, 3, 5, 6, 7, 8, 9, 10, 49, 50, 51, 52, 53, 54, 55] (by decide +kernel) (by decide +kernel)
set_option maxRecDepth 20000 in
theorem gX5_rule_X4_isFallen_n113 : GoodIn wsX5_rule (wsX4_isFallen) := ggX5_rule_X4_isFallen
set_option maxRecDepth 20000 in
theorem ggX5_rule_X4_holder : GoodIn wsX5_rule wsX4_holder := goodIn_r _ [18, 14, 19, 20, 15, 2, 4, 3, 5, 6, 7, 8, 9, 10, 21, 22, 23, 24, 25, 26, 27, 28, 29, 30, 31, 32, 33, 49, 50, 51, 52, 53, 54, 55] (by decide +kernel) (by decide +kernel)
set_option maxRecDepth 20000 in
theorem gX5_rule_X4_holder_n117 : GoodIn wsX5_rule (wsX4_holder) := ggX5_rule_X4_holder
set_option maxRecDepth 20000 in
theorem ggX5_rule_X4_pullBack : GoodIn wsX5_rule wsX4_pullBack := goodIn_r _ [36, 19, 15, 2, 4, 3, 5, 6, 7, 8, 9, 10, 49, 50, 51, 52, 53, 54, 55] (by decide +kernel) (by decide +kernel)
set_option maxRecDepth 20000 in
theorem gX5_rule_X4_pullBack_n120 : GoodIn wsX5_rule (wsX4_pullBack) := ggX5_rule_X4_pullBack
theorem dX5_rule_0 : decode cX5_rule 0 = .ok (.iload_n 1, 1) := by decide +kernel
theorem dX5_rule_1 : decode cX5_rule 1 = .ok (.tableswitch 143 0 9 #[55, 63, 71, 79, 87, 95, 111, 119, 127, 135], 55) := by decide +kernel
theorem dX5_rule_56 : decode cX5_rule 56 = .ok (.aload_n 0, 1) := by decide +kernel
theorem dX5_rule_57 : decode cX5_rule 57 = .ok (.getfield 10, 3) := by decide +kernel
theorem dX5_rule_60 : decode cX5_rule 60 = .ok (.getfield 97, 3) := by decide +kernel
theorem dX5_rule_63 : decode cX5_rule 63 = .ok (.ireturn, 1) := by decide +kernel
theorem dX5_rule_64 : decode cX5_rule 64 = .ok (.aload_n 0, 1) := by decide +kernel
theorem dX5_rule_65 : decode cX5_rule 65 = .ok (.getfield 10, 3) := by decide +kernel
theorem dX5_rule_68 : decode cX5_rule 68 = .ok (.getfield 100, 3) := by decide +kernel
theorem dX5_rule_71 : decode cX5_rule 71 = .ok (.ireturn, 1) := by decide +kernel
theorem dX5_rule_72 : decode cX5_rule 72 = .ok (.aload_n 0, 1) := by decide +kernel
theorem dX5_rule_73 : decode cX5_rule 73 = .ok (.getfield 10, 3) := by decide +kernel
theorem dX5_rule_76 : decode cX5_rule 76 = .ok (.getfield 103, 3) := by decide +kernel
theorem dX5_rule_79 : decode cX5_rule 79 = .ok (.ireturn, 1) := by decide +kernel
theorem dX5_rule_80 : decode cX5_rule 80 = .ok (.aload_n 0, 1) := by decide +kernel
theorem dX5_rule_81 : decode cX5_rule 81 = .ok (.getfield 10, 3) := by decide +kernel
theorem dX5_rule_84 : decode cX5_rule 84 = .ok (.getfield 106, 3) := by decide +kernel
theorem dX5_rule_87 : decode cX5_rule 87 = .ok (.ireturn, 1) := by decide +kernel
theorem dX5_rule_88 : decode cX5_rule 88 = .ok (.aload_n 0, 1) := by decide +kernel
theorem dX5_rule_89 : decode cX5_rule 89 = .ok (.getfield 10, 3) := by decide +kernel
theorem dX5_rule_92 : decode cX5_rule 92 = .ok (.invokevirtual 109, 3) := by decide +kernel
theorem dX5_rule_95 : decode cX5_rule 95 = .ok (.ireturn, 1) := by decide +kernel
theorem dX5_rule_96 : decode cX5_rule 96 = .ok (.aload_n 0, 1) := by decide +kernel
theorem dX5_rule_97 : decode cX5_rule 97 = .ok (.getfield 10, 3) := by decide +kernel
theorem dX5_rule_100 : decode cX5_rule 100 = .ok (.invokevirtual 113, 3) := by decide +kernel
theorem dX5_rule_103 : decode cX5_rule 103 = .ok (.ifCond .eq 7, 3) := by decide +kernel
theorem dX5_rule_106 : decode cX5_rule 106 = .ok (.iconst 1, 1) := by decide +kernel
theorem dX5_rule_107 : decode cX5_rule 107 = .ok (.goto 4, 3) := by decide +kernel
theorem dX5_rule_110 : decode cX5_rule 110 = .ok (.iconst 0, 1) := by decide +kernel
theorem dX5_rule_111 : decode cX5_rule 111 = .ok (.ireturn, 1) := by decide +kernel
theorem dX5_rule_112 : decode cX5_rule 112 = .ok (.aload_n 0, 1) := by decide +kernel
theorem dX5_rule_113 : decode cX5_rule 113 = .ok (.getfield 10, 3) := by decide +kernel
theorem dX5_rule_116 : decode cX5_rule 116 = .ok (.invokevirtual 117, 3) := by decide +kernel
theorem dX5_rule_119 : decode cX5_rule 119 = .ok (.ireturn, 1) := by decide +kernel
theorem dX5_rule_120 : decode cX5_rule 120 = .ok (.aload_n 0, 1) := by decide +kernel
theorem dX5_rule_121 : decode cX5_rule 121 = .ok (.getfield 10, 3) := by decide +kernel
theorem dX5_rule_124 : decode cX5_rule 124 = .ok (.invokevirtual 120, 3) := by decide +kernel
theorem dX5_rule_127 : decode cX5_rule 127 = .ok (.ireturn, 1) := by decide +kernel
theorem dX5_rule_128 : decode cX5_rule 128 = .ok (.aload_n 0, 1) := by decide +kernel
theorem dX5_rule_129 : decode cX5_rule 129 = .ok (.getfield 10, 3) := by decide +kernel
theorem dX5_rule_132 : decode cX5_rule 132 = .ok (.getfield 123, 3) := by decide +kernel
theorem dX5_rule_135 : decode cX5_rule 135 = .ok (.ireturn, 1) := by decide +kernel
theorem dX5_rule_136 : decode cX5_rule 136 = .ok (.aload_n 0, 1) := by decide +kernel
theorem dX5_rule_137 : decode cX5_rule 137 = .ok (.getfield 10, 3) := by decide +kernel
theorem dX5_rule_140 : decode cX5_rule 140 = .ok (.getfield 126, 3) := by decide +kernel
theorem dX5_rule_143 : decode cX5_rule 143 = .ok (.ireturn, 1) := by decide +kernel
theorem dX5_rule_144 : decode cX5_rule 144 = .ok (.iconst (-1), 1) := by decide +kernel
theorem dX5_rule_145 : decode cX5_rule 145 = .ok (.ireturn, 1) := by decide +kernel
set_option maxRecDepth 20000 in
theorem ggX5_draw_X4_hasDraw : GoodIn wsX5_draw wsX4_hasDraw := goodIn_r _ [5, 6, 38, 39, 40, 41, 42, 43, 44] (by decide +kernel) (by decide +kernel)
set_option maxRecDepth 20000 in
theorem gX5_draw_X4_hasDraw_n129 : GoodIn wsX5_draw (wsX4_hasDraw) := ggX5_draw_X4_hasDraw
set_option maxRecDepth 20000 in
theorem ggX5_draw_X4_trait : GoodIn wsX5_draw wsX4_trait := goodIn_r _ [9, 10, 38, 39, 40, 41, 42, 43, 44] (by decide +kernel) (by decide +kernel)
set_option maxRecDepth 20000 in
theorem gX5_draw_X4_trait_n133 : GoodIn wsX5_draw (wsX4_trait) := ggX5_draw_X4_trait
set_option maxRecDepth 20000 in
theorem ggX5_draw_X4_strength : GoodIn wsX5_draw wsX4_strength := goodIn_r _ [12] (by decide +kernel) (by decide +kernel)
set_option maxRecDepth 20000 in
theorem gX5_draw_X4_strength_n137 : GoodIn wsX5_draw (wsX4_strength) := ggX5_draw_X4_strength
set_option maxRecDepth 20000 in
theorem ggX5_draw_X4_force : GoodIn wsX5_draw wsX4_force := goodIn_r _ [15, 16, 17, 18, 7, 8, 3, 9, 10, 19, 20, 21, 22, 11, 12, 38, 39, 40, 41, 42, 43, 44] (by decide +kernel) (by decide +kernel)
set_option maxRecDepth 20000 in
theorem gX5_draw_X4_force_n140 : GoodIn wsX5_draw (wsX4_force) := ggX5_draw_X4_force
set_option maxRecDepth 20000 in
theorem ggX5_draw_X4_gap : GoodIn wsX5_draw wsX4_gap := goodIn_r _ [25, 16, 18, 7, 8, 3, 9, 10, 19, 20, 21, 38, 39, 40, 41, 42, 43, 44] (by decide +kernel) (by decide +kernel)
set_option maxRecDepth 20000 in
theorem gX5_draw_X4_gap_n143 : GoodIn wsX5_draw (wsX4_gap) := ggX5_draw_X4_gap
theorem dX5_draw_0 : decode cX5_draw 0 = .ok (.aload_n 0, 1) := by decide +kernel
theorem dX5_draw_1 : decode cX5_draw 1 = .ok (.getfield 10, 3) := by decide +kernel
theorem dX5_draw_4 : decode cX5_draw 4 = .ok (.iload_n 1, 1) := by decide +kernel
theorem dX5_draw_5 : decode cX5_draw 5 = .ok (.invokevirtual 129, 3) := by decide +kernel
theorem dX5_draw_8 : decode cX5_draw 8 = .ok (.ifCond .ne 5, 3) := by decide +kernel
theorem dX5_draw_11 : decode cX5_draw 11 = .ok (.iconst (-1), 1) := by decide +kernel
theorem dX5_draw_12 : decode cX5_draw 12 = .ok (.ireturn, 1) := by decide +kernel
theorem dX5_draw_13 : decode cX5_draw 13 = .ok (.iload_n 2, 1) := by decide +kernel
theorem dX5_draw_14 : decode cX5_draw 14 = .ok (.tableswitch 92 0 6 #[42, 42, 42, 42, 52, 74, 83], 42) := by decide +kernel
theorem dX5_draw_56 : decode cX5_draw 56 = .ok (.aload_n 0, 1) := by decide +kernel
theorem dX5_draw_57 : decode cX5_draw 57 = .ok (.getfield 10, 3) := by decide +kernel
theorem dX5_draw_60 : decode cX5_draw 60 = .ok (.iload_n 1, 1) := by decide +kernel
theorem dX5_draw_61 : decode cX5_draw 61 = .ok (.iload_n 2, 1) := by decide +kernel
theorem dX5_draw_62 : decode cX5_draw 62 = .ok (.invokevirtual 133, 3) := by decide +kernel
theorem dX5_draw_65 : decode cX5_draw 65 = .ok (.ireturn, 1) := by decide +kernel
theorem dX5_draw_66 : decode cX5_draw 66 = .ok (.aload_n 0, 1) := by decide +kernel
theorem dX5_draw_67 : decode cX5_draw 67 = .ok (.getfield 10, 3) := by decide +kernel
theorem dX5_draw_70 : decode cX5_draw 70 = .ok (.iload_n 1, 1) := by decide +kernel
theorem dX5_draw_71 : decode cX5_draw 71 = .ok (.iconst 0, 1) := by decide +kernel
theorem dX5_draw_72 : decode cX5_draw 72 = .ok (.invokevirtual 133, 3) := by decide +kernel
theorem dX5_draw_75 : decode cX5_draw 75 = .ok (.aload_n 0, 1) := by decide +kernel
theorem dX5_draw_76 : decode cX5_draw 76 = .ok (.getfield 10, 3) := by decide +kernel
theorem dX5_draw_79 : decode cX5_draw 79 = .ok (.iload_n 1, 1) := by decide +kernel
theorem dX5_draw_80 : decode cX5_draw 80 = .ok (.iconst 1, 1) := by decide +kernel
theorem dX5_draw_81 : decode cX5_draw 81 = .ok (.invokevirtual 133, 3) := by decide +kernel
theorem dX5_draw_84 : decode cX5_draw 84 = .ok (.invokestatic 137, 3) := by decide +kernel
theorem dX5_draw_87 : decode cX5_draw 87 = .ok (.ireturn, 1) := by decide +kernel
theorem dX5_draw_88 : decode cX5_draw 88 = .ok (.aload_n 0, 1) := by decide +kernel
theorem dX5_draw_89 : decode cX5_draw 89 = .ok (.getfield 10, 3) := by decide +kernel
theorem dX5_draw_92 : decode cX5_draw 92 = .ok (.iload_n 1, 1) := by decide +kernel
theorem dX5_draw_93 : decode cX5_draw 93 = .ok (.invokevirtual 140, 3) := by decide +kernel
theorem dX5_draw_96 : decode cX5_draw 96 = .ok (.ireturn, 1) := by decide +kernel
theorem dX5_draw_97 : decode cX5_draw 97 = .ok (.aload_n 0, 1) := by decide +kernel
theorem dX5_draw_98 : decode cX5_draw 98 = .ok (.getfield 10, 3) := by decide +kernel
theorem dX5_draw_101 : decode cX5_draw 101 = .ok (.iload_n 1, 1) := by decide +kernel
theorem dX5_draw_102 : decode cX5_draw 102 = .ok (.invokevirtual 143, 3) := by decide +kernel
theorem dX5_draw_105 : decode cX5_draw 105 = .ok (.ireturn, 1) := by decide +kernel
theorem dX5_draw_106 : decode cX5_draw 106 = .ok (.iconst (-1), 1) := by decide +kernel
theorem dX5_draw_107 : decode cX5_draw 107 = .ok (.ireturn, 1) := by decide +kernel
set_option maxRecDepth 20000 in
theorem ggX5_alter_X4_hasDraw : GoodIn wsX5_alter wsX4_hasDraw := goodIn_r _ [5, 6, 35, 36, 37, 38, 39, 40, 41] (by decide +kernel) (by decide +kernel)
set_option maxRecDepth 20000 in
theorem gX5_alter_X4_hasDraw_n129 : GoodIn wsX5_alter (wsX4_hasDraw) := ggX5_alter_X4_hasDraw
set_option maxRecDepth 20000 in
theorem ggX5_alter_X5_fitsTrait : GoodIn wsX5_alter wsX5_fitsTrait := goodIn_r _ [10, 11, 12, 13, 14, 9, 15] (by decide +kernel) (by decide +kernel)
set_option maxRecDepth 20000 in
theorem gX5_alter_X5_fitsTrait : GoodIn wsX5_alter (va_wsS RX5 146 yX5_fitsTrait wsX5_fitsTrait) := goodIn_app (goodIn_of _ (by decide +kernel)) ggX5_alter_X5_fitsTrait
set_option maxRecDepth 20000 in
theorem ggX5_alter_X4_trait : GoodIn wsX5_alter wsX4_trait := goodIn_r _ [18, 19, 35, 36, 37, 38, 39, 40, 41] (by decide +kernel) (by decide +kernel)
set_option maxRecDepth 20000 in
theorem gX5_alter_X4_trait_n133 : GoodIn wsX5_alter (wsX4_trait) := ggX5_alter_X4_trait
set_option maxRecDepth 20000 in
theorem ggX5_alter_X4_setTrait : GoodIn wsX5_alter wsX4_setTrait := goodIn_r _ [22, 19, 35, 36, 37, 38, 39, 40, 41] (by decide +kernel) (by decide +kernel)
set_option maxRecDepth 20000 in
theorem gX5_alter_X4_setTrait_n150 : GoodIn wsX5_alter (wsX4_setTrait) := ggX5_alter_X4_setTrait
theorem dX5_alter_0 : decode cX5_alter 0 = .ok (.aload_n 0, 1) := by decide +kernel
theorem dX5_alter_1 : decode cX5_alter 1 = .ok (.getfield 10, 3) := by decide +kernel
theorem dX5_alter_4 : decode cX5_alter 4 = .ok (.iload_n 1, 1) := by decide +kernel
theorem dX5_alter_5 : decode cX5_alter 5 = .ok (.invokevirtual 129, 3) := by decide +kernel
theorem dX5_alter_8 : decode cX5_alter 8 = .ok (.ifCond .eq 11, 3) := by decide +kernel
theorem dX5_alter_11 : decode cX5_alter 11 = .ok (.iload_n 2, 1) := by decide +kernel
theorem dX5_alter_12 : decode cX5_alter 12 = .ok (.iload_n 3, 1) := by decide +kernel
theorem dX5_alter_13 : decode cX5_alter 13 = .ok (.invokestatic 146, 3) := by decide +kernel
theorem dX5_alter_16 : decode cX5_alter 16 = .ok (.ifCond .ne 5, 3) := by decide +kernel
theorem dX5_alter_19 : decode cX5_alter 19 = .ok (.iconst (-1), 1) := by decide +kernel
theorem dX5_alter_20 : decode cX5_alter 20 = .ok (.ireturn, 1) := by decide +kernel
theorem dX5_alter_21 : decode cX5_alter 21 = .ok (.aload_n 0, 1) := by decide +kernel
theorem dX5_alter_22 : decode cX5_alter 22 = .ok (.getfield 10, 3) := by decide +kernel
theorem dX5_alter_25 : decode cX5_alter 25 = .ok (.iload_n 1, 1) := by decide +kernel
theorem dX5_alter_26 : decode cX5_alter 26 = .ok (.iload_n 2, 1) := by decide +kernel
theorem dX5_alter_27 : decode cX5_alter 27 = .ok (.invokevirtual 133, 3) := by decide +kernel
theorem dX5_alter_30 : decode cX5_alter 30 = .ok (.istore 4, 2) := by decide +kernel
theorem dX5_alter_32 : decode cX5_alter 32 = .ok (.aload_n 0, 1) := by decide +kernel
theorem dX5_alter_33 : decode cX5_alter 33 = .ok (.getfield 10, 3) := by decide +kernel
theorem dX5_alter_36 : decode cX5_alter 36 = .ok (.iload_n 1, 1) := by decide +kernel
theorem dX5_alter_37 : decode cX5_alter 37 = .ok (.iload_n 2, 1) := by decide +kernel
theorem dX5_alter_38 : decode cX5_alter 38 = .ok (.iload_n 3, 1) := by decide +kernel
theorem dX5_alter_39 : decode cX5_alter 39 = .ok (.invokevirtual 150, 3) := by decide +kernel
theorem dX5_alter_42 : decode cX5_alter 42 = .ok (.iload 4, 2) := by decide +kernel
theorem dX5_alter_44 : decode cX5_alter 44 = .ok (.ireturn, 1) := by decide +kernel
set_option maxRecDepth 20000 in
theorem ggX5_stiff_X5_within : GoodIn wsX5_stiff wsX5_within := goodIn_r _ [5] (by decide +kernel) (by decide +kernel)
set_option maxRecDepth 20000 in
theorem gX5_stiff_X5_within : GoodIn wsX5_stiff (va_wsS RX5 62 yX5_within wsX5_within) := goodIn_app (goodIn_of _ (by decide +kernel)) ggX5_stiff_X5_within
theorem dX5_stiff_0 : decode cX5_stiff 0 = .ok (.iload_n 1, 1) := by decide +kernel
theorem dX5_stiff_1 : decode cX5_stiff 1 = .ok (.iconst 0, 1) := by decide +kernel
theorem dX5_stiff_2 : decode cX5_stiff 2 = .ok (.bipush 20, 2) := by decide +kernel
theorem dX5_stiff_4 : decode cX5_stiff 4 = .ok (.invokestatic 62, 3) := by decide +kernel
theorem dX5_stiff_7 : decode cX5_stiff 7 = .ok (.ifCond .ne 5, 3) := by decide +kernel
theorem dX5_stiff_10 : decode cX5_stiff 10 = .ok (.iconst (-1), 1) := by decide +kernel
theorem dX5_stiff_11 : decode cX5_stiff 11 = .ok (.ireturn, 1) := by decide +kernel
theorem dX5_stiff_12 : decode cX5_stiff 12 = .ok (.aload_n 0, 1) := by decide +kernel
theorem dX5_stiff_13 : decode cX5_stiff 13 = .ok (.getfield 10, 3) := by decide +kernel
theorem dX5_stiff_16 : decode cX5_stiff 16 = .ok (.getfield 123, 3) := by decide +kernel
theorem dX5_stiff_19 : decode cX5_stiff 19 = .ok (.istore_n 2, 1) := by decide +kernel
theorem dX5_stiff_20 : decode cX5_stiff 20 = .ok (.aload_n 0, 1) := by decide +kernel
theorem dX5_stiff_21 : decode cX5_stiff 21 = .ok (.getfield 10, 3) := by decide +kernel
theorem dX5_stiff_24 : decode cX5_stiff 24 = .ok (.iload_n 1, 1) := by decide +kernel
theorem dX5_stiff_25 : decode cX5_stiff 25 = .ok (.putfield 123, 3) := by decide +kernel
theorem dX5_stiff_28 : decode cX5_stiff 28 = .ok (.iload_n 2, 1) := by decide +kernel
theorem dX5_stiff_29 : decode cX5_stiff 29 = .ok (.ireturn, 1) := by decide +kernel
set_option maxRecDepth 20000 in
theorem ggX5_bears_X5_within : GoodIn wsX5_bears wsX5_within := goodIn_r _ [5] (by decide +kernel) (by decide +kernel)
set_option maxRecDepth 20000 in
theorem gX5_bears_X5_within : GoodIn wsX5_bears (va_wsS RX5 62 yX5_within wsX5_within) := goodIn_app (goodIn_of _ (by decide +kernel)) ggX5_bears_X5_within
theorem dX5_bears_0 : decode cX5_bears 0 = .ok (.iload_n 1, 1) := by decide +kernel
theorem dX5_bears_1 : decode cX5_bears 1 = .ok (.iconst 0, 1) := by decide +kernel
theorem dX5_bears_2 : decode cX5_bears 2 = .ok (.bipush 18, 2) := by decide +kernel
theorem dX5_bears_4 : decode cX5_bears 4 = .ok (.invokestatic 62, 3) := by decide +kernel
theorem dX5_bears_7 : decode cX5_bears 7 = .ok (.ifCond .ne 5, 3) := by decide +kernel
theorem dX5_bears_10 : decode cX5_bears 10 = .ok (.iconst (-1), 1) := by decide +kernel
theorem dX5_bears_11 : decode cX5_bears 11 = .ok (.ireturn, 1) := by decide +kernel
theorem dX5_bears_12 : decode cX5_bears 12 = .ok (.aload_n 0, 1) := by decide +kernel
theorem dX5_bears_13 : decode cX5_bears 13 = .ok (.getfield 10, 3) := by decide +kernel
theorem dX5_bears_16 : decode cX5_bears 16 = .ok (.getfield 126, 3) := by decide +kernel
theorem dX5_bears_19 : decode cX5_bears 19 = .ok (.istore_n 2, 1) := by decide +kernel
theorem dX5_bears_20 : decode cX5_bears 20 = .ok (.aload_n 0, 1) := by decide +kernel
theorem dX5_bears_21 : decode cX5_bears 21 = .ok (.getfield 10, 3) := by decide +kernel
theorem dX5_bears_24 : decode cX5_bears 24 = .ok (.iload_n 1, 1) := by decide +kernel
theorem dX5_bears_25 : decode cX5_bears 25 = .ok (.putfield 126, 3) := by decide +kernel
theorem dX5_bears_28 : decode cX5_bears 28 = .ok (.iload_n 2, 1) := by decide +kernel
theorem dX5_bears_29 : decode cX5_bears 29 = .ok (.ireturn, 1) := by decide +kernel
set_option maxRecDepth 20000 in
theorem ggX5_bend_X5_isCell : GoodIn wsX5_bend wsX5_isCell := goodIn_r _ [5, 6, 7, 4, 8] (by decide +kernel) (by decide +kernel)
set_option maxRecDepth 20000 in
theorem gX5_bend_X5_isCell : GoodIn wsX5_bend (va_wsS RX5 154 yX5_isCell wsX5_isCell) := goodIn_app (goodIn_of _ (by decide +kernel)) ggX5_bend_X5_isCell
theorem dX5_bend_0 : decode cX5_bend 0 = .ok (.iload_n 1, 1) := by decide +kernel
theorem dX5_bend_1 : decode cX5_bend 1 = .ok (.invokestatic 154, 3) := by decide +kernel
theorem dX5_bend_4 : decode cX5_bend 4 = .ok (.ifCond .ne 5, 3) := by decide +kernel
theorem dX5_bend_7 : decode cX5_bend 7 = .ok (.iconst (-1), 1) := by decide +kernel
theorem dX5_bend_8 : decode cX5_bend 8 = .ok (.ireturn, 1) := by decide +kernel
theorem dX5_bend_9 : decode cX5_bend 9 = .ok (.aload_n 0, 1) := by decide +kernel
theorem dX5_bend_10 : decode cX5_bend 10 = .ok (.getfield 10, 3) := by decide +kernel
theorem dX5_bend_13 : decode cX5_bend 13 = .ok (.getfield 106, 3) := by decide +kernel
theorem dX5_bend_16 : decode cX5_bend 16 = .ok (.istore_n 2, 1) := by decide +kernel
theorem dX5_bend_17 : decode cX5_bend 17 = .ok (.aload_n 0, 1) := by decide +kernel
theorem dX5_bend_18 : decode cX5_bend 18 = .ok (.getfield 10, 3) := by decide +kernel
theorem dX5_bend_21 : decode cX5_bend 21 = .ok (.iload_n 1, 1) := by decide +kernel
theorem dX5_bend_22 : decode cX5_bend 22 = .ok (.putfield 106, 3) := by decide +kernel
theorem dX5_bend_25 : decode cX5_bend 25 = .ok (.iload_n 2, 1) := by decide +kernel
theorem dX5_bend_26 : decode cX5_bend 26 = .ok (.ireturn, 1) := by decide +kernel
set_option maxRecDepth 20000 in
theorem ggX5_put_X5_fitsTrait : GoodIn wsX5_put wsX5_fitsTrait := goodIn_r _ [5, 6, 7, 8, 9, 4, 10] (by decide +kernel) (by decide +kernel)
set_option maxRecDepth 20000 in
theorem gX5_put_X5_fitsTrait : GoodIn wsX5_put (va_wsS RX5 146 yX5_fitsTrait wsX5_fitsTrait) := goodIn_app (goodIn_of _ (by decide +kernel)) ggX5_put_X5_fitsTrait
set_option maxRecDepth 20000 in
theorem ggX5_put_X5_isCell : GoodIn wsX5_put wsX5_isCell := goodIn_r _ [13, 8, 9, 4, 10] (by decide +kernel) (by decide +kernel)
set_option maxRecDepth 20000 in
theorem gX5_put_X5_isCell : GoodIn wsX5_put (va_wsS RX5 154 yX5_isCell wsX5_isCell) := goodIn_app (goodIn_of _ (by decide +kernel)) ggX5_put_X5_isCell
set_option maxRecDepth 20000 in
theorem ggX5_put_X4_isFull : GoodIn wsX5_put wsX4_isFull := goodIn_r _ [17, 18, 40, 41, 42, 43, 44, 45, 46] (by decide +kernel) (by decide +kernel)
set_option maxRecDepth 20000 in
theorem gX5_put_X4_isFull_n157 : GoodIn wsX5_put (wsX4_isFull) := ggX5_put_X4_isFull
set_option maxRecDepth 20000 in
theorem ggX5_put_X4_addDraw : GoodIn wsX5_put wsX4_addDraw := goodIn_r _ [21, 18, 22, 14, 16, 15, 17, 23, 24, 25, 26, 27, 40, 41, 42, 43, 44, 45, 46] (by decide +kernel) (by decide +kernel)
set_option maxRecDepth 20000 in
theorem gX5_put_X4_addDraw_n160 : GoodIn wsX5_put (wsX4_addDraw) := ggX5_put_X4_addDraw
theorem dX5_put_0 : decode cX5_put 0 = .ok (.iconst 0, 1) := by decide +kernel
theorem dX5_put_1 : decode cX5_put 1 = .ok (.iload_n 1, 1) := by decide +kernel
theorem dX5_put_2 : decode cX5_put 2 = .ok (.invokestatic 146, 3) := by decide +kernel
theorem dX5_put_5 : decode cX5_put 5 = .ok (.ifCond .eq 18, 3) := by decide +kernel
theorem dX5_put_8 : decode cX5_put 8 = .ok (.iconst 1, 1) := by decide +kernel
theorem dX5_put_9 : decode cX5_put 9 = .ok (.iload_n 2, 1) := by decide +kernel
theorem dX5_put_10 : decode cX5_put 10 = .ok (.invokestatic 146, 3) := by decide +kernel
theorem dX5_put_13 : decode cX5_put 13 = .ok (.ifCond .eq 10, 3) := by decide +kernel
theorem dX5_put_16 : decode cX5_put 16 = .ok (.iload_n 3, 1) := by decide +kernel
theorem dX5_put_17 : decode cX5_put 17 = .ok (.invokestatic 154, 3) := by decide +kernel
theorem dX5_put_20 : decode cX5_put 20 = .ok (.ifCond .ne 5, 3) := by decide +kernel
theorem dX5_put_23 : decode cX5_put 23 = .ok (.iconst (-1), 1) := by decide +kernel
theorem dX5_put_24 : decode cX5_put 24 = .ok (.ireturn, 1) := by decide +kernel
theorem dX5_put_25 : decode cX5_put 25 = .ok (.aload_n 0, 1) := by decide +kernel
theorem dX5_put_26 : decode cX5_put 26 = .ok (.getfield 10, 3) := by decide +kernel
theorem dX5_put_29 : decode cX5_put 29 = .ok (.invokevirtual 157, 3) := by decide +kernel
theorem dX5_put_32 : decode cX5_put 32 = .ok (.ifCond .eq 6, 3) := by decide +kernel
theorem dX5_put_35 : decode cX5_put 35 = .ok (.bipush (-3), 2) := by decide +kernel
theorem dX5_put_37 : decode cX5_put 37 = .ok (.ireturn, 1) := by decide +kernel
theorem dX5_put_38 : decode cX5_put 38 = .ok (.aload_n 0, 1) := by decide +kernel
theorem dX5_put_39 : decode cX5_put 39 = .ok (.getfield 10, 3) := by decide +kernel
theorem dX5_put_42 : decode cX5_put 42 = .ok (.iload_n 1, 1) := by decide +kernel
theorem dX5_put_43 : decode cX5_put 43 = .ok (.iload_n 2, 1) := by decide +kernel
theorem dX5_put_44 : decode cX5_put 44 = .ok (.iload_n 3, 1) := by decide +kernel
theorem dX5_put_45 : decode cX5_put 45 = .ok (.iconst 0, 1) := by decide +kernel
theorem dX5_put_46 : decode cX5_put 46 = .ok (.invokevirtual 160, 3) := by decide +kernel
theorem dX5_put_49 : decode cX5_put 49 = .ok (.aload_n 0, 1) := by decide +kernel
theorem dX5_put_50 : decode cX5_put 50 = .ok (.getfield 10, 3) := by decide +kernel
theorem dX5_put_53 : decode cX5_put 53 = .ok (.getfield 97, 3) := by decide +kernel
theorem dX5_put_56 : decode cX5_put 56 = .ok (.ireturn, 1) := by decide +kernel
set_option maxRecDepth 20000 in
theorem ggX5_raze_X5_within : GoodIn wsX5_raze wsX5_within := goodIn_r _ [5] (by decide +kernel) (by decide +kernel)
set_option maxRecDepth 20000 in
theorem gX5_raze_X5_within : GoodIn wsX5_raze (va_wsS RX5 62 yX5_within wsX5_within) := goodIn_app (goodIn_of _ (by decide +kernel)) ggX5_raze_X5_within
theorem dX5_raze_0 : decode cX5_raze 0 = .ok (.aload_n 0, 1) := by decide +kernel
theorem dX5_raze_1 : decode cX5_raze 1 = .ok (.getfield 10, 3) := by decide +kernel
theorem dX5_raze_4 : decode cX5_raze 4 = .ok (.getfield 97, 3) := by decide +kernel
theorem dX5_raze_7 : decode cX5_raze 7 = .ok (.istore_n 2, 1) := by decide +kernel
theorem dX5_raze_8 : decode cX5_raze 8 = .ok (.iload_n 1, 1) := by decide +kernel
theorem dX5_raze_9 : decode cX5_raze 9 = .ok (.iconst 0, 1) := by decide +kernel
theorem dX5_raze_10 : decode cX5_raze 10 = .ok (.iload_n 2, 1) := by decide +kernel
theorem dX5_raze_11 : decode cX5_raze 11 = .ok (.invokestatic 62, 3) := by decide +kernel
theorem dX5_raze_14 : decode cX5_raze 14 = .ok (.ifCond .ne 5, 3) := by decide +kernel
theorem dX5_raze_17 : decode cX5_raze 17 = .ok (.iconst (-1), 1) := by decide +kernel
theorem dX5_raze_18 : decode cX5_raze 18 = .ok (.ireturn, 1) := by decide +kernel
theorem dX5_raze_19 : decode cX5_raze 19 = .ok (.aload_n 0, 1) := by decide +kernel
theorem dX5_raze_20 : decode cX5_raze 20 = .ok (.getfield 10, 3) := by decide +kernel
theorem dX5_raze_23 : decode cX5_raze 23 = .ok (.iload_n 1, 1) := by decide +kernel
theorem dX5_raze_24 : decode cX5_raze 24 = .ok (.putfield 97, 3) := by decide +kernel
theorem dX5_raze_27 : decode cX5_raze 27 = .ok (.iload_n 2, 1) := by decide +kernel
theorem dX5_raze_28 : decode cX5_raze 28 = .ok (.ireturn, 1) := by decide +kernel
set_option maxRecDepth 20000 in
theorem ggX5_years_X5_within : GoodIn wsX5_years wsX5_within := goodIn_r _ [5] (by decide +kernel) (by decide +kernel)
set_option maxRecDepth 20000 in
theorem gX5_years_X5_within : GoodIn wsX5_years (va_wsS RX5 62 yX5_within wsX5_within) := goodIn_app (goodIn_of _ (by decide +kernel)) ggX5_years_X5_within
set_option maxRecDepth 20000 in
theorem ggX5_years_X4_passYears : GoodIn wsX5_years wsX4_passYears := goodIn_r _ [9, 10, 11, 12, 7, 13, 14, 15, 16, 17, 18, 19, 20, 21, 22, 23, 24, 25, 26, 27, 28, 4, 29, 30, 31, 32, 33, 34, 35, 36, 37, 38, 39, 40, 41, 42, 43, 44, 45, 46, 47, 48, 49, 50, 51, 52, 53, 54, 55, 56, 57, 58, 59, 72, 73, 74, 75, 76, 77, 78] (by decide +kernel) (by decide +kernel)
set_option maxRecDepth 20000 in
theorem gX5_years_X4_passYears_n164 : GoodIn wsX5_years (wsX4_passYears) := ggX5_years_X4_passYears
theorem dX5_years_0 : decode cX5_years 0 = .ok (.iload_n 1, 1) := by decide +kernel
theorem dX5_years_1 : decode cX5_years 1 = .ok (.iconst 0, 1) := by decide +kernel
theorem dX5_years_2 : decode cX5_years 2 = .ok (.bipush 30, 2) := by decide +kernel
theorem dX5_years_4 : decode cX5_years 4 = .ok (.invokestatic 62, 3) := by decide +kernel
theorem dX5_years_7 : decode cX5_years 7 = .ok (.ifCond .ne 5, 3) := by decide +kernel
theorem dX5_years_10 : decode cX5_years 10 = .ok (.iconst (-1), 1) := by decide +kernel
theorem dX5_years_11 : decode cX5_years 11 = .ok (.ireturn, 1) := by decide +kernel
theorem dX5_years_12 : decode cX5_years 12 = .ok (.aload_n 0, 1) := by decide +kernel
theorem dX5_years_13 : decode cX5_years 13 = .ok (.getfield 10, 3) := by decide +kernel
theorem dX5_years_16 : decode cX5_years 16 = .ok (.getfield 100, 3) := by decide +kernel
theorem dX5_years_19 : decode cX5_years 19 = .ok (.iload_n 1, 1) := by decide +kernel
theorem dX5_years_20 : decode cX5_years 20 = .ok (.iadd, 1) := by decide +kernel
theorem dX5_years_21 : decode cX5_years 21 = .ok (.sipush 999, 3) := by decide +kernel
theorem dX5_years_24 : decode cX5_years 24 = .ok (.if_icmp .le 6, 3) := by decide +kernel
theorem dX5_years_27 : decode cX5_years 27 = .ok (.bipush (-3), 2) := by decide +kernel
theorem dX5_years_29 : decode cX5_years 29 = .ok (.ireturn, 1) := by decide +kernel
theorem dX5_years_30 : decode cX5_years 30 = .ok (.aload_n 0, 1) := by decide +kernel
theorem dX5_years_31 : decode cX5_years 31 = .ok (.getfield 10, 3) := by decide +kernel
theorem dX5_years_34 : decode cX5_years 34 = .ok (.iload_n 1, 1) := by decide +kernel
theorem dX5_years_35 : decode cX5_years 35 = .ok (.invokevirtual 164, 3) := by decide +kernel
theorem dX5_years_38 : decode cX5_years 38 = .ok (.aload_n 0, 1) := by decide +kernel
theorem dX5_years_39 : decode cX5_years 39 = .ok (.getfield 10, 3) := by decide +kernel
theorem dX5_years_42 : decode cX5_years 42 = .ok (.getfield 106, 3) := by decide +kernel
theorem dX5_years_45 : decode cX5_years 45 = .ok (.ireturn, 1) := by decide +kernel
set_option maxRecDepth 20000 in
theorem ggX5_runs_X5_within : GoodIn wsX5_runs wsX5_within := goodIn_r _ [6] (by decide +kernel) (by decide +kernel)
set_option maxRecDepth 20000 in
theorem gX5_runs_X5_within : GoodIn wsX5_runs (va_wsS RX5 62 yX5_within wsX5_within) := goodIn_app (goodIn_of _ (by decide +kernel)) ggX5_runs_X5_within
set_option maxRecDepth 20000 in
theorem ggX5_runs_X4_copyFrom : GoodIn wsX5_runs wsX4_copyFrom := goodIn_r _ [10, 11, 12, 13, 14, 15, 16, 17, 18, 19, 20, 21, 92, 93, 94, 95, 96, 97, 98] (by decide +kernel) (by decide +kernel)
set_option maxRecDepth 20000 in
theorem gX5_runs_X4_copyFrom_n90 : GoodIn wsX5_runs (wsX4_copyFrom) := ggX5_runs_X4_copyFrom
set_option maxRecDepth 20000 in
theorem ggX5_runs_X4_passYears : GoodIn wsX5_runs wsX4_passYears := goodIn_r _ [24, 25, 26, 27, 8, 28, 18, 21, 29, 30, 31, 32, 20, 19, 16, 33, 34, 35, 36, 17, 37, 5, 38, 39, 40, 41, 42, 43, 44, 45, 46, 11, 47, 48, 49, 50, 51, 52, 53, 54, 55, 56, 57, 58, 59, 60, 61, 62, 63, 64, 65, 66, 67, 92, 93, 94, 95, 96, 97, 98] (by decide +kernel) (by decide +kernel)
set_option maxRecDepth 20000 in
theorem gX5_runs_X4_passYears_n164 : GoodIn wsX5_runs (wsX4_passYears) := ggX5_runs_X4_passYears
set_option maxRecDepth 20000 in
theorem ggX5_runs_X4_lean : GoodIn wsX5_runs wsX4_lean := goodIn_r _ [36, 18, 17, 37, 5, 38, 92, 93, 94, 95, 96, 97, 98] (by decide +kernel) (by decide +kernel)
set_option maxRecDepth 20000 in
theorem gX5_runs_X4_lean_n109 : GoodIn wsX5_runs (wsX4_lean) := ggX5_runs_X4_lean
set_option maxRecDepth 20000 in
theorem ggX5_runs_X4_greatestLean : GoodIn wsX5_runs wsX4_greatestLean := goodIn_r _ [70, 71, 72, 64, 73, 33, 34, 35, 8, 36, 18, 17, 37, 5, 38, 25, 26, 27, 28, 21, 29, 30, 31, 32, 20, 19, 16, 39, 40, 41, 42, 43, 44, 45, 46, 11, 47, 48, 49, 50, 51, 52, 53, 54, 55, 56, 57, 58, 59, 60, 61, 62, 63, 65, 66, 67, 92, 93, 94, 95, 96, 97, 98] (by decide +kernel) (by decide +kernel)
set_option maxRecDepth 20000 in
theorem gX5_runs_X4_greatestLean_n168 : GoodIn wsX5_runs (wsX4_greatestLean) := ggX5_runs_X4_greatestLean
set_option maxRecDepth 20000 in
theorem ggX5_runs_X4_movesIn : GoodIn wsX5_runs wsX4_movesIn := goodIn_r _ [76, 18, 25, 26, 27, 8, 28, 21, 29, 30, 31, 32, 20, 19, 16, 33, 34, 35, 36, 17, 37, 5, 38, 39, 40, 41, 42, 43, 44, 45, 46, 11, 47, 48, 49, 50, 51, 52, 53, 54, 55, 56, 57, 58, 59, 60, 61, 62, 63, 64, 65, 66, 67, 92, 93, 94, 95, 96, 97, 98] (by decide +kernel) (by decide +kernel)
set_option maxRecDepth 20000 in
theorem gX5_runs_X4_movesIn_n171 : GoodIn wsX5_runs (wsX4_movesIn) := ggX5_runs_X4_movesIn
set_option maxRecDepth 20000 in
theorem ggX5_runs_X4_holdersIn : GoodIn wsX5_runs wsX4_holdersIn := goodIn_r _ [79, 25, 26, 27, 8, 28, 18, 21, 29, 30, 31, 32, 20, 19, 16, 33, 34, 35, 36, 17, 37, 5, 38, 39, 40, 41, 42, 43, 44, 45, 46, 11, 47, 48, 49, 50, 51, 52, 53, 54, 55, 56, 57, 58, 59, 60, 61, 62, 63, 64, 65, 66, 67, 92, 93, 94, 95, 96, 97, 98] (by decide +kernel) (by decide +kernel)
set_option maxRecDepth 20000 in
theorem gX5_runs_X4_holdersIn_n174 : GoodIn wsX5_runs (wsX4_holdersIn) := ggX5_runs_X4_holdersIn
theorem dX5_runs_0 : decode cX5_runs 0 = .ok (.iload_n 1, 1) := by decide +kernel
theorem dX5_runs_1 : decode cX5_runs 1 = .ok (.iconst 0, 1) := by decide +kernel
theorem dX5_runs_2 : decode cX5_runs 2 = .ok (.bipush 60, 2) := by decide +kernel
theorem dX5_runs_4 : decode cX5_runs 4 = .ok (.invokestatic 62, 3) := by decide +kernel
theorem dX5_runs_7 : decode cX5_runs 7 = .ok (.ifCond .ne 5, 3) := by decide +kernel
theorem dX5_runs_10 : decode cX5_runs 10 = .ok (.iconst (-1), 1) := by decide +kernel
theorem dX5_runs_11 : decode cX5_runs 11 = .ok (.ireturn, 1) := by decide +kernel
theorem dX5_runs_12 : decode cX5_runs 12 = .ok (.aload_n 0, 1) := by decide +kernel
theorem dX5_runs_13 : decode cX5_runs 13 = .ok (.getfield 16, 3) := by decide +kernel
theorem dX5_runs_16 : decode cX5_runs 16 = .ok (.aload_n 0, 1) := by decide +kernel
theorem dX5_runs_17 : decode cX5_runs 17 = .ok (.getfield 10, 3) := by decide +kernel
theorem dX5_runs_20 : decode cX5_runs 20 = .ok (.invokevirtual 90, 3) := by decide +kernel
theorem dX5_runs_23 : decode cX5_runs 23 = .ok (.iload_n 2, 1) := by decide +kernel
theorem dX5_runs_24 : decode cX5_runs 24 = .ok (.tableswitch 95 0 4 #[36, 52, 68, 77, 86], 36) := by decide +kernel
theorem dX5_runs_60 : decode cX5_runs 60 = .ok (.aload_n 0, 1) := by decide +kernel
theorem dX5_runs_61 : decode cX5_runs 61 = .ok (.getfield 16, 3) := by decide +kernel
theorem dX5_runs_64 : decode cX5_runs 64 = .ok (.iload_n 1, 1) := by decide +kernel
theorem dX5_runs_65 : decode cX5_runs 65 = .ok (.invokevirtual 164, 3) := by decide +kernel
theorem dX5_runs_68 : decode cX5_runs 68 = .ok (.aload_n 0, 1) := by decide +kernel
theorem dX5_runs_69 : decode cX5_runs 69 = .ok (.getfield 16, 3) := by decide +kernel
theorem dX5_runs_72 : decode cX5_runs 72 = .ok (.getfield 106, 3) := by decide +kernel
theorem dX5_runs_75 : decode cX5_runs 75 = .ok (.ireturn, 1) := by decide +kernel
theorem dX5_runs_76 : decode cX5_runs 76 = .ok (.aload_n 0, 1) := by decide +kernel
theorem dX5_runs_77 : decode cX5_runs 77 = .ok (.getfield 16, 3) := by decide +kernel
theorem dX5_runs_80 : decode cX5_runs 80 = .ok (.iload_n 1, 1) := by decide +kernel
theorem dX5_runs_81 : decode cX5_runs 81 = .ok (.invokevirtual 164, 3) := by decide +kernel
theorem dX5_runs_84 : decode cX5_runs 84 = .ok (.aload_n 0, 1) := by decide +kernel
theorem dX5_runs_85 : decode cX5_runs 85 = .ok (.getfield 16, 3) := by decide +kernel
theorem dX5_runs_88 : decode cX5_runs 88 = .ok (.invokevirtual 109, 3) := by decide +kernel
theorem dX5_runs_91 : decode cX5_runs 91 = .ok (.ireturn, 1) := by decide +kernel
theorem dX5_runs_92 : decode cX5_runs 92 = .ok (.aload_n 0, 1) := by decide +kernel
theorem dX5_runs_93 : decode cX5_runs 93 = .ok (.getfield 16, 3) := by decide +kernel
theorem dX5_runs_96 : decode cX5_runs 96 = .ok (.iload_n 1, 1) := by decide +kernel
theorem dX5_runs_97 : decode cX5_runs 97 = .ok (.invokevirtual 168, 3) := by decide +kernel
theorem dX5_runs_100 : decode cX5_runs 100 = .ok (.ireturn, 1) := by decide +kernel
theorem dX5_runs_101 : decode cX5_runs 101 = .ok (.aload_n 0, 1) := by decide +kernel
theorem dX5_runs_102 : decode cX5_runs 102 = .ok (.getfield 16, 3) := by decide +kernel
theorem dX5_runs_105 : decode cX5_runs 105 = .ok (.iload_n 1, 1) := by decide +kernel
theorem dX5_runs_106 : decode cX5_runs 106 = .ok (.invokevirtual 171, 3) := by decide +kernel
theorem dX5_runs_109 : decode cX5_runs 109 = .ok (.ireturn, 1) := by decide +kernel
theorem dX5_runs_110 : decode cX5_runs 110 = .ok (.aload_n 0, 1) := by decide +kernel
theorem dX5_runs_111 : decode cX5_runs 111 = .ok (.getfield 16, 3) := by decide +kernel
theorem dX5_runs_114 : decode cX5_runs 114 = .ok (.iload_n 1, 1) := by decide +kernel
theorem dX5_runs_115 : decode cX5_runs 115 = .ok (.invokevirtual 174, 3) := by decide +kernel
theorem dX5_runs_118 : decode cX5_runs 118 = .ok (.ireturn, 1) := by decide +kernel
theorem dX5_runs_119 : decode cX5_runs 119 = .ok (.iconst (-1), 1) := by decide +kernel
theorem dX5_runs_120 : decode cX5_runs 120 = .ok (.ireturn, 1) := by decide +kernel
set_option maxRecDepth 20000 in
theorem ggX5_falls_X4_copyFrom : GoodIn wsX5_falls wsX4_copyFrom := goodIn_r _ [6, 7, 8, 9, 10, 11, 12, 13, 14, 15, 16, 17, 77, 78, 79, 80, 81, 82, 83] (by decide +kernel) (by decide +kernel)
set_option maxRecDepth 20000 in
theorem gX5_falls_X4_copyFrom_n90 : GoodIn wsX5_falls (wsX4_copyFrom) := ggX5_falls_X4_copyFrom
set_option maxRecDepth 20000 in
theorem ggX5_falls_X4_yearsToFall : GoodIn wsX5_falls wsX4_yearsToFall := goodIn_r _ [20, 21, 22, 23, 4, 24, 16, 25, 26, 27, 28, 14, 13, 29, 30, 31, 32, 33, 34, 35, 17, 36, 37, 38, 39, 15, 12, 40, 41, 42, 43, 44, 45, 46, 47, 7, 48, 49, 50, 51, 52, 53, 54, 55, 56, 57, 58, 59, 60, 61, 62, 63, 64, 77, 78, 79, 80, 81, 82, 83] (by decide +kernel) (by decide +kernel)
set_option maxRecDepth 20000 in
theorem gX5_falls_X4_yearsToFall_n177 : GoodIn wsX5_falls (wsX4_yearsToFall) := ggX5_falls_X4_yearsToFall
theorem dX5_falls_0 : decode cX5_falls 0 = .ok (.aload_n 0, 1) := by decide +kernel
theorem dX5_falls_1 : decode cX5_falls 1 = .ok (.getfield 16, 3) := by decide +kernel
theorem dX5_falls_4 : decode cX5_falls 4 = .ok (.aload_n 0, 1) := by decide +kernel
theorem dX5_falls_5 : decode cX5_falls 5 = .ok (.getfield 10, 3) := by decide +kernel
theorem dX5_falls_8 : decode cX5_falls 8 = .ok (.invokevirtual 90, 3) := by decide +kernel
theorem dX5_falls_11 : decode cX5_falls 11 = .ok (.aload_n 0, 1) := by decide +kernel
theorem dX5_falls_12 : decode cX5_falls 12 = .ok (.getfield 16, 3) := by decide +kernel
theorem dX5_falls_15 : decode cX5_falls 15 = .ok (.bipush 60, 2) := by decide +kernel
theorem dX5_falls_17 : decode cX5_falls 17 = .ok (.invokevirtual 177, 3) := by decide +kernel
theorem dX5_falls_20 : decode cX5_falls 20 = .ok (.ireturn, 1) := by decide +kernel
set_option maxRecDepth 20000 in
theorem ggX5_comes_X5_isCell : GoodIn wsX5_comes wsX5_isCell := goodIn_r _ [6, 7, 8, 5, 9] (by decide +kernel) (by decide +kernel)
set_option maxRecDepth 20000 in
theorem gX5_comes_X5_isCell : GoodIn wsX5_comes (va_wsS RX5 154 yX5_isCell wsX5_isCell) := goodIn_app (goodIn_of _ (by decide +kernel)) ggX5_comes_X5_isCell
set_option maxRecDepth 20000 in
theorem ggX5_comes_X4_copyFrom : GoodIn wsX5_comes wsX4_copyFrom := goodIn_r _ [13, 14, 15, 16, 17, 18, 19, 20, 21, 22, 23, 24, 83, 84, 85, 86, 87, 88, 89] (by decide +kernel) (by decide +kernel)
set_option maxRecDepth 20000 in
theorem gX5_comes_X4_copyFrom_n90 : GoodIn wsX5_comes (wsX4_copyFrom) := ggX5_comes_X4_copyFrom
set_option maxRecDepth 20000 in
theorem ggX5_comes_X4_yearsTo : GoodIn wsX5_comes wsX4_yearsTo := goodIn_r _ [27, 21, 28, 29, 30, 11, 31, 24, 32, 33, 34, 35, 23, 22, 19, 36, 37, 38, 39, 20, 40, 5, 41, 42, 43, 44, 45, 46, 47, 48, 49, 14, 50, 51, 52, 53, 54, 55, 56, 57, 58, 59, 60, 61, 62, 63, 64, 65, 66, 67, 68, 69, 70, 83, 84, 85, 86, 87, 88, 89] (by decide +kernel) (by decide +kernel)
set_option maxRecDepth 20000 in
theorem gX5_comes_X4_yearsTo_n180 : GoodIn wsX5_comes (wsX4_yearsTo) := ggX5_comes_X4_yearsTo
theorem dX5_comes_0 : decode cX5_comes 0 = .ok (.iload_n 1, 1) := by decide +kernel
theorem dX5_comes_1 : decode cX5_comes 1 = .ok (.invokestatic 154, 3) := by decide +kernel
theorem dX5_comes_4 : decode cX5_comes 4 = .ok (.ifCond .ne 5, 3) := by decide +kernel
theorem dX5_comes_7 : decode cX5_comes 7 = .ok (.iconst (-1), 1) := by decide +kernel
theorem dX5_comes_8 : decode cX5_comes 8 = .ok (.ireturn, 1) := by decide +kernel
theorem dX5_comes_9 : decode cX5_comes 9 = .ok (.aload_n 0, 1) := by decide +kernel
theorem dX5_comes_10 : decode cX5_comes 10 = .ok (.getfield 16, 3) := by decide +kernel
theorem dX5_comes_13 : decode cX5_comes 13 = .ok (.aload_n 0, 1) := by decide +kernel
theorem dX5_comes_14 : decode cX5_comes 14 = .ok (.getfield 10, 3) := by decide +kernel
theorem dX5_comes_17 : decode cX5_comes 17 = .ok (.invokevirtual 90, 3) := by decide +kernel
theorem dX5_comes_20 : decode cX5_comes 20 = .ok (.aload_n 0, 1) := by decide +kernel
theorem dX5_comes_21 : decode cX5_comes 21 = .ok (.getfield 16, 3) := by decide +kernel
theorem dX5_comes_24 : decode cX5_comes 24 = .ok (.iload_n 1, 1) := by decide +kernel
theorem dX5_comes_25 : decode cX5_comes 25 = .ok (.bipush 60, 2) := by decide +kernel
theorem dX5_comes_27 : decode cX5_comes 27 = .ok (.invokevirtual 180, 3) := by decide +kernel
theorem dX5_comes_30 : decode cX5_comes 30 = .ok (.ireturn, 1) := by decide +kernel
set_option maxRecDepth 20000 in
theorem ggX5_share_X4_hasDraw : GoodIn wsX5_share wsX4_hasDraw := goodIn_r _ [7, 8, 93, 94, 95, 96, 97, 98, 99] (by decide +kernel) (by decide +kernel)
set_option maxRecDepth 20000 in
theorem gX5_share_X4_hasDraw_n129 : GoodIn wsX5_share (wsX4_hasDraw) := ggX5_share_X4_hasDraw
set_option maxRecDepth 20000 in
theorem ggX5_share_X5_within : GoodIn wsX5_share wsX5_within := goodIn_r _ [12] (by decide +kernel) (by decide +kernel)
set_option maxRecDepth 20000 in
theorem gX5_share_X5_within : GoodIn wsX5_share (va_wsS RX5 62 yX5_within wsX5_within) := goodIn_app (goodIn_of _ (by decide +kernel)) ggX5_share_X5_within
set_option maxRecDepth 20000 in
theorem ggX5_share_X5_isHalf : GoodIn wsX5_share wsX5_isHalf := goodIn_r _ [15, 9, 10, 11, 12] (by decide +kernel) (by decide +kernel)
set_option maxRecDepth 20000 in
theorem gX5_share_X5_isHalf : GoodIn wsX5_share (va_wsS RX5 183 yX5_isHalf wsX5_isHalf) := goodIn_app (goodIn_of _ (by decide +kernel)) ggX5_share_X5_isHalf
set_option maxRecDepth 20000 in
theorem ggX5_share_X4_copyFrom : GoodIn wsX5_share wsX4_copyFrom := goodIn_r _ [18, 19, 20, 21, 22, 23, 8, 24, 25, 26, 27, 28, 93, 94, 95, 96, 97, 98, 99] (by decide +kernel) (by decide +kernel)
set_option maxRecDepth 20000 in
theorem gX5_share_X4_copyFrom_n90 : GoodIn wsX5_share (wsX4_copyFrom) := ggX5_share_X4_copyFrom
set_option maxRecDepth 20000 in
theorem ggX5_share_X4_yearsHeldBy : GoodIn wsX5_share wsX4_yearsHeldBy := goodIn_r _ [31, 32, 33, 34, 5, 35, 25, 28, 36, 37, 38, 39, 27, 26, 8, 40, 41, 42, 43, 24, 44, 11, 45, 46, 47, 48, 49, 50, 51, 52, 53, 19, 54, 55, 56, 57, 58, 59, 60, 61, 62, 63, 64, 65, 66, 67, 68, 69, 70, 71, 72, 73, 74, 93, 94, 95, 96, 97, 98, 99] (by decide +kernel) (by decide +kernel)
set_option maxRecDepth 20000 in
theorem gX5_share_X4_yearsHeldBy_n188 : GoodIn wsX5_share (wsX4_yearsHeldBy) := ggX5_share_X4_yearsHeldBy
set_option maxRecDepth 20000 in
theorem ggX5_share_X5_part : GoodIn wsX5_share wsX5_part := goodIn_r _ [77, 78, 79, 11, 80] (by decide +kernel) (by decide +kernel)
set_option maxRecDepth 20000 in
theorem gX5_share_X5_part : GoodIn wsX5_share (va_wsS RX5 191 yX5_part wsX5_part) := goodIn_app (goodIn_of _ (by decide +kernel)) ggX5_share_X5_part
theorem dX5_share_0 : decode cX5_share 0 = .ok (.aload_n 0, 1) := by decide +kernel
theorem dX5_share_1 : decode cX5_share 1 = .ok (.getfield 10, 3) := by decide +kernel
theorem dX5_share_4 : decode cX5_share 4 = .ok (.iload_n 1, 1) := by decide +kernel
theorem dX5_share_5 : decode cX5_share 5 = .ok (.invokevirtual 129, 3) := by decide +kernel
theorem dX5_share_8 : decode cX5_share 8 = .ok (.ifCond .eq 20, 3) := by decide +kernel
theorem dX5_share_11 : decode cX5_share 11 = .ok (.iload_n 2, 1) := by decide +kernel
theorem dX5_share_12 : decode cX5_share 12 = .ok (.iconst 1, 1) := by decide +kernel
theorem dX5_share_13 : decode cX5_share 13 = .ok (.bipush 60, 2) := by decide +kernel
theorem dX5_share_15 : decode cX5_share 15 = .ok (.invokestatic 62, 3) := by decide +kernel
theorem dX5_share_18 : decode cX5_share 18 = .ok (.ifCond .eq 10, 3) := by decide +kernel
theorem dX5_share_21 : decode cX5_share 21 = .ok (.iload_n 3, 1) := by decide +kernel
theorem dX5_share_22 : decode cX5_share 22 = .ok (.invokestatic 183, 3) := by decide +kernel
theorem dX5_share_25 : decode cX5_share 25 = .ok (.ifCond .ne 7, 3) := by decide +kernel
theorem dX5_share_28 : decode cX5_share 28 = .ok (.ldc2_w 186, 3) := by decide +kernel
theorem dX5_share_31 : decode cX5_share 31 = .ok (.lreturn, 1) := by decide +kernel
theorem dX5_share_32 : decode cX5_share 32 = .ok (.aload_n 0, 1) := by decide +kernel
theorem dX5_share_33 : decode cX5_share 33 = .ok (.getfield 16, 3) := by decide +kernel
theorem dX5_share_36 : decode cX5_share 36 = .ok (.aload_n 0, 1) := by decide +kernel
theorem dX5_share_37 : decode cX5_share 37 = .ok (.getfield 10, 3) := by decide +kernel
theorem dX5_share_40 : decode cX5_share 40 = .ok (.invokevirtual 90, 3) := by decide +kernel
theorem dX5_share_43 : decode cX5_share 43 = .ok (.aload_n 0, 1) := by decide +kernel
theorem dX5_share_44 : decode cX5_share 44 = .ok (.getfield 16, 3) := by decide +kernel
theorem dX5_share_47 : decode cX5_share 47 = .ok (.iload_n 1, 1) := by decide +kernel
theorem dX5_share_48 : decode cX5_share 48 = .ok (.iload_n 2, 1) := by decide +kernel
theorem dX5_share_49 : decode cX5_share 49 = .ok (.invokevirtual 188, 3) := by decide +kernel
theorem dX5_share_52 : decode cX5_share 52 = .ok (.i2l, 1) := by decide +kernel
theorem dX5_share_53 : decode cX5_share 53 = .ok (.iload_n 2, 1) := by decide +kernel
theorem dX5_share_54 : decode cX5_share 54 = .ok (.i2l, 1) := by decide +kernel
theorem dX5_share_55 : decode cX5_share 55 = .ok (.iload_n 3, 1) := by decide +kernel
theorem dX5_share_56 : decode cX5_share 56 = .ok (.invokestatic 191, 3) := by decide +kernel
theorem dX5_share_59 : decode cX5_share 59 = .ok (.lreturn, 1) := by decide +kernel
set_option maxRecDepth 20000 in
theorem ggX5_turn_X4_copyFrom : GoodIn wsX5_turn wsX4_copyFrom := goodIn_r _ [6, 7, 8, 9, 10, 11, 12, 13, 14, 15, 16, 17, 73, 74, 75, 76, 77, 78, 79] (by decide +kernel) (by decide +kernel)
set_option maxRecDepth 20000 in
theorem gX5_turn_X4_copyFrom_n90 : GoodIn wsX5_turn (wsX4_copyFrom) := ggX5_turn_X4_copyFrom
set_option maxRecDepth 20000 in
theorem ggX5_turn_X4_holder : GoodIn wsX5_turn wsX4_holder := goodIn_r _ [20, 16, 15, 12, 21, 22, 23, 4, 24, 14, 13, 25, 26, 27, 28, 29, 30, 31, 17, 32, 33, 34, 35, 7, 36, 37, 38, 73, 74, 75, 76, 77, 78, 79] (by decide +kernel) (by decide +kernel)
set_option maxRecDepth 20000 in
theorem gX5_turn_X4_holder_n117 : GoodIn wsX5_turn (wsX4_holder) := ggX5_turn_X4_holder
set_option maxRecDepth 20000 in
theorem ggX5_turn_X4_passYear : GoodIn wsX5_turn wsX4_passYear := goodIn_r _ [41, 14, 17, 42, 18, 19, 4, 20, 16, 15, 12, 21, 22, 23, 24, 13, 25, 26, 27, 28, 29, 30, 31, 32, 33, 34, 35, 7, 36, 37, 38, 43, 44, 45, 46, 47, 48, 49, 50, 51, 52, 53, 54, 55, 56, 57, 58, 59, 60, 73, 74, 75, 76, 77, 78, 79] (by decide +kernel) (by decide +kernel)
set_option maxRecDepth 20000 in
theorem gX5_turn_X4_passYear_n195 : GoodIn wsX5_turn (wsX4_passYear) := ggX5_turn_X4_passYear
theorem dX5_turn_0 : decode cX5_turn 0 = .ok (.aload_n 0, 1) := by decide +kernel
theorem dX5_turn_1 : decode cX5_turn 1 = .ok (.getfield 16, 3) := by decide +kernel
theorem dX5_turn_4 : decode cX5_turn 4 = .ok (.aload_n 0, 1) := by decide +kernel
theorem dX5_turn_5 : decode cX5_turn 5 = .ok (.getfield 10, 3) := by decide +kernel
theorem dX5_turn_8 : decode cX5_turn 8 = .ok (.invokevirtual 90, 3) := by decide +kernel
theorem dX5_turn_11 : decode cX5_turn 11 = .ok (.aload_n 0, 1) := by decide +kernel
theorem dX5_turn_12 : decode cX5_turn 12 = .ok (.getfield 10, 3) := by decide +kernel
theorem dX5_turn_15 : decode cX5_turn 15 = .ok (.invokevirtual 117, 3) := by decide +kernel
theorem dX5_turn_18 : decode cX5_turn 18 = .ok (.istore_n 1, 1) := by decide +kernel
theorem dX5_turn_19 : decode cX5_turn 19 = .ok (.iconst 1, 1) := by decide +kernel
theorem dX5_turn_20 : decode cX5_turn 20 = .ok (.istore_n 2, 1) := by decide +kernel
theorem dX5_turn_21 : decode cX5_turn 21 = .ok (.iload_n 2, 1) := by decide +kernel
theorem dX5_turn_22 : decode cX5_turn 22 = .ok (.bipush 60, 2) := by decide +kernel
theorem dX5_turn_24 : decode cX5_turn 24 = .ok (.if_icmp .gt 30, 3) := by decide +kernel
theorem dX5_turn_27 : decode cX5_turn 27 = .ok (.aload_n 0, 1) := by decide +kernel
theorem dX5_turn_28 : decode cX5_turn 28 = .ok (.getfield 16, 3) := by decide +kernel
theorem dX5_turn_31 : decode cX5_turn 31 = .ok (.invokevirtual 195, 3) := by decide +kernel
theorem dX5_turn_34 : decode cX5_turn 34 = .ok (.pop, 1) := by decide +kernel
theorem dX5_turn_35 : decode cX5_turn 35 = .ok (.aload_n 0, 1) := by decide +kernel
theorem dX5_turn_36 : decode cX5_turn 36 = .ok (.getfield 16, 3) := by decide +kernel
theorem dX5_turn_39 : decode cX5_turn 39 = .ok (.invokevirtual 117, 3) := by decide +kernel
theorem dX5_turn_42 : decode cX5_turn 42 = .ok (.iload_n 1, 1) := by decide +kernel
theorem dX5_turn_43 : decode cX5_turn 43 = .ok (.if_icmp .eq 5, 3) := by decide +kernel
theorem dX5_turn_46 : decode cX5_turn 46 = .ok (.iload_n 2, 1) := by decide +kernel
theorem dX5_turn_47 : decode cX5_turn 47 = .ok (.ireturn, 1) := by decide +kernel
theorem dX5_turn_48 : decode cX5_turn 48 = .ok (.iinc 2 1, 3) := by decide +kernel
theorem dX5_turn_51 : decode cX5_turn 51 = .ok (.goto (-30), 3) := by decide +kernel
theorem dX5_turn_54 : decode cX5_turn 54 = .ok (.bipush (-4), 2) := by decide +kernel
theorem dX5_turn_56 : decode cX5_turn 56 = .ok (.ireturn, 1) := by decide +kernel
set_option maxRecDepth 20000 in
theorem ggX5_need_X4_copyFrom : GoodIn wsX5_need wsX4_copyFrom := goodIn_r _ [6, 7, 8, 9, 10, 11, 12, 13, 14, 15, 16, 17, 77, 78, 79, 80, 81, 82, 83] (by decide +kernel) (by decide +kernel)
set_option maxRecDepth 20000 in
theorem gX5_need_X4_copyFrom_n90 : GoodIn wsX5_need (wsX4_copyFrom) := ggX5_need_X4_copyFrom
set_option maxRecDepth 20000 in
theorem ggX5_need_X4_yearsToFall : GoodIn wsX5_need wsX4_yearsToFall := goodIn_r _ [20, 21, 22, 23, 4, 24, 16, 25, 26, 27, 28, 14, 13, 29, 30, 31, 32, 33, 34, 35, 17, 36, 37, 38, 39, 15, 12, 40, 41, 42, 43, 44, 45, 46, 47, 7, 48, 49, 50, 51, 52, 53, 54, 55, 56, 57, 58, 59, 60, 61, 62, 63, 64, 77, 78, 79, 80, 81, 82, 83] (by decide +kernel) (by decide +kernel)
set_option maxRecDepth 20000 in
theorem gX5_need_X4_yearsToFall_n177 : GoodIn wsX5_need (wsX4_yearsToFall) := ggX5_need_X4_yearsToFall
theorem dX5_need_0 : decode cX5_need 0 = .ok (.iconst 0, 1) := by decide +kernel
theorem dX5_need_1 : decode cX5_need 1 = .ok (.istore_n 1, 1) := by decide +kernel
theorem dX5_need_2 : decode cX5_need 2 = .ok (.iload_n 1, 1) := by decide +kernel
theorem dX5_need_3 : decode cX5_need 3 = .ok (.bipush 18, 2) := by decide +kernel
theorem dX5_need_5 : decode cX5_need 5 = .ok (.if_icmp .gt 44, 3) := by decide +kernel
theorem dX5_need_8 : decode cX5_need 8 = .ok (.aload_n 0, 1) := by decide +kernel
theorem dX5_need_9 : decode cX5_need 9 = .ok (.getfield 16, 3) := by decide +kernel
theorem dX5_need_12 : decode cX5_need 12 = .ok (.aload_n 0, 1) := by decide +kernel
theorem dX5_need_13 : decode cX5_need 13 = .ok (.getfield 10, 3) := by decide +kernel
theorem dX5_need_16 : decode cX5_need 16 = .ok (.invokevirtual 90, 3) := by decide +kernel
theorem dX5_need_19 : decode cX5_need 19 = .ok (.aload_n 0, 1) := by decide +kernel
theorem dX5_need_20 : decode cX5_need 20 = .ok (.getfield 16, 3) := by decide +kernel
theorem dX5_need_23 : decode cX5_need 23 = .ok (.iload_n 1, 1) := by decide +kernel
theorem dX5_need_24 : decode cX5_need 24 = .ok (.putfield 126, 3) := by decide +kernel
theorem dX5_need_27 : decode cX5_need 27 = .ok (.aload_n 0, 1) := by decide +kernel
theorem dX5_need_28 : decode cX5_need 28 = .ok (.getfield 16, 3) := by decide +kernel
theorem dX5_need_31 : decode cX5_need 31 = .ok (.bipush 60, 2) := by decide +kernel
theorem dX5_need_33 : decode cX5_need 33 = .ok (.invokevirtual 177, 3) := by decide +kernel
theorem dX5_need_36 : decode cX5_need 36 = .ok (.bipush (-4), 2) := by decide +kernel
theorem dX5_need_38 : decode cX5_need 38 = .ok (.if_icmp .ne 5, 3) := by decide +kernel
theorem dX5_need_41 : decode cX5_need 41 = .ok (.iload_n 1, 1) := by decide +kernel
theorem dX5_need_42 : decode cX5_need 42 = .ok (.ireturn, 1) := by decide +kernel
theorem dX5_need_43 : decode cX5_need 43 = .ok (.iinc 1 1, 3) := by decide +kernel
theorem dX5_need_46 : decode cX5_need 46 = .ok (.goto (-44), 3) := by decide +kernel
theorem dX5_need_49 : decode cX5_need 49 = .ok (.bipush (-4), 2) := by decide +kernel
theorem dX5_need_51 : decode cX5_need 51 = .ok (.ireturn, 1) := by decide +kernel
set_option maxRecDepth 20000 in
theorem ggX5_brace_X4_copyFrom : GoodIn wsX5_brace wsX4_copyFrom := goodIn_r _ [6, 7, 8, 9, 10, 11, 12, 13, 14, 15, 16, 17, 77, 78, 79, 80, 81, 82, 83] (by decide +kernel) (by decide +kernel)
set_option maxRecDepth 20000 in
theorem gX5_brace_X4_copyFrom_n90 : GoodIn wsX5_brace (wsX4_copyFrom) := ggX5_brace_X4_copyFrom
set_option maxRecDepth 20000 in
theorem ggX5_brace_X4_yearsToFall : GoodIn wsX5_brace wsX4_yearsToFall := goodIn_r _ [20, 21, 22, 23, 4, 24, 16, 25, 26, 27, 28, 14, 13, 29, 30, 31, 32, 33, 34, 35, 17, 36, 37, 38, 39, 15, 12, 40, 41, 42, 43, 44, 45, 46, 47, 7, 48, 49, 50, 51, 52, 53, 54, 55, 56, 57, 58, 59, 60, 61, 62, 63, 64, 77, 78, 79, 80, 81, 82, 83] (by decide +kernel) (by decide +kernel)
set_option maxRecDepth 20000 in
theorem gX5_brace_X4_yearsToFall_n177 : GoodIn wsX5_brace (wsX4_yearsToFall) := ggX5_brace_X4_yearsToFall
theorem dX5_brace_0 : decode cX5_brace 0 = .ok (.iconst 0, 1) := by decide +kernel
theorem dX5_brace_1 : decode cX5_brace 1 = .ok (.istore_n 1, 1) := by decide +kernel
theorem dX5_brace_2 : decode cX5_brace 2 = .ok (.iload_n 1, 1) := by decide +kernel
theorem dX5_brace_3 : decode cX5_brace 3 = .ok (.bipush 20, 2) := by decide +kernel
theorem dX5_brace_5 : decode cX5_brace 5 = .ok (.if_icmp .gt 44, 3) := by decide +kernel
theorem dX5_brace_8 : decode cX5_brace 8 = .ok (.aload_n 0, 1) := by decide +kernel
theorem dX5_brace_9 : decode cX5_brace 9 = .ok (.getfield 16, 3) := by decide +kernel
theorem dX5_brace_12 : decode cX5_brace 12 = .ok (.aload_n 0, 1) := by decide +kernel
theorem dX5_brace_13 : decode cX5_brace 13 = .ok (.getfield 10, 3) := by decide +kernel
theorem dX5_brace_16 : decode cX5_brace 16 = .ok (.invokevirtual 90, 3) := by decide +kernel
theorem dX5_brace_19 : decode cX5_brace 19 = .ok (.aload_n 0, 1) := by decide +kernel
theorem dX5_brace_20 : decode cX5_brace 20 = .ok (.getfield 16, 3) := by decide +kernel
theorem dX5_brace_23 : decode cX5_brace 23 = .ok (.iload_n 1, 1) := by decide +kernel
theorem dX5_brace_24 : decode cX5_brace 24 = .ok (.putfield 123, 3) := by decide +kernel
theorem dX5_brace_27 : decode cX5_brace 27 = .ok (.aload_n 0, 1) := by decide +kernel
theorem dX5_brace_28 : decode cX5_brace 28 = .ok (.getfield 16, 3) := by decide +kernel
theorem dX5_brace_31 : decode cX5_brace 31 = .ok (.bipush 60, 2) := by decide +kernel
theorem dX5_brace_33 : decode cX5_brace 33 = .ok (.invokevirtual 177, 3) := by decide +kernel
theorem dX5_brace_36 : decode cX5_brace 36 = .ok (.bipush (-4), 2) := by decide +kernel
theorem dX5_brace_38 : decode cX5_brace 38 = .ok (.if_icmp .ne 5, 3) := by decide +kernel
theorem dX5_brace_41 : decode cX5_brace 41 = .ok (.iload_n 1, 1) := by decide +kernel
theorem dX5_brace_42 : decode cX5_brace 42 = .ok (.ireturn, 1) := by decide +kernel
theorem dX5_brace_43 : decode cX5_brace 43 = .ok (.iinc 1 1, 3) := by decide +kernel
theorem dX5_brace_46 : decode cX5_brace 46 = .ok (.goto (-44), 3) := by decide +kernel
theorem dX5_brace_49 : decode cX5_brace 49 = .ok (.bipush (-4), 2) := by decide +kernel
theorem dX5_brace_51 : decode cX5_brace 51 = .ok (.ireturn, 1) := by decide +kernel
set_option maxRecDepth 20000 in
theorem ggX5_lure_X4_hasDraw : GoodIn wsX5_lure wsX4_hasDraw := goodIn_r _ [8, 9, 95, 96, 97, 98, 99, 100, 101] (by decide +kernel) (by decide +kernel)
set_option maxRecDepth 20000 in
theorem gX5_lure_X4_hasDraw_n129 : GoodIn wsX5_lure (wsX4_hasDraw) := ggX5_lure_X4_hasDraw
set_option maxRecDepth 20000 in
theorem ggX5_lure_X5_isCell : GoodIn wsX5_lure wsX5_isCell := goodIn_r _ [13, 14, 15, 12, 16] (by decide +kernel) (by decide +kernel)
set_option maxRecDepth 20000 in
theorem gX5_lure_X5_isCell : GoodIn wsX5_lure (va_wsS RX5 154 yX5_isCell wsX5_isCell) := goodIn_app (goodIn_of _ (by decide +kernel)) ggX5_lure_X5_isCell
set_option maxRecDepth 20000 in
theorem ggX5_lure_X5_suppose : GoodIn wsX5_lure wsX5_suppose := goodIn_r _ [20, 4, 1, 21, 6, 22, 23, 24, 25, 26, 27, 28, 9, 29, 30, 31, 32, 33, 34, 35, 36, 83, 84, 85, 86, 87, 88, 89, 90, 91, 92, 93, 94, 95, 96, 97, 98, 99, 100, 101] (by decide +kernel) (by decide +kernel)
set_option maxRecDepth 20000 in
theorem gX5_lure_X5_suppose : GoodIn wsX5_lure (wsV RX5 204 RX5 yX5_suppose wsX5_suppose) := goodIn_app (goodIn_of _ (by decide +kernel)) ggX5_lure_X5_suppose
set_option maxRecDepth 20000 in
theorem ggX5_lure_X4_yearsTo : GoodIn wsX5_lure wsX4_yearsTo := goodIn_r _ [39, 30, 40, 41, 42, 6, 43, 33, 44, 45, 46, 47, 32, 31, 9, 48, 49, 50, 51, 29, 52, 12, 53, 54, 55, 56, 57, 58, 59, 60, 61, 24, 62, 63, 64, 65, 66, 67, 68, 69, 70, 71, 72, 73, 74, 75, 76, 77, 78, 79, 80, 81, 82, 95, 96, 97, 98, 99, 100, 101] (by decide +kernel) (by decide +kernel)
set_option maxRecDepth 20000 in
theorem gX5_lure_X4_yearsTo_n180 : GoodIn wsX5_lure (wsX4_yearsTo) := ggX5_lure_X4_yearsTo
theorem dX5_lure_0 : decode cX5_lure 0 = .ok (.aload_n 0, 1) := by decide +kernel
theorem dX5_lure_1 : decode cX5_lure 1 = .ok (.getfield 10, 3) := by decide +kernel
theorem dX5_lure_4 : decode cX5_lure 4 = .ok (.iload_n 1, 1) := by decide +kernel
theorem dX5_lure_5 : decode cX5_lure 5 = .ok (.invokevirtual 129, 3) := by decide +kernel
theorem dX5_lure_8 : decode cX5_lure 8 = .ok (.ifCond .eq 10, 3) := by decide +kernel
theorem dX5_lure_11 : decode cX5_lure 11 = .ok (.iload_n 2, 1) := by decide +kernel
theorem dX5_lure_12 : decode cX5_lure 12 = .ok (.invokestatic 154, 3) := by decide +kernel
theorem dX5_lure_15 : decode cX5_lure 15 = .ok (.ifCond .ne 5, 3) := by decide +kernel
theorem dX5_lure_18 : decode cX5_lure 18 = .ok (.iconst (-1), 1) := by decide +kernel
theorem dX5_lure_19 : decode cX5_lure 19 = .ok (.ireturn, 1) := by decide +kernel
theorem dX5_lure_20 : decode cX5_lure 20 = .ok (.getstatic 198, 3) := by decide +kernel
theorem dX5_lure_23 : decode cX5_lure 23 = .ok (.iconst 1, 1) := by decide +kernel
theorem dX5_lure_24 : decode cX5_lure 24 = .ok (.iaload, 1) := by decide +kernel
theorem dX5_lure_25 : decode cX5_lure 25 = .ok (.istore_n 3, 1) := by decide +kernel
theorem dX5_lure_26 : decode cX5_lure 26 = .ok (.iload_n 3, 1) := by decide +kernel
theorem dX5_lure_27 : decode cX5_lure 27 = .ok (.getstatic 201, 3) := by decide +kernel
theorem dX5_lure_30 : decode cX5_lure 30 = .ok (.iconst 1, 1) := by decide +kernel
theorem dX5_lure_31 : decode cX5_lure 31 = .ok (.iaload, 1) := by decide +kernel
theorem dX5_lure_32 : decode cX5_lure 32 = .ok (.if_icmp .gt 33, 3) := by decide +kernel
theorem dX5_lure_35 : decode cX5_lure 35 = .ok (.aload_n 0, 1) := by decide +kernel
theorem dX5_lure_36 : decode cX5_lure 36 = .ok (.iload_n 1, 1) := by decide +kernel
theorem dX5_lure_37 : decode cX5_lure 37 = .ok (.iconst 1, 1) := by decide +kernel
theorem dX5_lure_38 : decode cX5_lure 38 = .ok (.iload_n 3, 1) := by decide +kernel
theorem dX5_lure_39 : decode cX5_lure 39 = .ok (.invokevirtual 204, 3) := by decide +kernel
theorem dX5_lure_42 : decode cX5_lure 42 = .ok (.aload_n 0, 1) := by decide +kernel
theorem dX5_lure_43 : decode cX5_lure 43 = .ok (.getfield 16, 3) := by decide +kernel
theorem dX5_lure_46 : decode cX5_lure 46 = .ok (.iload_n 2, 1) := by decide +kernel
theorem dX5_lure_47 : decode cX5_lure 47 = .ok (.bipush 60, 2) := by decide +kernel
theorem dX5_lure_49 : decode cX5_lure 49 = .ok (.invokevirtual 180, 3) := by decide +kernel
theorem dX5_lure_52 : decode cX5_lure 52 = .ok (.bipush (-4), 2) := by decide +kernel
theorem dX5_lure_54 : decode cX5_lure 54 = .ok (.if_icmp .eq 5, 3) := by decide +kernel
theorem dX5_lure_57 : decode cX5_lure 57 = .ok (.iload_n 3, 1) := by decide +kernel
theorem dX5_lure_58 : decode cX5_lure 58 = .ok (.ireturn, 1) := by decide +kernel
theorem dX5_lure_59 : decode cX5_lure 59 = .ok (.iinc 3 1, 3) := by decide +kernel
theorem dX5_lure_62 : decode cX5_lure 62 = .ok (.goto (-36), 3) := by decide +kernel
theorem dX5_lure_65 : decode cX5_lure 65 = .ok (.bipush (-4), 2) := by decide +kernel
theorem dX5_lure_67 : decode cX5_lure 67 = .ok (.ireturn, 1) := by decide +kernel
set_option maxRecDepth 20000 in
theorem ggX5_site_X5_fitsTrait : GoodIn wsX5_site wsX5_fitsTrait := goodIn_r _ [6, 7, 8, 9, 10, 5, 11] (by decide +kernel) (by decide +kernel)
set_option maxRecDepth 20000 in
theorem gX5_site_X5_fitsTrait : GoodIn wsX5_site (va_wsS RX5 146 yX5_fitsTrait wsX5_fitsTrait) := goodIn_app (goodIn_of _ (by decide +kernel)) ggX5_site_X5_fitsTrait
set_option maxRecDepth 20000 in
theorem ggX5_site_X5_isCell : GoodIn wsX5_site wsX5_isCell := goodIn_r _ [14, 9, 10, 5, 11] (by decide +kernel) (by decide +kernel)
set_option maxRecDepth 20000 in
theorem gX5_site_X5_isCell : GoodIn wsX5_site (va_wsS RX5 154 yX5_isCell wsX5_isCell) := goodIn_app (goodIn_of _ (by decide +kernel)) ggX5_site_X5_isCell
set_option maxRecDepth 20000 in
theorem ggX5_site_X5_isHalf : GoodIn wsX5_site wsX5_isHalf := goodIn_r _ [17, 9, 10, 5, 11] (by decide +kernel) (by decide +kernel)
set_option maxRecDepth 20000 in
theorem gX5_site_X5_isHalf : GoodIn wsX5_site (va_wsS RX5 183 yX5_isHalf wsX5_isHalf) := goodIn_app (goodIn_of _ (by decide +kernel)) ggX5_site_X5_isHalf
set_option maxRecDepth 20000 in
theorem ggX5_site_X4_isFull : GoodIn wsX5_site wsX4_isFull := goodIn_r _ [21, 22, 105, 106, 107, 108, 109, 110, 111] (by decide +kernel) (by decide +kernel)
set_option maxRecDepth 20000 in
theorem gX5_site_X4_isFull_n157 : GoodIn wsX5_site (wsX4_isFull) := ggX5_site_X4_isFull
set_option maxRecDepth 20000 in
theorem ggX5_site_X4_copyFrom : GoodIn wsX5_site wsX4_copyFrom := goodIn_r _ [25, 26, 27, 28, 29, 30, 22, 31, 32, 33, 34, 35, 105, 106, 107, 108, 109, 110, 111] (by decide +kernel) (by decide +kernel)
set_option maxRecDepth 20000 in
theorem gX5_site_X4_copyFrom_n90 : GoodIn wsX5_site (wsX4_copyFrom) := ggX5_site_X4_copyFrom
set_option maxRecDepth 20000 in
theorem ggX5_site_X4_addDraw : GoodIn wsX5_site wsX4_addDraw := goodIn_r _ [38, 22, 39, 18, 20, 19, 21, 40, 41, 42, 43, 26, 105, 106, 107, 108, 109, 110, 111] (by decide +kernel) (by decide +kernel)
set_option maxRecDepth 20000 in
theorem gX5_site_X4_addDraw_n160 : GoodIn wsX5_site (wsX4_addDraw) := ggX5_site_X4_addDraw
set_option maxRecDepth 20000 in
theorem ggX5_site_X4_yearsTo : GoodIn wsX5_site wsX4_yearsTo := goodIn_r _ [46, 32, 47, 48, 49, 19, 50, 35, 51, 52, 53, 54, 34, 33, 22, 55, 56, 57, 58, 31, 59, 5, 60, 61, 62, 63, 64, 65, 66, 67, 68, 26, 69, 70, 71, 72, 73, 74, 75, 76, 77, 78, 79, 80, 81, 82, 83, 84, 85, 86, 87, 88, 89, 105, 106, 107, 108, 109, 110, 111] (by decide +kernel) (by decide +kernel)
set_option maxRecDepth 20000 in
theorem gX5_site_X4_yearsTo_n180 : GoodIn wsX5_site (wsX4_yearsTo) := ggX5_site_X4_yearsTo
set_option maxRecDepth 20000 in
theorem ggX5_site_X5_chosen : GoodIn wsX5_site wsX5_chosen := goodIn_r _ [92] (by decide +kernel) (by decide +kernel)
set_option maxRecDepth 20000 in
theorem gX5_site_X5_chosen : GoodIn wsX5_site (va_wsS RX5 207 yX5_chosen wsX5_chosen) := goodIn_app (goodIn_of _ (by decide +kernel)) ggX5_site_X5_chosen
theorem dX5_site_0 : decode cX5_site 0 = .ok (.iconst 0, 1) := by decide +kernel
theorem dX5_site_1 : decode cX5_site 1 = .ok (.iload_n 1, 1) := by decide +kernel
theorem dX5_site_2 : decode cX5_site 2 = .ok (.invokestatic 146, 3) := by decide +kernel
theorem dX5_site_5 : decode cX5_site 5 = .ok (.ifCond .eq 26, 3) := by decide +kernel
theorem dX5_site_8 : decode cX5_site 8 = .ok (.iconst 1, 1) := by decide +kernel
theorem dX5_site_9 : decode cX5_site 9 = .ok (.iload_n 2, 1) := by decide +kernel
theorem dX5_site_10 : decode cX5_site 10 = .ok (.invokestatic 146, 3) := by decide +kernel
theorem dX5_site_13 : decode cX5_site 13 = .ok (.ifCond .eq 18, 3) := by decide +kernel
theorem dX5_site_16 : decode cX5_site 16 = .ok (.iload_n 3, 1) := by decide +kernel
theorem dX5_site_17 : decode cX5_site 17 = .ok (.invokestatic 154, 3) := by decide +kernel
theorem dX5_site_20 : decode cX5_site 20 = .ok (.ifCond .eq 11, 3) := by decide +kernel
theorem dX5_site_23 : decode cX5_site 23 = .ok (.iload 4, 2) := by decide +kernel
theorem dX5_site_25 : decode cX5_site 25 = .ok (.invokestatic 183, 3) := by decide +kernel
theorem dX5_site_28 : decode cX5_site 28 = .ok (.ifCond .ne 5, 3) := by decide +kernel
theorem dX5_site_31 : decode cX5_site 31 = .ok (.iconst (-1), 1) := by decide +kernel
theorem dX5_site_32 : decode cX5_site 32 = .ok (.ireturn, 1) := by decide +kernel
theorem dX5_site_33 : decode cX5_site 33 = .ok (.aload_n 0, 1) := by decide +kernel
theorem dX5_site_34 : decode cX5_site 34 = .ok (.getfield 10, 3) := by decide +kernel
theorem dX5_site_37 : decode cX5_site 37 = .ok (.invokevirtual 157, 3) := by decide +kernel
theorem dX5_site_40 : decode cX5_site 40 = .ok (.ifCond .eq 6, 3) := by decide +kernel
theorem dX5_site_43 : decode cX5_site 43 = .ok (.bipush (-3), 2) := by decide +kernel
theorem dX5_site_45 : decode cX5_site 45 = .ok (.ireturn, 1) := by decide +kernel
theorem dX5_site_46 : decode cX5_site 46 = .ok (.bipush (-4), 2) := by decide +kernel
theorem dX5_site_48 : decode cX5_site 48 = .ok (.istore 5, 2) := by decide +kernel
theorem dX5_site_50 : decode cX5_site 50 = .ok (.bipush 61, 2) := by decide +kernel
theorem dX5_site_52 : decode cX5_site 52 = .ok (.istore 6, 2) := by decide +kernel
theorem dX5_site_54 : decode cX5_site 54 = .ok (.iconst 0, 1) := by decide +kernel
theorem dX5_site_55 : decode cX5_site 55 = .ok (.istore 7, 2) := by decide +kernel
theorem dX5_site_57 : decode cX5_site 57 = .ok (.iload 7, 2) := by decide +kernel
theorem dX5_site_59 : decode cX5_site 59 = .ok (.bipush 100, 2) := by decide +kernel
theorem dX5_site_61 : decode cX5_site 61 = .ok (.if_icmp .ge 66, 3) := by decide +kernel
theorem dX5_site_64 : decode cX5_site 64 = .ok (.iload 6, 2) := by decide +kernel
theorem dX5_site_66 : decode cX5_site 66 = .ok (.ifCond .le 61, 3) := by decide +kernel
theorem dX5_site_69 : decode cX5_site 69 = .ok (.aload_n 0, 1) := by decide +kernel
theorem dX5_site_70 : decode cX5_site 70 = .ok (.getfield 16, 3) := by decide +kernel
theorem dX5_site_73 : decode cX5_site 73 = .ok (.aload_n 0, 1) := by decide +kernel
theorem dX5_site_74 : decode cX5_site 74 = .ok (.getfield 10, 3) := by decide +kernel
theorem dX5_site_77 : decode cX5_site 77 = .ok (.invokevirtual 90, 3) := by decide +kernel
theorem dX5_site_80 : decode cX5_site 80 = .ok (.aload_n 0, 1) := by decide +kernel
theorem dX5_site_81 : decode cX5_site 81 = .ok (.getfield 16, 3) := by decide +kernel
theorem dX5_site_84 : decode cX5_site 84 = .ok (.iload_n 1, 1) := by decide +kernel
theorem dX5_site_85 : decode cX5_site 85 = .ok (.iload_n 2, 1) := by decide +kernel
theorem dX5_site_86 : decode cX5_site 86 = .ok (.iload 7, 2) := by decide +kernel
theorem dX5_site_88 : decode cX5_site 88 = .ok (.iconst 0, 1) := by decide +kernel
theorem dX5_site_89 : decode cX5_site 89 = .ok (.invokevirtual 160, 3) := by decide +kernel
theorem dX5_site_92 : decode cX5_site 92 = .ok (.aload_n 0, 1) := by decide +kernel
theorem dX5_site_93 : decode cX5_site 93 = .ok (.getfield 16, 3) := by decide +kernel
theorem dX5_site_96 : decode cX5_site 96 = .ok (.iload_n 3, 1) := by decide +kernel
theorem dX5_site_97 : decode cX5_site 97 = .ok (.iload 6, 2) := by decide +kernel
theorem dX5_site_99 : decode cX5_site 99 = .ok (.iconst 1, 1) := by decide +kernel
theorem dX5_site_100 : decode cX5_site 100 = .ok (.isub, 1) := by decide +kernel
theorem dX5_site_101 : decode cX5_site 101 = .ok (.invokevirtual 180, 3) := by decide +kernel
theorem dX5_site_104 : decode cX5_site 104 = .ok (.istore 8, 2) := by decide +kernel
theorem dX5_site_106 : decode cX5_site 106 = .ok (.iload 8, 2) := by decide +kernel
theorem dX5_site_108 : decode cX5_site 108 = .ok (.bipush (-4), 2) := by decide +kernel
theorem dX5_site_110 : decode cX5_site 110 = .ok (.if_icmp .eq 11, 3) := by decide +kernel
theorem dX5_site_113 : decode cX5_site 113 = .ok (.iload 7, 2) := by decide +kernel
theorem dX5_site_115 : decode cX5_site 115 = .ok (.istore 5, 2) := by decide +kernel
theorem dX5_site_117 : decode cX5_site 117 = .ok (.iload 8, 2) := by decide +kernel
theorem dX5_site_119 : decode cX5_site 119 = .ok (.istore 6, 2) := by decide +kernel
theorem dX5_site_121 : decode cX5_site 121 = .ok (.iinc 7 1, 3) := by decide +kernel
theorem dX5_site_124 : decode cX5_site 124 = .ok (.goto (-67), 3) := by decide +kernel
theorem dX5_site_127 : decode cX5_site 127 = .ok (.iload 5, 2) := by decide +kernel
theorem dX5_site_129 : decode cX5_site 129 = .ok (.iload 6, 2) := by decide +kernel
theorem dX5_site_131 : decode cX5_site 131 = .ok (.iload 4, 2) := by decide +kernel
theorem dX5_site_133 : decode cX5_site 133 = .ok (.invokestatic 207, 3) := by decide +kernel
theorem dX5_site_136 : decode cX5_site 136 = .ok (.ireturn, 1) := by decide +kernel
set_option maxRecDepth 20000 in
theorem ggX5_hush_X5_isHalf : GoodIn wsX5_hush wsX5_isHalf := goodIn_r _ [7, 8, 9, 6, 10] (by decide +kernel) (by decide +kernel)
set_option maxRecDepth 20000 in
theorem gX5_hush_X5_isHalf : GoodIn wsX5_hush (va_wsS RX5 183 yX5_isHalf wsX5_isHalf) := goodIn_app (goodIn_of _ (by decide +kernel)) ggX5_hush_X5_isHalf
set_option maxRecDepth 20000 in
theorem ggX5_hush_X5_leanAhead : GoodIn wsX5_hush wsX5_leanAhead := goodIn_r _ [14, 3, 1, 15, 16, 17, 18, 19, 20, 21, 22, 23, 24, 25, 26, 27, 28, 29, 30, 31, 32, 33, 34, 35, 36, 37, 38, 39, 40, 41, 6, 42, 43, 44, 45, 46, 47, 48, 49, 50, 51, 52, 53, 54, 55, 56, 57, 58, 59, 60, 61, 62, 63, 64, 65, 66, 67, 68, 69, 70, 71, 72, 73, 74, 75, 76, 77, 78, 89, 90, 91, 92, 93, 94, 95, 96, 97, 98, 99, 100, 101, 102, 103, 104, 105, 106, 107] (by decide +kernel) (by decide +kernel)
set_option maxRecDepth 20000 in
theorem gX5_hush_X5_leanAhead : GoodIn wsX5_hush (wsV RX5 211 RX5 yX5_leanAhead wsX5_leanAhead) := goodIn_app (goodIn_of _ (by decide +kernel)) ggX5_hush_X5_leanAhead
set_option maxRecDepth 20000 in
theorem ggX5_hush_X5_suppose : GoodIn wsX5_hush wsX5_suppose := goodIn_r _ [82, 3, 1, 15, 16, 17, 18, 19, 20, 21, 22, 23, 24, 25, 26, 27, 28, 29, 83, 84, 85, 89, 90, 91, 92, 93, 94, 95, 96, 97, 98, 99, 100, 101, 102, 103, 104, 105, 106, 107] (by decide +kernel) (by decide +kernel)
set_option maxRecDepth 20000 in
theorem gX5_hush_X5_suppose : GoodIn wsX5_hush (wsV RX5 204 RX5 yX5_suppose wsX5_suppose) := goodIn_app (goodIn_of _ (by decide +kernel)) ggX5_hush_X5_suppose
set_option maxRecDepth 20000 in
theorem ggX5_hush_X4_greatestLean : GoodIn wsX5_hush wsX4_greatestLean := goodIn_r _ [32, 33, 34, 35, 36, 37, 38, 39, 16, 40, 26, 25, 41, 6, 42, 43, 44, 45, 46, 29, 47, 48, 49, 50, 28, 27, 24, 51, 52, 53, 54, 55, 56, 57, 58, 19, 59, 60, 61, 62, 63, 64, 65, 66, 67, 68, 69, 70, 71, 72, 73, 74, 75, 76, 77, 78, 101, 102, 103, 104, 105, 106, 107] (by decide +kernel) (by decide +kernel)
set_option maxRecDepth 20000 in
theorem gX5_hush_X4_greatestLean_n168 : GoodIn wsX5_hush (wsX4_greatestLean) := ggX5_hush_X4_greatestLean
set_option maxRecDepth 20000 in
theorem ggX5_hush_X5_chosen : GoodIn wsX5_hush wsX5_chosen := goodIn_r _ [88] (by decide +kernel) (by decide +kernel)
set_option maxRecDepth 20000 in
theorem gX5_hush_X5_chosen : GoodIn wsX5_hush (va_wsS RX5 207 yX5_chosen wsX5_chosen) := goodIn_app (goodIn_of _ (by decide +kernel)) ggX5_hush_X5_chosen
theorem dX5_hush_0 : decode cX5_hush 0 = .ok (.iload_n 1, 1) := by decide +kernel
theorem dX5_hush_1 : decode cX5_hush 1 = .ok (.invokestatic 183, 3) := by decide +kernel
theorem dX5_hush_4 : decode cX5_hush 4 = .ok (.ifCond .ne 5, 3) := by decide +kernel
theorem dX5_hush_7 : decode cX5_hush 7 = .ok (.iconst (-1), 1) := by decide +kernel
theorem dX5_hush_8 : decode cX5_hush 8 = .ok (.ireturn, 1) := by decide +kernel
theorem dX5_hush_9 : decode cX5_hush 9 = .ok (.bipush (-4), 2) := by decide +kernel
theorem dX5_hush_11 : decode cX5_hush 11 = .ok (.istore_n 2, 1) := by decide +kernel
theorem dX5_hush_12 : decode cX5_hush 12 = .ok (.aload_n 0, 1) := by decide +kernel
theorem dX5_hush_13 : decode cX5_hush 13 = .ok (.invokevirtual 211, 3) := by decide +kernel
theorem dX5_hush_16 : decode cX5_hush 16 = .ok (.istore_n 3, 1) := by decide +kernel
theorem dX5_hush_17 : decode cX5_hush 17 = .ok (.iconst 0, 1) := by decide +kernel
theorem dX5_hush_18 : decode cX5_hush 18 = .ok (.istore 4, 2) := by decide +kernel
theorem dX5_hush_20 : decode cX5_hush 20 = .ok (.iload 4, 2) := by decide +kernel
theorem dX5_hush_22 : decode cX5_hush 22 = .ok (.aload_n 0, 1) := by decide +kernel
theorem dX5_hush_23 : decode cX5_hush 23 = .ok (.getfield 10, 3) := by decide +kernel
theorem dX5_hush_26 : decode cX5_hush 26 = .ok (.getfield 97, 3) := by decide +kernel
theorem dX5_hush_29 : decode cX5_hush 29 = .ok (.if_icmp .ge 41, 3) := by decide +kernel
theorem dX5_hush_32 : decode cX5_hush 32 = .ok (.aload_n 0, 1) := by decide +kernel
theorem dX5_hush_33 : decode cX5_hush 33 = .ok (.iload 4, 2) := by decide +kernel
theorem dX5_hush_35 : decode cX5_hush 35 = .ok (.iconst 3, 1) := by decide +kernel
theorem dX5_hush_36 : decode cX5_hush 36 = .ok (.ldc 214, 2) := by decide +kernel
theorem dX5_hush_38 : decode cX5_hush 38 = .ok (.invokevirtual 204, 3) := by decide +kernel
theorem dX5_hush_41 : decode cX5_hush 41 = .ok (.aload_n 0, 1) := by decide +kernel
theorem dX5_hush_42 : decode cX5_hush 42 = .ok (.getfield 16, 3) := by decide +kernel
theorem dX5_hush_45 : decode cX5_hush 45 = .ok (.bipush 60, 2) := by decide +kernel
theorem dX5_hush_47 : decode cX5_hush 47 = .ok (.invokevirtual 168, 3) := by decide +kernel
theorem dX5_hush_50 : decode cX5_hush 50 = .ok (.istore 5, 2) := by decide +kernel
theorem dX5_hush_52 : decode cX5_hush 52 = .ok (.iload 5, 2) := by decide +kernel
theorem dX5_hush_54 : decode cX5_hush 54 = .ok (.iload_n 3, 1) := by decide +kernel
theorem dX5_hush_55 : decode cX5_hush 55 = .ok (.if_icmp .ge 9, 3) := by decide +kernel
theorem dX5_hush_58 : decode cX5_hush 58 = .ok (.iload 4, 2) := by decide +kernel
theorem dX5_hush_60 : decode cX5_hush 60 = .ok (.istore_n 2, 1) := by decide +kernel
theorem dX5_hush_61 : decode cX5_hush 61 = .ok (.iload 5, 2) := by decide +kernel
theorem dX5_hush_63 : decode cX5_hush 63 = .ok (.istore_n 3, 1) := by decide +kernel
theorem dX5_hush_64 : decode cX5_hush 64 = .ok (.iinc 4 1, 3) := by decide +kernel
theorem dX5_hush_67 : decode cX5_hush 67 = .ok (.goto (-47), 3) := by decide +kernel
theorem dX5_hush_70 : decode cX5_hush 70 = .ok (.iload_n 2, 1) := by decide +kernel
theorem dX5_hush_71 : decode cX5_hush 71 = .ok (.iload_n 3, 1) := by decide +kernel
theorem dX5_hush_72 : decode cX5_hush 72 = .ok (.iload_n 1, 1) := by decide +kernel
theorem dX5_hush_73 : decode cX5_hush 73 = .ok (.invokestatic 207, 3) := by decide +kernel
theorem dX5_hush_76 : decode cX5_hush 76 = .ok (.ireturn, 1) := by decide +kernel
set_option maxRecDepth 20000 in
theorem ggX5_swap_X5_isHalf : GoodIn wsX5_swap wsX5_isHalf := goodIn_r _ [6, 7, 8, 5, 9] (by decide +kernel) (by decide +kernel)
set_option maxRecDepth 20000 in
theorem gX5_swap_X5_isHalf : GoodIn wsX5_swap (va_wsS RX5 183 yX5_isHalf wsX5_isHalf) := goodIn_app (goodIn_of _ (by decide +kernel)) ggX5_swap_X5_isHalf
set_option maxRecDepth 20000 in
theorem ggX5_swap_X5_leanAhead : GoodIn wsX5_swap wsX5_leanAhead := goodIn_r _ [13, 2, 1, 14, 15, 16, 17, 18, 19, 20, 21, 22, 23, 24, 25, 26, 27, 28, 29, 30, 31, 32, 33, 34, 35, 36, 37, 38, 39, 40, 5, 41, 42, 43, 44, 45, 46, 47, 48, 49, 50, 51, 52, 53, 54, 55, 56, 57, 58, 59, 60, 61, 62, 63, 64, 65, 66, 67, 68, 69, 70, 71, 72, 73, 74, 75, 76, 77, 88, 89, 90, 91, 92, 93, 94, 95, 96, 97, 98, 99, 100, 101, 102, 103, 104, 105, 106] (by decide +kernel) (by decide +kernel)
set_option maxRecDepth 20000 in
theorem gX5_swap_X5_leanAhead : GoodIn wsX5_swap (wsV RX5 211 RX5 yX5_leanAhead wsX5_leanAhead) := goodIn_app (goodIn_of _ (by decide +kernel)) ggX5_swap_X5_leanAhead
set_option maxRecDepth 20000 in
theorem ggX5_swap_X4_trait : GoodIn wsX5_swap wsX4_trait := goodIn_r _ [57, 18, 100, 101, 102, 103, 104, 105, 106] (by decide +kernel) (by decide +kernel)
set_option maxRecDepth 20000 in
theorem gX5_swap_X4_trait_n133 : GoodIn wsX5_swap (wsX4_trait) := ggX5_swap_X4_trait
set_option maxRecDepth 20000 in
theorem ggX5_swap_X5_suppose : GoodIn wsX5_swap wsX5_suppose := goodIn_r _ [81, 2, 1, 14, 15, 16, 17, 18, 19, 20, 21, 22, 23, 24, 25, 26, 27, 28, 82, 83, 84, 88, 89, 90, 91, 92, 93, 94, 95, 96, 97, 98, 99, 100, 101, 102, 103, 104, 105, 106] (by decide +kernel) (by decide +kernel)
set_option maxRecDepth 20000 in
theorem gX5_swap_X5_suppose : GoodIn wsX5_swap (wsV RX5 204 RX5 yX5_suppose wsX5_suppose) := goodIn_app (goodIn_of _ (by decide +kernel)) ggX5_swap_X5_suppose
set_option maxRecDepth 20000 in
theorem ggX5_swap_X4_setTrait : GoodIn wsX5_swap wsX4_setTrait := goodIn_r _ [84, 18, 100, 101, 102, 103, 104, 105, 106] (by decide +kernel) (by decide +kernel)
set_option maxRecDepth 20000 in
theorem gX5_swap_X4_setTrait_n150 : GoodIn wsX5_swap (wsX4_setTrait) := ggX5_swap_X4_setTrait
set_option maxRecDepth 20000 in
theorem ggX5_swap_X4_greatestLean : GoodIn wsX5_swap wsX4_greatestLean := goodIn_r _ [31, 32, 33, 34, 35, 36, 37, 38, 15, 39, 25, 24, 40, 5, 41, 42, 43, 44, 45, 28, 46, 47, 48, 49, 27, 26, 23, 50, 51, 52, 53, 54, 55, 56, 57, 18, 58, 59, 60, 61, 62, 63, 64, 65, 66, 67, 68, 69, 70, 71, 72, 73, 74, 75, 76, 77, 100, 101, 102, 103, 104, 105, 106] (by decide +kernel) (by decide +kernel)
set_option maxRecDepth 20000 in
theorem gX5_swap_X4_greatestLean_n168 : GoodIn wsX5_swap (wsX4_greatestLean) := ggX5_swap_X4_greatestLean
set_option maxRecDepth 20000 in
theorem ggX5_swap_X5_chosen : GoodIn wsX5_swap wsX5_chosen := goodIn_r _ [87] (by decide +kernel) (by decide +kernel)
set_option maxRecDepth 20000 in
theorem gX5_swap_X5_chosen : GoodIn wsX5_swap (va_wsS RX5 207 yX5_chosen wsX5_chosen) := goodIn_app (goodIn_of _ (by decide +kernel)) ggX5_swap_X5_chosen
theorem dX5_swap_0 : decode cX5_swap 0 = .ok (.iload_n 1, 1) := by decide +kernel
theorem dX5_swap_1 : decode cX5_swap 1 = .ok (.invokestatic 183, 3) := by decide +kernel
theorem dX5_swap_4 : decode cX5_swap 4 = .ok (.ifCond .ne 5, 3) := by decide +kernel
theorem dX5_swap_7 : decode cX5_swap 7 = .ok (.iconst (-1), 1) := by decide +kernel
theorem dX5_swap_8 : decode cX5_swap 8 = .ok (.ireturn, 1) := by decide +kernel
theorem dX5_swap_9 : decode cX5_swap 9 = .ok (.bipush (-4), 2) := by decide +kernel
theorem dX5_swap_11 : decode cX5_swap 11 = .ok (.istore_n 2, 1) := by decide +kernel
theorem dX5_swap_12 : decode cX5_swap 12 = .ok (.aload_n 0, 1) := by decide +kernel
theorem dX5_swap_13 : decode cX5_swap 13 = .ok (.invokevirtual 211, 3) := by decide +kernel
theorem dX5_swap_16 : decode cX5_swap 16 = .ok (.istore_n 3, 1) := by decide +kernel
theorem dX5_swap_17 : decode cX5_swap 17 = .ok (.iconst 0, 1) := by decide +kernel
theorem dX5_swap_18 : decode cX5_swap 18 = .ok (.istore 4, 2) := by decide +kernel
theorem dX5_swap_20 : decode cX5_swap 20 = .ok (.iload 4, 2) := by decide +kernel
theorem dX5_swap_22 : decode cX5_swap 22 = .ok (.aload_n 0, 1) := by decide +kernel
theorem dX5_swap_23 : decode cX5_swap 23 = .ok (.getfield 10, 3) := by decide +kernel
theorem dX5_swap_26 : decode cX5_swap 26 = .ok (.getfield 97, 3) := by decide +kernel
theorem dX5_swap_29 : decode cX5_swap 29 = .ok (.if_icmp .ge 99, 3) := by decide +kernel
theorem dX5_swap_32 : decode cX5_swap 32 = .ok (.iload 4, 2) := by decide +kernel
theorem dX5_swap_34 : decode cX5_swap 34 = .ok (.iconst 1, 1) := by decide +kernel
theorem dX5_swap_35 : decode cX5_swap 35 = .ok (.iadd, 1) := by decide +kernel
theorem dX5_swap_36 : decode cX5_swap 36 = .ok (.istore 5, 2) := by decide +kernel
theorem dX5_swap_38 : decode cX5_swap 38 = .ok (.iload 5, 2) := by decide +kernel
theorem dX5_swap_40 : decode cX5_swap 40 = .ok (.aload_n 0, 1) := by decide +kernel
theorem dX5_swap_41 : decode cX5_swap 41 = .ok (.getfield 10, 3) := by decide +kernel
theorem dX5_swap_44 : decode cX5_swap 44 = .ok (.getfield 97, 3) := by decide +kernel
theorem dX5_swap_47 : decode cX5_swap 47 = .ok (.if_icmp .ge 75, 3) := by decide +kernel
theorem dX5_swap_50 : decode cX5_swap 50 = .ok (.aload_n 0, 1) := by decide +kernel
theorem dX5_swap_51 : decode cX5_swap 51 = .ok (.iload 4, 2) := by decide +kernel
theorem dX5_swap_53 : decode cX5_swap 53 = .ok (.iconst 2, 1) := by decide +kernel
theorem dX5_swap_54 : decode cX5_swap 54 = .ok (.aload_n 0, 1) := by decide +kernel
theorem dX5_swap_55 : decode cX5_swap 55 = .ok (.getfield 10, 3) := by decide +kernel
theorem dX5_swap_58 : decode cX5_swap 58 = .ok (.iload 5, 2) := by decide +kernel
theorem dX5_swap_60 : decode cX5_swap 60 = .ok (.iconst 2, 1) := by decide +kernel
theorem dX5_swap_61 : decode cX5_swap 61 = .ok (.invokevirtual 133, 3) := by decide +kernel
theorem dX5_swap_64 : decode cX5_swap 64 = .ok (.invokevirtual 204, 3) := by decide +kernel
theorem dX5_swap_67 : decode cX5_swap 67 = .ok (.aload_n 0, 1) := by decide +kernel
theorem dX5_swap_68 : decode cX5_swap 68 = .ok (.getfield 16, 3) := by decide +kernel
theorem dX5_swap_71 : decode cX5_swap 71 = .ok (.iload 5, 2) := by decide +kernel
theorem dX5_swap_73 : decode cX5_swap 73 = .ok (.iconst 2, 1) := by decide +kernel
theorem dX5_swap_74 : decode cX5_swap 74 = .ok (.aload_n 0, 1) := by decide +kernel
theorem dX5_swap_75 : decode cX5_swap 75 = .ok (.getfield 10, 3) := by decide +kernel
theorem dX5_swap_78 : decode cX5_swap 78 = .ok (.iload 4, 2) := by decide +kernel
theorem dX5_swap_80 : decode cX5_swap 80 = .ok (.iconst 2, 1) := by decide +kernel
theorem dX5_swap_81 : decode cX5_swap 81 = .ok (.invokevirtual 133, 3) := by decide +kernel
theorem dX5_swap_84 : decode cX5_swap 84 = .ok (.invokevirtual 150, 3) := by decide +kernel
theorem dX5_swap_87 : decode cX5_swap 87 = .ok (.aload_n 0, 1) := by decide +kernel
theorem dX5_swap_88 : decode cX5_swap 88 = .ok (.getfield 16, 3) := by decide +kernel
theorem dX5_swap_91 : decode cX5_swap 91 = .ok (.bipush 60, 2) := by decide +kernel
theorem dX5_swap_93 : decode cX5_swap 93 = .ok (.invokevirtual 168, 3) := by decide +kernel
theorem dX5_swap_96 : decode cX5_swap 96 = .ok (.istore 6, 2) := by decide +kernel
theorem dX5_swap_98 : decode cX5_swap 98 = .ok (.iload 6, 2) := by decide +kernel
theorem dX5_swap_100 : decode cX5_swap 100 = .ok (.iload_n 3, 1) := by decide +kernel
theorem dX5_swap_101 : decode cX5_swap 101 = .ok (.if_icmp .ge 15, 3) := by decide +kernel
theorem dX5_swap_104 : decode cX5_swap 104 = .ok (.bipush 10, 2) := by decide +kernel
theorem dX5_swap_106 : decode cX5_swap 106 = .ok (.iload 4, 2) := by decide +kernel
theorem dX5_swap_108 : decode cX5_swap 108 = .ok (.imul, 1) := by decide +kernel
theorem dX5_swap_109 : decode cX5_swap 109 = .ok (.iload 5, 2) := by decide +kernel
theorem dX5_swap_111 : decode cX5_swap 111 = .ok (.iadd, 1) := by decide +kernel
theorem dX5_swap_112 : decode cX5_swap 112 = .ok (.istore_n 2, 1) := by decide +kernel
theorem dX5_swap_113 : decode cX5_swap 113 = .ok (.iload 6, 2) := by decide +kernel
theorem dX5_swap_115 : decode cX5_swap 115 = .ok (.istore_n 3, 1) := by decide +kernel
theorem dX5_swap_116 : decode cX5_swap 116 = .ok (.iinc 5 1, 3) := by decide +kernel
theorem dX5_swap_119 : decode cX5_swap 119 = .ok (.goto (-81), 3) := by decide +kernel
theorem dX5_swap_122 : decode cX5_swap 122 = .ok (.iinc 4 1, 3) := by decide +kernel
theorem dX5_swap_125 : decode cX5_swap 125 = .ok (.goto (-105), 3) := by decide +kernel
theorem dX5_swap_128 : decode cX5_swap 128 = .ok (.iload_n 2, 1) := by decide +kernel
theorem dX5_swap_129 : decode cX5_swap 129 = .ok (.iload_n 3, 1) := by decide +kernel
theorem dX5_swap_130 : decode cX5_swap 130 = .ok (.iload_n 1, 1) := by decide +kernel
theorem dX5_swap_131 : decode cX5_swap 131 = .ok (.invokestatic 207, 3) := by decide +kernel
theorem dX5_swap_134 : decode cX5_swap 134 = .ok (.ireturn, 1) := by decide +kernel
set_option maxRecDepth 20000 in
theorem ggX5_kind_X4_hasDraw : GoodIn wsX5_kind wsX4_hasDraw := goodIn_r _ [8, 9, 101, 102, 103, 104, 105, 106, 107] (by decide +kernel) (by decide +kernel)
set_option maxRecDepth 20000 in
theorem gX5_kind_X4_hasDraw_n129 : GoodIn wsX5_kind (wsX4_hasDraw) := ggX5_kind_X4_hasDraw
set_option maxRecDepth 20000 in
theorem ggX5_kind_X5_within : GoodIn wsX5_kind wsX5_within := goodIn_r _ [13] (by decide +kernel) (by decide +kernel)
set_option maxRecDepth 20000 in
theorem gX5_kind_X5_within : GoodIn wsX5_kind (va_wsS RX5 62 yX5_within wsX5_within) := goodIn_app (goodIn_of _ (by decide +kernel)) ggX5_kind_X5_within
set_option maxRecDepth 20000 in
theorem ggX5_kind_X5_isHalf : GoodIn wsX5_kind wsX5_isHalf := goodIn_r _ [16, 10, 11, 12, 13] (by decide +kernel) (by decide +kernel)
set_option maxRecDepth 20000 in
theorem gX5_kind_X5_isHalf : GoodIn wsX5_kind (va_wsS RX5 183 yX5_isHalf wsX5_isHalf) := goodIn_app (goodIn_of _ (by decide +kernel)) ggX5_kind_X5_isHalf
set_option maxRecDepth 20000 in
theorem ggX5_kind_X5_suppose : GoodIn wsX5_kind wsX5_suppose := goodIn_r _ [20, 4, 1, 21, 6, 22, 23, 24, 25, 26, 27, 28, 9, 29, 30, 31, 32, 33, 34, 35, 36, 89, 90, 91, 92, 93, 94, 95, 96, 97, 98, 99, 100, 101, 102, 103, 104, 105, 106, 107] (by decide +kernel) (by decide +kernel)
set_option maxRecDepth 20000 in
theorem gX5_kind_X5_suppose : GoodIn wsX5_kind (wsV RX5 204 RX5 yX5_suppose wsX5_suppose) := goodIn_app (goodIn_of _ (by decide +kernel)) ggX5_kind_X5_suppose
set_option maxRecDepth 20000 in
theorem ggX5_kind_X4_passYears : GoodIn wsX5_kind wsX4_passYears := goodIn_r _ [39, 40, 41, 42, 6, 43, 30, 33, 44, 45, 46, 47, 32, 31, 9, 48, 49, 50, 51, 29, 52, 12, 53, 54, 55, 56, 57, 58, 59, 60, 61, 24, 62, 63, 64, 65, 66, 67, 68, 69, 70, 71, 72, 73, 74, 75, 76, 77, 78, 79, 80, 81, 82, 101, 102, 103, 104, 105, 106, 107] (by decide +kernel) (by decide +kernel)
set_option maxRecDepth 20000 in
theorem gX5_kind_X4_passYears_n164 : GoodIn wsX5_kind (wsX4_passYears) := ggX5_kind_X4_passYears
set_option maxRecDepth 20000 in
theorem ggX5_kind_X4_gap : GoodIn wsX5_kind wsX4_gap := goodIn_r _ [85, 30, 58, 59, 60, 6, 61, 24, 52, 12, 53, 101, 102, 103, 104, 105, 106, 107] (by decide +kernel) (by decide +kernel)
set_option maxRecDepth 20000 in
theorem gX5_kind_X4_gap_n143 : GoodIn wsX5_kind (wsX4_gap) := ggX5_kind_X4_gap
set_option maxRecDepth 20000 in
theorem ggX5_kind_X5_chosen : GoodIn wsX5_kind wsX5_chosen := goodIn_r _ [88] (by decide +kernel) (by decide +kernel)
set_option maxRecDepth 20000 in
theorem gX5_kind_X5_chosen : GoodIn wsX5_kind (va_wsS RX5 207 yX5_chosen wsX5_chosen) := goodIn_app (goodIn_of _ (by decide +kernel)) ggX5_kind_X5_chosen
theorem dX5_kind_0 : decode cX5_kind 0 = .ok (.aload_n 0, 1) := by decide +kernel
theorem dX5_kind_1 : decode cX5_kind 1 = .ok (.getfield 10, 3) := by decide +kernel
theorem dX5_kind_4 : decode cX5_kind 4 = .ok (.iload_n 1, 1) := by decide +kernel
theorem dX5_kind_5 : decode cX5_kind 5 = .ok (.invokevirtual 129, 3) := by decide +kernel
theorem dX5_kind_8 : decode cX5_kind 8 = .ok (.ifCond .eq 20, 3) := by decide +kernel
theorem dX5_kind_11 : decode cX5_kind 11 = .ok (.iload_n 2, 1) := by decide +kernel
theorem dX5_kind_12 : decode cX5_kind 12 = .ok (.iconst 0, 1) := by decide +kernel
theorem dX5_kind_13 : decode cX5_kind 13 = .ok (.bipush 60, 2) := by decide +kernel
theorem dX5_kind_15 : decode cX5_kind 15 = .ok (.invokestatic 62, 3) := by decide +kernel
theorem dX5_kind_18 : decode cX5_kind 18 = .ok (.ifCond .eq 10, 3) := by decide +kernel
theorem dX5_kind_21 : decode cX5_kind 21 = .ok (.iload_n 3, 1) := by decide +kernel
theorem dX5_kind_22 : decode cX5_kind 22 = .ok (.invokestatic 183, 3) := by decide +kernel
theorem dX5_kind_25 : decode cX5_kind 25 = .ok (.ifCond .ne 5, 3) := by decide +kernel
theorem dX5_kind_28 : decode cX5_kind 28 = .ok (.iconst (-1), 1) := by decide +kernel
theorem dX5_kind_29 : decode cX5_kind 29 = .ok (.ireturn, 1) := by decide +kernel
theorem dX5_kind_30 : decode cX5_kind 30 = .ok (.bipush (-4), 2) := by decide +kernel
theorem dX5_kind_32 : decode cX5_kind 32 = .ok (.istore 4, 2) := by decide +kernel
theorem dX5_kind_34 : decode cX5_kind 34 = .ok (.bipush 100, 2) := by decide +kernel
theorem dX5_kind_36 : decode cX5_kind 36 = .ok (.istore 5, 2) := by decide +kernel
theorem dX5_kind_38 : decode cX5_kind 38 = .ok (.getstatic 198, 3) := by decide +kernel
theorem dX5_kind_41 : decode cX5_kind 41 = .ok (.iconst 0, 1) := by decide +kernel
theorem dX5_kind_42 : decode cX5_kind 42 = .ok (.iaload, 1) := by decide +kernel
theorem dX5_kind_43 : decode cX5_kind 43 = .ok (.istore 6, 2) := by decide +kernel
theorem dX5_kind_45 : decode cX5_kind 45 = .ok (.iload 6, 2) := by decide +kernel
theorem dX5_kind_47 : decode cX5_kind 47 = .ok (.getstatic 201, 3) := by decide +kernel
theorem dX5_kind_50 : decode cX5_kind 50 = .ok (.iconst 0, 1) := by decide +kernel
theorem dX5_kind_51 : decode cX5_kind 51 = .ok (.iaload, 1) := by decide +kernel
theorem dX5_kind_52 : decode cX5_kind 52 = .ok (.if_icmp .gt 50, 3) := by decide +kernel
theorem dX5_kind_55 : decode cX5_kind 55 = .ok (.aload_n 0, 1) := by decide +kernel
theorem dX5_kind_56 : decode cX5_kind 56 = .ok (.iload_n 1, 1) := by decide +kernel
theorem dX5_kind_57 : decode cX5_kind 57 = .ok (.iconst 0, 1) := by decide +kernel
theorem dX5_kind_58 : decode cX5_kind 58 = .ok (.iload 6, 2) := by decide +kernel
theorem dX5_kind_60 : decode cX5_kind 60 = .ok (.invokevirtual 204, 3) := by decide +kernel
theorem dX5_kind_63 : decode cX5_kind 63 = .ok (.aload_n 0, 1) := by decide +kernel
theorem dX5_kind_64 : decode cX5_kind 64 = .ok (.getfield 16, 3) := by decide +kernel
theorem dX5_kind_67 : decode cX5_kind 67 = .ok (.iload_n 2, 1) := by decide +kernel
theorem dX5_kind_68 : decode cX5_kind 68 = .ok (.invokevirtual 164, 3) := by decide +kernel
theorem dX5_kind_71 : decode cX5_kind 71 = .ok (.aload_n 0, 1) := by decide +kernel
theorem dX5_kind_72 : decode cX5_kind 72 = .ok (.getfield 16, 3) := by decide +kernel
theorem dX5_kind_75 : decode cX5_kind 75 = .ok (.iload_n 1, 1) := by decide +kernel
theorem dX5_kind_76 : decode cX5_kind 76 = .ok (.invokevirtual 143, 3) := by decide +kernel
theorem dX5_kind_79 : decode cX5_kind 79 = .ok (.istore 7, 2) := by decide +kernel
theorem dX5_kind_81 : decode cX5_kind 81 = .ok (.iload 7, 2) := by decide +kernel
theorem dX5_kind_83 : decode cX5_kind 83 = .ok (.iload 5, 2) := by decide +kernel
theorem dX5_kind_85 : decode cX5_kind 85 = .ok (.if_icmp .ge 11, 3) := by decide +kernel
theorem dX5_kind_88 : decode cX5_kind 88 = .ok (.iload 6, 2) := by decide +kernel
theorem dX5_kind_90 : decode cX5_kind 90 = .ok (.istore 4, 2) := by decide +kernel
theorem dX5_kind_92 : decode cX5_kind 92 = .ok (.iload 7, 2) := by decide +kernel
theorem dX5_kind_94 : decode cX5_kind 94 = .ok (.istore 5, 2) := by decide +kernel
theorem dX5_kind_96 : decode cX5_kind 96 = .ok (.iinc 6 1, 3) := by decide +kernel
theorem dX5_kind_99 : decode cX5_kind 99 = .ok (.goto (-54), 3) := by decide +kernel
theorem dX5_kind_102 : decode cX5_kind 102 = .ok (.iload 4, 2) := by decide +kernel
theorem dX5_kind_104 : decode cX5_kind 104 = .ok (.iload 5, 2) := by decide +kernel
theorem dX5_kind_106 : decode cX5_kind 106 = .ok (.iload_n 3, 1) := by decide +kernel
theorem dX5_kind_107 : decode cX5_kind 107 = .ok (.invokestatic 207, 3) := by decide +kernel
theorem dX5_kind_110 : decode cX5_kind 110 = .ok (.ireturn, 1) := by decide +kernel
set_option maxRecDepth 20000 in
theorem ggX5_luck_X5_within : GoodIn wsX5_luck wsX5_within := goodIn_r _ [8] (by decide +kernel) (by decide +kernel)
set_option maxRecDepth 20000 in
theorem gX5_luck_X5_within : GoodIn wsX5_luck (va_wsS RX5 62 yX5_within wsX5_within) := goodIn_app (goodIn_of _ (by decide +kernel)) ggX5_luck_X5_within
set_option maxRecDepth 20000 in
theorem ggX5_luck_X5_isCell : GoodIn wsX5_luck wsX5_isCell := goodIn_r _ [11, 5, 6, 7, 8] (by decide +kernel) (by decide +kernel)
set_option maxRecDepth 20000 in
theorem gX5_luck_X5_isCell : GoodIn wsX5_luck (va_wsS RX5 154 yX5_isCell wsX5_isCell) := goodIn_app (goodIn_of _ (by decide +kernel)) ggX5_luck_X5_isCell
set_option maxRecDepth 20000 in
theorem ggX5_luck_X5_isHalf : GoodIn wsX5_luck wsX5_isHalf := goodIn_r _ [14, 5, 6, 7, 8] (by decide +kernel) (by decide +kernel)
set_option maxRecDepth 20000 in
theorem gX5_luck_X5_isHalf : GoodIn wsX5_luck (va_wsS RX5 183 yX5_isHalf wsX5_isHalf) := goodIn_app (goodIn_of _ (by decide +kernel)) ggX5_luck_X5_isHalf
set_option maxRecDepth 20000 in
theorem ggX5_luck_X4_copyFrom : GoodIn wsX5_luck wsX4_copyFrom := goodIn_r _ [18, 19, 20, 21, 22, 23, 24, 25, 26, 27, 28, 29, 104, 105, 106, 107, 108, 109, 110] (by decide +kernel) (by decide +kernel)
set_option maxRecDepth 20000 in
theorem gX5_luck_X4_copyFrom_n90 : GoodIn wsX5_luck (wsX4_copyFrom) := ggX5_luck_X4_copyFrom
set_option maxRecDepth 20000 in
theorem ggX5_luck_X0_spread : GoodIn wsX5_luck wsX0_spread := goodIn_r _ [33, 34, 35, 36, 37, 38, 31, 39, 40, 41, 42, 43, 44, 45, 21, 22, 23, 46, 16, 47, 48, 28, 27, 24, 49, 50, 51, 52, 26, 25, 53, 7, 54, 55, 56, 57, 58, 29, 59, 60, 61, 62, 19, 63, 64, 65, 66, 67, 68, 69, 70, 71, 72, 73, 74, 75, 76, 77, 78, 79, 80, 81, 82, 101, 102, 103, 104, 105, 106, 107, 108, 109, 110] (by decide +kernel) (by decide +kernel)
set_option maxRecDepth 20000 in
theorem gX5_luck_X0_spread_n215 : GoodIn wsX5_luck (wsX0_spread) := ggX5_luck_X0_spread
set_option maxRecDepth 20000 in
theorem ggX5_luck_X5_part : GoodIn wsX5_luck wsX5_part := goodIn_r _ [85, 86, 87, 7, 88] (by decide +kernel) (by decide +kernel)
set_option maxRecDepth 20000 in
theorem gX5_luck_X5_part : GoodIn wsX5_luck (va_wsS RX5 191 yX5_part wsX5_part) := goodIn_app (goodIn_of _ (by decide +kernel)) ggX5_luck_X5_part
theorem dX5_luck_0 : decode cX5_luck 0 = .ok (.iload_n 1, 1) := by decide +kernel
theorem dX5_luck_1 : decode cX5_luck 1 = .ok (.iconst 0, 1) := by decide +kernel
theorem dX5_luck_2 : decode cX5_luck 2 = .ok (.bipush 10, 2) := by decide +kernel
theorem dX5_luck_4 : decode cX5_luck 4 = .ok (.invokestatic 62, 3) := by decide +kernel
theorem dX5_luck_7 : decode cX5_luck 7 = .ok (.ifCond .eq 28, 3) := by decide +kernel
theorem dX5_luck_10 : decode cX5_luck 10 = .ok (.iload_n 2, 1) := by decide +kernel
theorem dX5_luck_11 : decode cX5_luck 11 = .ok (.invokestatic 154, 3) := by decide +kernel
theorem dX5_luck_14 : decode cX5_luck 14 = .ok (.ifCond .eq 21, 3) := by decide +kernel
theorem dX5_luck_17 : decode cX5_luck 17 = .ok (.iload_n 3, 1) := by decide +kernel
theorem dX5_luck_18 : decode cX5_luck 18 = .ok (.iconst 0, 1) := by decide +kernel
theorem dX5_luck_19 : decode cX5_luck 19 = .ok (.bipush 8, 2) := by decide +kernel
theorem dX5_luck_21 : decode cX5_luck 21 = .ok (.invokestatic 62, 3) := by decide +kernel
theorem dX5_luck_24 : decode cX5_luck 24 = .ok (.ifCond .eq 11, 3) := by decide +kernel
theorem dX5_luck_27 : decode cX5_luck 27 = .ok (.iload 4, 2) := by decide +kernel
theorem dX5_luck_29 : decode cX5_luck 29 = .ok (.invokestatic 183, 3) := by decide +kernel
theorem dX5_luck_32 : decode cX5_luck 32 = .ok (.ifCond .ne 7, 3) := by decide +kernel
theorem dX5_luck_35 : decode cX5_luck 35 = .ok (.ldc2_w 186, 3) := by decide +kernel
theorem dX5_luck_38 : decode cX5_luck 38 = .ok (.lreturn, 1) := by decide +kernel
theorem dX5_luck_39 : decode cX5_luck 39 = .ok (.aload_n 0, 1) := by decide +kernel
theorem dX5_luck_40 : decode cX5_luck 40 = .ok (.getfield 16, 3) := by decide +kernel
theorem dX5_luck_43 : decode cX5_luck 43 = .ok (.aload_n 0, 1) := by decide +kernel
theorem dX5_luck_44 : decode cX5_luck 44 = .ok (.getfield 10, 3) := by decide +kernel
theorem dX5_luck_47 : decode cX5_luck 47 = .ok (.invokevirtual 90, 3) := by decide +kernel
theorem dX5_luck_50 : decode cX5_luck 50 = .ok (.aload_n 0, 1) := by decide +kernel
theorem dX5_luck_51 : decode cX5_luck 51 = .ok (.getfield 44, 3) := by decide +kernel
theorem dX5_luck_54 : decode cX5_luck 54 = .ok (.aload_n 0, 1) := by decide +kernel
theorem dX5_luck_55 : decode cX5_luck 55 = .ok (.getfield 16, 3) := by decide +kernel
theorem dX5_luck_58 : decode cX5_luck 58 = .ok (.iload_n 1, 1) := by decide +kernel
theorem dX5_luck_59 : decode cX5_luck 59 = .ok (.iload_n 3, 1) := by decide +kernel
theorem dX5_luck_60 : decode cX5_luck 60 = .ok (.invokevirtual 215, 3) := by decide +kernel
theorem dX5_luck_63 : decode cX5_luck 63 = .ok (.aload_n 0, 1) := by decide +kernel
theorem dX5_luck_64 : decode cX5_luck 64 = .ok (.getfield 44, 3) := by decide +kernel
theorem dX5_luck_67 : decode cX5_luck 67 = .ok (.getfield 219, 3) := by decide +kernel
theorem dX5_luck_70 : decode cX5_luck 70 = .ok (.iload_n 2, 1) := by decide +kernel
theorem dX5_luck_71 : decode cX5_luck 71 = .ok (.laload, 1) := by decide +kernel
theorem dX5_luck_72 : decode cX5_luck 72 = .ok (.aload_n 0, 1) := by decide +kernel
theorem dX5_luck_73 : decode cX5_luck 73 = .ok (.getfield 44, 3) := by decide +kernel
theorem dX5_luck_76 : decode cX5_luck 76 = .ok (.getfield 223, 3) := by decide +kernel
theorem dX5_luck_79 : decode cX5_luck 79 = .ok (.iload 4, 2) := by decide +kernel
theorem dX5_luck_81 : decode cX5_luck 81 = .ok (.invokestatic 191, 3) := by decide +kernel
theorem dX5_luck_84 : decode cX5_luck 84 = .ok (.lreturn, 1) := by decide +kernel
set_option maxRecDepth 20000 in
theorem ggX5_mean_X5_within : GoodIn wsX5_mean wsX5_within := goodIn_r _ [8] (by decide +kernel) (by decide +kernel)
set_option maxRecDepth 20000 in
theorem gX5_mean_X5_within : GoodIn wsX5_mean (va_wsS RX5 62 yX5_within wsX5_within) := goodIn_app (goodIn_of _ (by decide +kernel)) ggX5_mean_X5_within
set_option maxRecDepth 20000 in
theorem ggX5_mean_X5_isHalf : GoodIn wsX5_mean wsX5_isHalf := goodIn_r _ [11, 5, 6, 7, 8] (by decide +kernel) (by decide +kernel)
set_option maxRecDepth 20000 in
theorem gX5_mean_X5_isHalf : GoodIn wsX5_mean (va_wsS RX5 183 yX5_isHalf wsX5_isHalf) := goodIn_app (goodIn_of _ (by decide +kernel)) ggX5_mean_X5_isHalf
set_option maxRecDepth 20000 in
theorem ggX5_mean_X4_copyFrom : GoodIn wsX5_mean wsX4_copyFrom := goodIn_r _ [15, 16, 17, 18, 19, 20, 21, 22, 23, 24, 25, 26, 101, 102, 103, 104, 105, 106, 107] (by decide +kernel) (by decide +kernel)
set_option maxRecDepth 20000 in
theorem gX5_mean_X4_copyFrom_n90 : GoodIn wsX5_mean (wsX4_copyFrom) := ggX5_mean_X4_copyFrom
set_option maxRecDepth 20000 in
theorem ggX5_mean_X0_spread : GoodIn wsX5_mean wsX0_spread := goodIn_r _ [30, 31, 32, 33, 34, 35, 28, 36, 37, 38, 39, 40, 41, 42, 18, 19, 20, 43, 13, 44, 45, 25, 24, 21, 46, 47, 48, 49, 23, 22, 50, 7, 51, 52, 53, 54, 55, 26, 56, 57, 58, 59, 16, 60, 61, 62, 63, 64, 65, 66, 67, 68, 69, 70, 71, 72, 73, 74, 75, 76, 77, 78, 79, 108, 109, 110, 101, 102, 103, 104, 105, 106, 107] (by decide +kernel) (by decide +kernel)
set_option maxRecDepth 20000 in
theorem gX5_mean_X0_spread_n215 : GoodIn wsX5_mean (wsX0_spread) := ggX5_mean_X0_spread
set_option maxRecDepth 20000 in
theorem ggX5_mean_X0_leanTotal : GoodIn wsX5_mean wsX0_leanTotal := goodIn_r _ [82, 31, 50, 7, 51, 108, 109, 110] (by decide +kernel) (by decide +kernel)
set_option maxRecDepth 20000 in
theorem gX5_mean_X0_leanTotal_n227 : GoodIn wsX5_mean (wsX0_leanTotal) := ggX5_mean_X0_leanTotal
set_option maxRecDepth 20000 in
theorem ggX5_mean_X5_part : GoodIn wsX5_mean wsX5_part := goodIn_r _ [85, 86, 87, 7, 88] (by decide +kernel) (by decide +kernel)
set_option maxRecDepth 20000 in
theorem gX5_mean_X5_part : GoodIn wsX5_mean (va_wsS RX5 191 yX5_part wsX5_part) := goodIn_app (goodIn_of _ (by decide +kernel)) ggX5_mean_X5_part
theorem dX5_mean_0 : decode cX5_mean 0 = .ok (.iload_n 1, 1) := by decide +kernel
theorem dX5_mean_1 : decode cX5_mean 1 = .ok (.iconst 0, 1) := by decide +kernel
theorem dX5_mean_2 : decode cX5_mean 2 = .ok (.bipush 10, 2) := by decide +kernel
theorem dX5_mean_4 : decode cX5_mean 4 = .ok (.invokestatic 62, 3) := by decide +kernel
theorem dX5_mean_7 : decode cX5_mean 7 = .ok (.ifCond .eq 20, 3) := by decide +kernel
theorem dX5_mean_10 : decode cX5_mean 10 = .ok (.iload_n 2, 1) := by decide +kernel
theorem dX5_mean_11 : decode cX5_mean 11 = .ok (.iconst 0, 1) := by decide +kernel
theorem dX5_mean_12 : decode cX5_mean 12 = .ok (.bipush 8, 2) := by decide +kernel
theorem dX5_mean_14 : decode cX5_mean 14 = .ok (.invokestatic 62, 3) := by decide +kernel
theorem dX5_mean_17 : decode cX5_mean 17 = .ok (.ifCond .eq 10, 3) := by decide +kernel
theorem dX5_mean_20 : decode cX5_mean 20 = .ok (.iload_n 3, 1) := by decide +kernel
theorem dX5_mean_21 : decode cX5_mean 21 = .ok (.invokestatic 183, 3) := by decide +kernel
theorem dX5_mean_24 : decode cX5_mean 24 = .ok (.ifCond .ne 7, 3) := by decide +kernel
theorem dX5_mean_27 : decode cX5_mean 27 = .ok (.ldc2_w 186, 3) := by decide +kernel
theorem dX5_mean_30 : decode cX5_mean 30 = .ok (.lreturn, 1) := by decide +kernel
theorem dX5_mean_31 : decode cX5_mean 31 = .ok (.aload_n 0, 1) := by decide +kernel
theorem dX5_mean_32 : decode cX5_mean 32 = .ok (.getfield 16, 3) := by decide +kernel
theorem dX5_mean_35 : decode cX5_mean 35 = .ok (.aload_n 0, 1) := by decide +kernel
theorem dX5_mean_36 : decode cX5_mean 36 = .ok (.getfield 10, 3) := by decide +kernel
theorem dX5_mean_39 : decode cX5_mean 39 = .ok (.invokevirtual 90, 3) := by decide +kernel
theorem dX5_mean_42 : decode cX5_mean 42 = .ok (.aload_n 0, 1) := by decide +kernel
theorem dX5_mean_43 : decode cX5_mean 43 = .ok (.getfield 44, 3) := by decide +kernel
theorem dX5_mean_46 : decode cX5_mean 46 = .ok (.aload_n 0, 1) := by decide +kernel
theorem dX5_mean_47 : decode cX5_mean 47 = .ok (.getfield 16, 3) := by decide +kernel
theorem dX5_mean_50 : decode cX5_mean 50 = .ok (.iload_n 1, 1) := by decide +kernel
theorem dX5_mean_51 : decode cX5_mean 51 = .ok (.iload_n 2, 1) := by decide +kernel
theorem dX5_mean_52 : decode cX5_mean 52 = .ok (.invokevirtual 215, 3) := by decide +kernel
theorem dX5_mean_55 : decode cX5_mean 55 = .ok (.aload_n 0, 1) := by decide +kernel
theorem dX5_mean_56 : decode cX5_mean 56 = .ok (.getfield 44, 3) := by decide +kernel
theorem dX5_mean_59 : decode cX5_mean 59 = .ok (.aload_n 0, 1) := by decide +kernel
theorem dX5_mean_60 : decode cX5_mean 60 = .ok (.getfield 10, 3) := by decide +kernel
theorem dX5_mean_63 : decode cX5_mean 63 = .ok (.getfield 103, 3) := by decide +kernel
theorem dX5_mean_66 : decode cX5_mean 66 = .ok (.invokevirtual 227, 3) := by decide +kernel
theorem dX5_mean_69 : decode cX5_mean 69 = .ok (.aload_n 0, 1) := by decide +kernel
theorem dX5_mean_70 : decode cX5_mean 70 = .ok (.getfield 44, 3) := by decide +kernel
theorem dX5_mean_73 : decode cX5_mean 73 = .ok (.getfield 223, 3) := by decide +kernel
theorem dX5_mean_76 : decode cX5_mean 76 = .ok (.iload_n 3, 1) := by decide +kernel
theorem dX5_mean_77 : decode cX5_mean 77 = .ok (.invokestatic 191, 3) := by decide +kernel
theorem dX5_mean_80 : decode cX5_mean 80 = .ok (.lreturn, 1) := by decide +kernel
set_option maxRecDepth 20000 in
theorem ggX5_see_X5_within : GoodIn wsX5_see wsX5_within := goodIn_r _ [5] (by decide +kernel) (by decide +kernel)
set_option maxRecDepth 20000 in
theorem gX5_see_X5_within : GoodIn wsX5_see (va_wsS RX5 62 yX5_within wsX5_within) := goodIn_app (goodIn_of _ (by decide +kernel)) ggX5_see_X5_within
set_option maxRecDepth 20000 in
theorem ggX5_see_X5_isCell : GoodIn wsX5_see wsX5_isCell := goodIn_r _ [8, 2, 3, 4, 5] (by decide +kernel) (by decide +kernel)
set_option maxRecDepth 20000 in
theorem gX5_see_X5_isCell : GoodIn wsX5_see (va_wsS RX5 154 yX5_isCell wsX5_isCell) := goodIn_app (goodIn_of _ (by decide +kernel)) ggX5_see_X5_isCell
set_option maxRecDepth 20000 in
theorem ggX5_see_X2_add : GoodIn wsX5_see wsX2_add := goodIn_r _ [12, 13, 14, 15, 28, 29, 30] (by decide +kernel) (by decide +kernel)
set_option maxRecDepth 20000 in
theorem gX5_see_X2_add_n231 : GoodIn wsX5_see (wsX2_add) := ggX5_see_X2_add
theorem dX5_see_0 : decode cX5_see 0 = .ok (.iload_n 1, 1) := by decide +kernel
theorem dX5_see_1 : decode cX5_see 1 = .ok (.iconst 0, 1) := by decide +kernel
theorem dX5_see_2 : decode cX5_see 2 = .ok (.bipush 30, 2) := by decide +kernel
theorem dX5_see_4 : decode cX5_see 4 = .ok (.invokestatic 62, 3) := by decide +kernel
theorem dX5_see_7 : decode cX5_see 7 = .ok (.ifCond .eq 10, 3) := by decide +kernel
theorem dX5_see_10 : decode cX5_see 10 = .ok (.iload_n 2, 1) := by decide +kernel
theorem dX5_see_11 : decode cX5_see 11 = .ok (.invokestatic 154, 3) := by decide +kernel
theorem dX5_see_14 : decode cX5_see 14 = .ok (.ifCond .ne 5, 3) := by decide +kernel
theorem dX5_see_17 : decode cX5_see 17 = .ok (.iconst (-1), 1) := by decide +kernel
theorem dX5_see_18 : decode cX5_see 18 = .ok (.ireturn, 1) := by decide +kernel
theorem dX5_see_19 : decode cX5_see 19 = .ok (.aload_n 0, 1) := by decide +kernel
theorem dX5_see_20 : decode cX5_see 20 = .ok (.getfield 37, 3) := by decide +kernel
theorem dX5_see_23 : decode cX5_see 23 = .ok (.iload_n 1, 1) := by decide +kernel
theorem dX5_see_24 : decode cX5_see 24 = .ok (.iload_n 2, 1) := by decide +kernel
theorem dX5_see_25 : decode cX5_see 25 = .ok (.invokevirtual 231, 3) := by decide +kernel
theorem dX5_see_28 : decode cX5_see 28 = .ok (.ireturn, 1) := by decide +kernel
set_option maxRecDepth 20000 in
theorem ggX5_forget_X5_within : GoodIn wsX5_forget wsX5_within := goodIn_r _ [5] (by decide +kernel) (by decide +kernel)
set_option maxRecDepth 20000 in
theorem gX5_forget_X5_within : GoodIn wsX5_forget (va_wsS RX5 62 yX5_within wsX5_within) := goodIn_app (goodIn_of _ (by decide +kernel)) ggX5_forget_X5_within
theorem dX5_forget_0 : decode cX5_forget 0 = .ok (.aload_n 0, 1) := by decide +kernel
theorem dX5_forget_1 : decode cX5_forget 1 = .ok (.getfield 37, 3) := by decide +kernel
theorem dX5_forget_4 : decode cX5_forget 4 = .ok (.getfield 94, 3) := by decide +kernel
theorem dX5_forget_7 : decode cX5_forget 7 = .ok (.istore_n 2, 1) := by decide +kernel
theorem dX5_forget_8 : decode cX5_forget 8 = .ok (.iload_n 1, 1) := by decide +kernel
theorem dX5_forget_9 : decode cX5_forget 9 = .ok (.iconst 0, 1) := by decide +kernel
theorem dX5_forget_10 : decode cX5_forget 10 = .ok (.iload_n 2, 1) := by decide +kernel
theorem dX5_forget_11 : decode cX5_forget 11 = .ok (.invokestatic 62, 3) := by decide +kernel
theorem dX5_forget_14 : decode cX5_forget 14 = .ok (.ifCond .ne 5, 3) := by decide +kernel
theorem dX5_forget_17 : decode cX5_forget 17 = .ok (.iconst (-1), 1) := by decide +kernel
theorem dX5_forget_18 : decode cX5_forget 18 = .ok (.ireturn, 1) := by decide +kernel
theorem dX5_forget_19 : decode cX5_forget 19 = .ok (.aload_n 0, 1) := by decide +kernel
theorem dX5_forget_20 : decode cX5_forget 20 = .ok (.getfield 37, 3) := by decide +kernel
theorem dX5_forget_23 : decode cX5_forget 23 = .ok (.iload_n 1, 1) := by decide +kernel
theorem dX5_forget_24 : decode cX5_forget 24 = .ok (.putfield 94, 3) := by decide +kernel
theorem dX5_forget_27 : decode cX5_forget 27 = .ok (.iload_n 2, 1) := by decide +kernel
theorem dX5_forget_28 : decode cX5_forget 28 = .ok (.ireturn, 1) := by decide +kernel
set_option maxRecDepth 20000 in
theorem ggX5_kinds_X4_hasDraw : GoodIn wsX5_kinds wsX4_hasDraw := goodIn_r _ [5, 6, 108, 109, 110, 111, 112, 113, 114] (by decide +kernel) (by decide +kernel)
set_option maxRecDepth 20000 in
theorem gX5_kinds_X4_hasDraw_n129 : GoodIn wsX5_kinds (wsX4_hasDraw) := ggX5_kinds_X4_hasDraw
set_option maxRecDepth 20000 in
theorem ggX5_kinds_X5_fittingBits : GoodIn wsX5_kinds wsX5_fittingBits := goodIn_r _ [11, 12, 13, 14, 15, 16, 17, 18, 10, 19, 1, 20, 3, 21, 22, 23, 24, 25, 26, 27, 6, 28, 29, 30, 31, 32, 33, 34, 35, 36, 37, 38, 39, 40, 41, 42, 43, 44, 45, 46, 47, 48, 49, 50, 51, 52, 53, 54, 55, 56, 57, 58, 59, 60, 61, 62, 63, 64, 65, 66, 67, 68, 69, 70, 71, 72, 73, 74, 75, 76, 77, 78, 79, 80, 81, 82, 83, 84, 85, 86, 87, 88, 89, 90, 91, 92, 93, 94, 95, 96, 97, 98, 99, 100, 101, 102, 103, 104, 105, 106, 107, 108, 109, 110, 111, 112, 113, 114, 115, 116, 117] (by decide +kernel) (by decide +kernel)
set_option maxRecDepth 20000 in
theorem gX5_kinds_X5_fittingBits : GoodIn wsX5_kinds (wsV RX5 234 RX5 yX5_fittingBits wsX5_fittingBits) := goodIn_app (goodIn_of _ (by decide +kernel)) ggX5_kinds_X5_fittingBits
theorem dX5_kinds_0 : decode cX5_kinds 0 = .ok (.aload_n 0, 1) := by decide +kernel
theorem dX5_kinds_1 : decode cX5_kinds 1 = .ok (.getfield 10, 3) := by decide +kernel
theorem dX5_kinds_4 : decode cX5_kinds 4 = .ok (.iload_n 1, 1) := by decide +kernel
theorem dX5_kinds_5 : decode cX5_kinds 5 = .ok (.invokevirtual 129, 3) := by decide +kernel
theorem dX5_kinds_8 : decode cX5_kinds 8 = .ok (.ifCond .eq 12, 3) := by decide +kernel
theorem dX5_kinds_11 : decode cX5_kinds 11 = .ok (.aload_n 0, 1) := by decide +kernel
theorem dX5_kinds_12 : decode cX5_kinds 12 = .ok (.iload_n 1, 1) := by decide +kernel
theorem dX5_kinds_13 : decode cX5_kinds 13 = .ok (.iconst 0, 1) := by decide +kernel
theorem dX5_kinds_14 : decode cX5_kinds 14 = .ok (.invokevirtual 234, 3) := by decide +kernel
theorem dX5_kinds_17 : decode cX5_kinds 17 = .ok (.goto 4, 3) := by decide +kernel
theorem dX5_kinds_20 : decode cX5_kinds 20 = .ok (.iconst (-1), 1) := by decide +kernel
theorem dX5_kinds_21 : decode cX5_kinds 21 = .ok (.ireturn, 1) := by decide +kernel
set_option maxRecDepth 20000 in
theorem ggX5_pulls_X4_hasDraw : GoodIn wsX5_pulls wsX4_hasDraw := goodIn_r _ [5, 6, 108, 109, 110, 111, 112, 113, 114] (by decide +kernel) (by decide +kernel)
set_option maxRecDepth 20000 in
theorem gX5_pulls_X4_hasDraw_n129 : GoodIn wsX5_pulls (wsX4_hasDraw) := ggX5_pulls_X4_hasDraw
set_option maxRecDepth 20000 in
theorem ggX5_pulls_X5_fittingBits : GoodIn wsX5_pulls wsX5_fittingBits := goodIn_r _ [11, 12, 13, 14, 15, 16, 17, 18, 10, 19, 1, 20, 3, 21, 22, 23, 24, 25, 26, 27, 6, 28, 29, 30, 31, 32, 33, 34, 35, 36, 37, 38, 39, 40, 41, 42, 43, 44, 45, 46, 47, 48, 49, 50, 51, 52, 53, 54, 55, 56, 57, 58, 59, 60, 61, 62, 63, 64, 65, 66, 67, 68, 69, 70, 71, 72, 73, 74, 75, 76, 77, 78, 79, 80, 81, 82, 83, 84, 85, 86, 87, 88, 89, 90, 91, 92, 93, 94, 95, 96, 97, 98, 99, 100, 101, 102, 103, 104, 105, 106, 107, 108, 109, 110, 111, 112, 113, 114, 115, 116, 117] (by decide +kernel) (by decide +kernel)
set_option maxRecDepth 20000 in
theorem gX5_pulls_X5_fittingBits : GoodIn wsX5_pulls (wsV RX5 234 RX5 yX5_fittingBits wsX5_fittingBits) := goodIn_app (goodIn_of _ (by decide +kernel)) ggX5_pulls_X5_fittingBits
theorem dX5_pulls_0 : decode cX5_pulls 0 = .ok (.aload_n 0, 1) := by decide +kernel
theorem dX5_pulls_1 : decode cX5_pulls 1 = .ok (.getfield 10, 3) := by decide +kernel
theorem dX5_pulls_4 : decode cX5_pulls 4 = .ok (.iload_n 1, 1) := by decide +kernel
theorem dX5_pulls_5 : decode cX5_pulls 5 = .ok (.invokevirtual 129, 3) := by decide +kernel
theorem dX5_pulls_8 : decode cX5_pulls 8 = .ok (.ifCond .eq 12, 3) := by decide +kernel
theorem dX5_pulls_11 : decode cX5_pulls 11 = .ok (.aload_n 0, 1) := by decide +kernel
theorem dX5_pulls_12 : decode cX5_pulls 12 = .ok (.iload_n 1, 1) := by decide +kernel
theorem dX5_pulls_13 : decode cX5_pulls 13 = .ok (.iconst 1, 1) := by decide +kernel
theorem dX5_pulls_14 : decode cX5_pulls 14 = .ok (.invokevirtual 234, 3) := by decide +kernel
theorem dX5_pulls_17 : decode cX5_pulls 17 = .ok (.goto 4, 3) := by decide +kernel
theorem dX5_pulls_20 : decode cX5_pulls 20 = .ok (.iconst (-1), 1) := by decide +kernel
theorem dX5_pulls_21 : decode cX5_pulls 21 = .ok (.ireturn, 1) := by decide +kernel
set_option maxRecDepth 20000 in
theorem ggX5_spots_X4_hasDraw : GoodIn wsX5_spots wsX4_hasDraw := goodIn_r _ [7, 8, 108, 109, 110, 111, 112, 113, 114] (by decide +kernel) (by decide +kernel)
set_option maxRecDepth 20000 in
theorem gX5_spots_X4_hasDraw_n129 : GoodIn wsX5_spots (wsX4_hasDraw) := ggX5_spots_X4_hasDraw
set_option maxRecDepth 20000 in
theorem ggX5_spots_X5_isHalf : GoodIn wsX5_spots wsX5_isHalf := goodIn_r _ [12, 13, 14, 11, 15] (by decide +kernel) (by decide +kernel)
set_option maxRecDepth 20000 in
theorem gX5_spots_X5_isHalf : GoodIn wsX5_spots (va_wsS RX5 183 yX5_isHalf wsX5_isHalf) := goodIn_app (goodIn_of _ (by decide +kernel)) ggX5_spots_X5_isHalf
set_option maxRecDepth 20000 in
theorem ggX5_spots_X5_suppose : GoodIn wsX5_spots wsX5_suppose := goodIn_r _ [19, 3, 1, 20, 5, 21, 22, 23, 24, 25, 26, 27, 8, 28, 29, 30, 31, 32, 33, 34, 35, 96, 97, 98, 99, 100, 101, 102, 103, 104, 105, 106, 107, 108, 109, 110, 111, 112, 113, 114] (by decide +kernel) (by decide +kernel)
set_option maxRecDepth 20000 in
theorem gX5_spots_X5_suppose : GoodIn wsX5_spots (wsV RX5 204 RX5 yX5_suppose wsX5_suppose) := goodIn_app (goodIn_of _ (by decide +kernel)) ggX5_spots_X5_suppose
set_option maxRecDepth 20000 in
theorem ggX5_spots_X2_fits : GoodIn wsX5_spots wsX2_fits := goodIn_r _ [39, 40, 41, 42, 37, 43, 44, 45, 46, 47, 48, 49, 50, 51, 52, 53, 54, 55, 5, 56, 57, 29, 32, 58, 59, 60, 61, 31, 30, 8, 62, 63, 64, 65, 28, 66, 11, 67, 68, 69, 70, 71, 72, 73, 74, 75, 23, 76, 77, 78, 79, 80, 81, 82, 83, 84, 85, 86, 87, 88, 89, 90, 91, 92, 93, 94, 95, 108, 109, 110, 111, 112, 113, 114, 115, 116, 117] (by decide +kernel) (by decide +kernel)
set_option maxRecDepth 20000 in
theorem gX5_spots_X2_fits_n237 : GoodIn wsX5_spots (wsX2_fits) := ggX5_spots_X2_fits
theorem dX5_spots_0 : decode cX5_spots 0 = .ok (.aload_n 0, 1) := by decide +kernel
theorem dX5_spots_1 : decode cX5_spots 1 = .ok (.getfield 10, 3) := by decide +kernel
theorem dX5_spots_4 : decode cX5_spots 4 = .ok (.iload_n 1, 1) := by decide +kernel
theorem dX5_spots_5 : decode cX5_spots 5 = .ok (.invokevirtual 129, 3) := by decide +kernel
theorem dX5_spots_8 : decode cX5_spots 8 = .ok (.ifCond .eq 10, 3) := by decide +kernel
theorem dX5_spots_11 : decode cX5_spots 11 = .ok (.iload_n 2, 1) := by decide +kernel
theorem dX5_spots_12 : decode cX5_spots 12 = .ok (.invokestatic 183, 3) := by decide +kernel
theorem dX5_spots_15 : decode cX5_spots 15 = .ok (.ifCond .ne 5, 3) := by decide +kernel
theorem dX5_spots_18 : decode cX5_spots 18 = .ok (.iconst (-1), 1) := by decide +kernel
theorem dX5_spots_19 : decode cX5_spots 19 = .ok (.ireturn, 1) := by decide +kernel
theorem dX5_spots_20 : decode cX5_spots 20 = .ok (.iconst 0, 1) := by decide +kernel
theorem dX5_spots_21 : decode cX5_spots 21 = .ok (.istore_n 3, 1) := by decide +kernel
theorem dX5_spots_22 : decode cX5_spots 22 = .ok (.bipush (-4), 2) := by decide +kernel
theorem dX5_spots_24 : decode cX5_spots 24 = .ok (.istore 4, 2) := by decide +kernel
theorem dX5_spots_26 : decode cX5_spots 26 = .ok (.iconst 0, 1) := by decide +kernel
theorem dX5_spots_27 : decode cX5_spots 27 = .ok (.istore 5, 2) := by decide +kernel
theorem dX5_spots_29 : decode cX5_spots 29 = .ok (.iload 5, 2) := by decide +kernel
theorem dX5_spots_31 : decode cX5_spots 31 = .ok (.bipush 100, 2) := by decide +kernel
theorem dX5_spots_33 : decode cX5_spots 33 = .ok (.if_icmp .ge 45, 3) := by decide +kernel
theorem dX5_spots_36 : decode cX5_spots 36 = .ok (.aload_n 0, 1) := by decide +kernel
theorem dX5_spots_37 : decode cX5_spots 37 = .ok (.iload_n 1, 1) := by decide +kernel
theorem dX5_spots_38 : decode cX5_spots 38 = .ok (.iconst 2, 1) := by decide +kernel
theorem dX5_spots_39 : decode cX5_spots 39 = .ok (.iload 5, 2) := by decide +kernel
theorem dX5_spots_41 : decode cX5_spots 41 = .ok (.invokevirtual 204, 3) := by decide +kernel
theorem dX5_spots_44 : decode cX5_spots 44 = .ok (.aload_n 0, 1) := by decide +kernel
theorem dX5_spots_45 : decode cX5_spots 45 = .ok (.getfield 37, 3) := by decide +kernel
theorem dX5_spots_48 : decode cX5_spots 48 = .ok (.aload_n 0, 1) := by decide +kernel
theorem dX5_spots_49 : decode cX5_spots 49 = .ok (.getfield 16, 3) := by decide +kernel
theorem dX5_spots_52 : decode cX5_spots 52 = .ok (.invokevirtual 237, 3) := by decide +kernel
theorem dX5_spots_55 : decode cX5_spots 55 = .ok (.ifCond .eq 17, 3) := by decide +kernel
theorem dX5_spots_58 : decode cX5_spots 58 = .ok (.iinc 3 1, 3) := by decide +kernel
theorem dX5_spots_61 : decode cX5_spots 61 = .ok (.iload 4, 2) := by decide +kernel
theorem dX5_spots_63 : decode cX5_spots 63 = .ok (.bipush (-4), 2) := by decide +kernel
theorem dX5_spots_65 : decode cX5_spots 65 = .ok (.if_icmp .ne 7, 3) := by decide +kernel
theorem dX5_spots_68 : decode cX5_spots 68 = .ok (.iload 5, 2) := by decide +kernel
theorem dX5_spots_70 : decode cX5_spots 70 = .ok (.istore 4, 2) := by decide +kernel
theorem dX5_spots_72 : decode cX5_spots 72 = .ok (.iinc 5 1, 3) := by decide +kernel
theorem dX5_spots_75 : decode cX5_spots 75 = .ok (.goto (-46), 3) := by decide +kernel
theorem dX5_spots_78 : decode cX5_spots 78 = .ok (.iload_n 2, 1) := by decide +kernel
theorem dX5_spots_79 : decode cX5_spots 79 = .ok (.ifCond .ne 7, 3) := by decide +kernel
theorem dX5_spots_82 : decode cX5_spots 82 = .ok (.iload_n 3, 1) := by decide +kernel
theorem dX5_spots_83 : decode cX5_spots 83 = .ok (.goto 5, 3) := by decide +kernel
theorem dX5_spots_86 : decode cX5_spots 86 = .ok (.iload 4, 2) := by decide +kernel
theorem dX5_spots_88 : decode cX5_spots 88 = .ok (.ireturn, 1) := by decide +kernel
set_option maxRecDepth 20000 in
theorem ggX5_ask_X4_hasDraw : GoodIn wsX5_ask wsX4_hasDraw := goodIn_r _ [5, 6, 139, 140, 141, 142, 143, 144, 145] (by decide +kernel) (by decide +kernel)
set_option maxRecDepth 20000 in
theorem gX5_ask_X4_hasDraw_n129 : GoodIn wsX5_ask (wsX4_hasDraw) := ggX5_ask_X4_hasDraw
set_option maxRecDepth 20000 in
theorem ggX5_ask_X5_isHalf : GoodIn wsX5_ask wsX5_isHalf := goodIn_r _ [10, 11, 12, 9, 13] (by decide +kernel) (by decide +kernel)
set_option maxRecDepth 20000 in
theorem gX5_ask_X5_isHalf : GoodIn wsX5_ask (va_wsS RX5 183 yX5_isHalf wsX5_isHalf) := goodIn_app (goodIn_of _ (by decide +kernel)) ggX5_ask_X5_isHalf
set_option maxRecDepth 20000 in
theorem ggX5_ask_X5_fittingBits : GoodIn wsX5_ask wsX5_fittingBits := goodIn_r _ [17, 18, 19, 20, 21, 22, 23, 24, 9, 25, 1, 26, 3, 27, 28, 29, 30, 31, 32, 33, 6, 34, 35, 36, 37, 38, 39, 40, 41, 42, 43, 44, 45, 46, 47, 48, 49, 50, 51, 52, 53, 54, 55, 56, 57, 58, 59, 60, 61, 62, 63, 64, 65, 66, 67, 68, 69, 70, 71, 72, 73, 74, 75, 76, 77, 78, 79, 80, 81, 82, 83, 84, 85, 86, 87, 88, 89, 90, 91, 92, 93, 94, 95, 96, 97, 98, 99, 100, 101, 127, 128, 129, 130, 131, 132, 133, 134, 135, 136, 137, 138, 139, 140, 141, 142, 143, 144, 145, 146, 147, 148] (by decide +kernel) (by decide +kernel)
set_option maxRecDepth 20000 in
theorem gX5_ask_X5_fittingBits : GoodIn wsX5_ask (wsV RX5 234 RX5 yX5_fittingBits wsX5_fittingBits) := goodIn_app (goodIn_of _ (by decide +kernel)) ggX5_ask_X5_fittingBits
set_option maxRecDepth 20000 in
theorem ggX5_ask_X5_gatherPoints : GoodIn wsX5_ask wsX5_gatherPoints := goodIn_r _ [105, 21, 1, 18, 19, 106, 26, 3, 27, 28, 29, 30, 31, 32, 33, 6, 34, 35, 36, 37, 38, 127, 128, 129, 130, 131, 132, 133, 134, 135, 136, 137, 138, 139, 140, 141, 142, 143, 144, 145] (by decide +kernel) (by decide +kernel)
set_option maxRecDepth 20000 in
theorem gX5_ask_X5_gatherPoints : GoodIn wsX5_ask (wsV RX5 241 RX5 yX5_gatherPoints wsX5_gatherPoints) := goodIn_app (goodIn_of _ (by decide +kernel)) ggX5_ask_X5_gatherPoints
set_option maxRecDepth 20000 in
theorem ggX5_ask_J6_bitCount_0f7a4 : GoodIn wsX5_ask wsJ6_bitCount_0f7a4 := goodIn_r _ [110, 111, 112, 113] (by decide +kernel) (by decide +kernel)
set_option maxRecDepth 20000 in
theorem gX5_ask_J6_bitCount_0f7a4 : GoodIn wsX5_ask (va_wsS RX5 244 yJ6_bitCount_0f7a4 wsJ6_bitCount_0f7a4) := goodIn_app (goodIn_of _ (by decide +kernel)) ggX5_ask_J6_bitCount_0f7a4
set_option maxRecDepth 20000 in
theorem ggX5_ask_X5_mostLeft : GoodIn wsX5_ask wsX5_mostLeft := goodIn_r _ [117, 118, 18, 19, 106, 119, 53, 54, 55, 127, 128, 129, 130, 131, 132, 133, 134, 135, 136, 137, 138] (by decide +kernel) (by decide +kernel)
set_option maxRecDepth 20000 in
theorem gX5_ask_X5_mostLeft : GoodIn wsX5_ask (wsV RX5 249 RX5 yX5_mostLeft wsX5_mostLeft) := goodIn_app (goodIn_of _ (by decide +kernel)) ggX5_ask_X5_mostLeft
set_option maxRecDepth 20000 in
theorem ggX5_ask_X5_movePoints : GoodIn wsX5_ask wsX5_movePoints := goodIn_r _ [123, 21, 18, 19, 106, 39, 3, 40, 41, 29, 61, 62, 63, 35, 38, 64, 65, 66, 67, 37, 36, 6, 68, 69, 70, 71, 34, 72, 9, 73, 74, 75, 76, 77, 78, 79, 80, 81, 82, 83, 84, 85, 86, 87, 88, 89, 90, 91, 92, 93, 94, 95, 96, 97, 98, 54, 99, 100, 101, 127, 128, 129, 130, 131, 132, 133, 134, 135, 136, 137, 138, 139, 140, 141, 142, 143, 144, 145] (by decide +kernel) (by decide +kernel)
set_option maxRecDepth 20000 in
theorem gX5_ask_X5_movePoints : GoodIn wsX5_ask (wsV RX5 252 RX5 yX5_movePoints wsX5_movePoints) := goodIn_app (goodIn_of _ (by decide +kernel)) ggX5_ask_X5_movePoints
set_option maxRecDepth 20000 in
theorem ggX5_ask_X5_chosen : GoodIn wsX5_ask wsX5_chosen := goodIn_r _ [126] (by decide +kernel) (by decide +kernel)
set_option maxRecDepth 20000 in
theorem gX5_ask_X5_chosen : GoodIn wsX5_ask (va_wsS RX5 207 yX5_chosen wsX5_chosen) := goodIn_app (goodIn_of _ (by decide +kernel)) ggX5_ask_X5_chosen
theorem dX5_ask_0 : decode cX5_ask 0 = .ok (.aload_n 0, 1) := by decide +kernel
theorem dX5_ask_1 : decode cX5_ask 1 = .ok (.getfield 10, 3) := by decide +kernel
theorem dX5_ask_4 : decode cX5_ask 4 = .ok (.iload_n 1, 1) := by decide +kernel
theorem dX5_ask_5 : decode cX5_ask 5 = .ok (.invokevirtual 129, 3) := by decide +kernel
theorem dX5_ask_8 : decode cX5_ask 8 = .ok (.ifCond .eq 10, 3) := by decide +kernel
theorem dX5_ask_11 : decode cX5_ask 11 = .ok (.iload_n 2, 1) := by decide +kernel
theorem dX5_ask_12 : decode cX5_ask 12 = .ok (.invokestatic 183, 3) := by decide +kernel
theorem dX5_ask_15 : decode cX5_ask 15 = .ok (.ifCond .ne 5, 3) := by decide +kernel
theorem dX5_ask_18 : decode cX5_ask 18 = .ok (.iconst (-1), 1) := by decide +kernel
theorem dX5_ask_19 : decode cX5_ask 19 = .ok (.ireturn, 1) := by decide +kernel
theorem dX5_ask_20 : decode cX5_ask 20 = .ok (.aload_n 0, 1) := by decide +kernel
theorem dX5_ask_21 : decode cX5_ask 21 = .ok (.iload_n 1, 1) := by decide +kernel
theorem dX5_ask_22 : decode cX5_ask 22 = .ok (.iconst 1, 1) := by decide +kernel
theorem dX5_ask_23 : decode cX5_ask 23 = .ok (.invokevirtual 234, 3) := by decide +kernel
theorem dX5_ask_26 : decode cX5_ask 26 = .ok (.istore_n 3, 1) := by decide +kernel
theorem dX5_ask_27 : decode cX5_ask 27 = .ok (.aload_n 0, 1) := by decide +kernel
theorem dX5_ask_28 : decode cX5_ask 28 = .ok (.invokevirtual 241, 3) := by decide +kernel
theorem dX5_ask_31 : decode cX5_ask 31 = .ok (.bipush (-4), 2) := by decide +kernel
theorem dX5_ask_33 : decode cX5_ask 33 = .ok (.istore 4, 2) := by decide +kernel
theorem dX5_ask_35 : decode cX5_ask 35 = .ok (.iload_n 3, 1) := by decide +kernel
theorem dX5_ask_36 : decode cX5_ask 36 = .ok (.invokestatic 244, 3) := by decide +kernel
theorem dX5_ask_39 : decode cX5_ask 39 = .ok (.istore 5, 2) := by decide +kernel
theorem dX5_ask_41 : decode cX5_ask 41 = .ok (.iconst 0, 1) := by decide +kernel
theorem dX5_ask_42 : decode cX5_ask 42 = .ok (.istore 6, 2) := by decide +kernel
theorem dX5_ask_44 : decode cX5_ask 44 = .ok (.iload 6, 2) := by decide +kernel
theorem dX5_ask_46 : decode cX5_ask 46 = .ok (.bipush 30, 2) := by decide +kernel
theorem dX5_ask_48 : decode cX5_ask 48 = .ok (.if_icmp .gt 37, 3) := by decide +kernel
theorem dX5_ask_51 : decode cX5_ask 51 = .ok (.aload_n 0, 1) := by decide +kernel
theorem dX5_ask_52 : decode cX5_ask 52 = .ok (.iload_n 3, 1) := by decide +kernel
theorem dX5_ask_53 : decode cX5_ask 53 = .ok (.invokevirtual 249, 3) := by decide +kernel
theorem dX5_ask_56 : decode cX5_ask 56 = .ok (.istore 7, 2) := by decide +kernel
theorem dX5_ask_58 : decode cX5_ask 58 = .ok (.iload 7, 2) := by decide +kernel
theorem dX5_ask_60 : decode cX5_ask 60 = .ok (.iload 5, 2) := by decide +kernel
theorem dX5_ask_62 : decode cX5_ask 62 = .ok (.if_icmp .ge 11, 3) := by decide +kernel
theorem dX5_ask_65 : decode cX5_ask 65 = .ok (.iload 6, 2) := by decide +kernel
theorem dX5_ask_67 : decode cX5_ask 67 = .ok (.istore 4, 2) := by decide +kernel
theorem dX5_ask_69 : decode cX5_ask 69 = .ok (.iload 7, 2) := by decide +kernel
theorem dX5_ask_71 : decode cX5_ask 71 = .ok (.istore 5, 2) := by decide +kernel
theorem dX5_ask_73 : decode cX5_ask 73 = .ok (.aload_n 0, 1) := by decide +kernel
theorem dX5_ask_74 : decode cX5_ask 74 = .ok (.iload_n 1, 1) := by decide +kernel
theorem dX5_ask_75 : decode cX5_ask 75 = .ok (.iload_n 3, 1) := by decide +kernel
theorem dX5_ask_76 : decode cX5_ask 76 = .ok (.invokevirtual 252, 3) := by decide +kernel
theorem dX5_ask_79 : decode cX5_ask 79 = .ok (.iinc 6 1, 3) := by decide +kernel
theorem dX5_ask_82 : decode cX5_ask 82 = .ok (.goto (-38), 3) := by decide +kernel
theorem dX5_ask_85 : decode cX5_ask 85 = .ok (.iload 4, 2) := by decide +kernel
theorem dX5_ask_87 : decode cX5_ask 87 = .ok (.iload 5, 2) := by decide +kernel
theorem dX5_ask_89 : decode cX5_ask 89 = .ok (.iload_n 2, 1) := by decide +kernel
theorem dX5_ask_90 : decode cX5_ask 90 = .ok (.invokestatic 207, 3) := by decide +kernel
theorem dX5_ask_93 : decode cX5_ask 93 = .ok (.ireturn, 1) := by decide +kernel
set_option maxRecDepth 20000 in
theorem ggX5_drift_X5_within : GoodIn wsX5_drift wsX5_within := goodIn_r _ [11] (by decide +kernel) (by decide +kernel)
set_option maxRecDepth 20000 in
theorem gX5_drift_X5_within : GoodIn wsX5_drift (va_wsS RX5 62 yX5_within wsX5_within) := goodIn_app (goodIn_of _ (by decide +kernel)) ggX5_drift_X5_within
set_option maxRecDepth 20000 in
theorem ggX5_drift_X5_isHalf : GoodIn wsX5_drift wsX5_isHalf := goodIn_r _ [14, 8, 9, 10, 11] (by decide +kernel) (by decide +kernel)
set_option maxRecDepth 20000 in
theorem gX5_drift_X5_isHalf : GoodIn wsX5_drift (va_wsS RX5 183 yX5_isHalf wsX5_isHalf) := goodIn_app (goodIn_of _ (by decide +kernel)) ggX5_drift_X5_isHalf
set_option maxRecDepth 20000 in
theorem ggX5_drift_X4_copyFrom : GoodIn wsX5_drift wsX4_copyFrom := goodIn_r _ [18, 19, 20, 21, 22, 23, 24, 25, 26, 27, 28, 29, 86, 87, 88, 89, 90, 91, 92] (by decide +kernel) (by decide +kernel)
set_option maxRecDepth 20000 in
theorem gX5_drift_X4_copyFrom_n90 : GoodIn wsX5_drift (wsX4_copyFrom) := ggX5_drift_X4_copyFrom
set_option maxRecDepth 20000 in
theorem ggX5_drift_X4_lean : GoodIn wsX5_drift wsX4_lean := goodIn_r _ [32, 26, 25, 33, 10, 34, 86, 87, 88, 89, 90, 91, 92] (by decide +kernel) (by decide +kernel)
set_option maxRecDepth 20000 in
theorem gX5_drift_X4_lean_n109 : GoodIn wsX5_drift (wsX4_lean) := ggX5_drift_X4_lean
set_option maxRecDepth 20000 in
theorem ggX5_drift_X4_setTrait : GoodIn wsX5_drift wsX4_setTrait := goodIn_r _ [37, 19, 86, 87, 88, 89, 90, 91, 92] (by decide +kernel) (by decide +kernel)
set_option maxRecDepth 20000 in
theorem gX5_drift_X4_setTrait_n150 : GoodIn wsX5_drift (wsX4_setTrait) := ggX5_drift_X4_setTrait
set_option maxRecDepth 20000 in
theorem ggX5_drift_X4_passYear : GoodIn wsX5_drift wsX4_passYear := goodIn_r _ [40, 26, 29, 41, 42, 43, 16, 44, 28, 27, 24, 45, 30, 31, 32, 25, 33, 10, 34, 46, 47, 48, 49, 50, 51, 52, 53, 19, 54, 55, 56, 57, 58, 59, 60, 61, 62, 63, 64, 65, 66, 67, 68, 69, 70, 6, 71, 72, 73, 86, 87, 88, 89, 90, 91, 92] (by decide +kernel) (by decide +kernel)
set_option maxRecDepth 20000 in
theorem gX5_drift_X4_passYear_n195 : GoodIn wsX5_drift (wsX4_passYear) := ggX5_drift_X4_passYear
theorem dX5_drift_0 : decode cX5_drift 0 = .ok (.iload_n 2, 1) := by decide +kernel
theorem dX5_drift_1 : decode cX5_drift 1 = .ok (.iconst 1, 1) := by decide +kernel
theorem dX5_drift_2 : decode cX5_drift 2 = .ok (.bipush 60, 2) := by decide +kernel
theorem dX5_drift_4 : decode cX5_drift 4 = .ok (.invokestatic 62, 3) := by decide +kernel
theorem dX5_drift_7 : decode cX5_drift 7 = .ok (.ifCond .eq 10, 3) := by decide +kernel
theorem dX5_drift_10 : decode cX5_drift 10 = .ok (.iload_n 3, 1) := by decide +kernel
theorem dX5_drift_11 : decode cX5_drift 11 = .ok (.invokestatic 183, 3) := by decide +kernel
theorem dX5_drift_14 : decode cX5_drift 14 = .ok (.ifCond .ne 5, 3) := by decide +kernel
theorem dX5_drift_17 : decode cX5_drift 17 = .ok (.iconst (-1), 1) := by decide +kernel
theorem dX5_drift_18 : decode cX5_drift 18 = .ok (.ireturn, 1) := by decide +kernel
theorem dX5_drift_19 : decode cX5_drift 19 = .ok (.aload_n 0, 1) := by decide +kernel
theorem dX5_drift_20 : decode cX5_drift 20 = .ok (.getfield 10, 3) := by decide +kernel
