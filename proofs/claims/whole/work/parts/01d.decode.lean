theorem dX6_readLine_83 : decode cX6_readLine 83 = .ok (.getfield 57, 3) := by decide +kernel
theorem dX6_readLine_86 : decode cX6_readLine 86 = .ok (.ifCond .le 4, 3) := by decide +kernel
theorem dX6_readLine_89 : decode cX6_readLine 89 = .ok (.return_, 1) := by decide +kernel
theorem dX6_readLine_90 : decode cX6_readLine 90 = .ok (.aload_n 0, 1) := by decide +kernel
theorem dX6_readLine_91 : decode cX6_readLine 91 = .ok (.iload_n 1, 1) := by decide +kernel
theorem dX6_readLine_92 : decode cX6_readLine 92 = .ok (.invokevirtual 107, 3) := by decide +kernel
theorem dX6_readLine_95 : decode cX6_readLine 95 = .ok (.aload_n 0, 1) := by decide +kernel
theorem dX6_readLine_96 : decode cX6_readLine 96 = .ok (.getfield 57, 3) := by decide +kernel
theorem dX6_readLine_99 : decode cX6_readLine 99 = .ok (.ifCond .ne 16, 3) := by decide +kernel
theorem dX6_readLine_102 : decode cX6_readLine 102 = .ok (.aload_n 0, 1) := by decide +kernel
theorem dX6_readLine_103 : decode cX6_readLine 103 = .ok (.getfield 66, 3) := by decide +kernel
theorem dX6_readLine_106 : decode cX6_readLine 106 = .ok (.iconst 3, 1) := by decide +kernel
theorem dX6_readLine_107 : decode cX6_readLine 107 = .ok (.if_icmp .eq 8, 3) := by decide +kernel
theorem dX6_readLine_110 : decode cX6_readLine 110 = .ok (.aload_n 0, 1) := by decide +kernel
theorem dX6_readLine_111 : decode cX6_readLine 111 = .ok (.iconst 2, 1) := by decide +kernel
theorem dX6_readLine_112 : decode cX6_readLine 112 = .ok (.invokevirtual 87, 3) := by decide +kernel
theorem dX6_readLine_115 : decode cX6_readLine 115 = .ok (.aload_n 0, 1) := by decide +kernel
theorem dX6_readLine_116 : decode cX6_readLine 116 = .ok (.invokevirtual 91, 3) := by decide +kernel
theorem dX6_readLine_119 : decode cX6_readLine 119 = .ok (.return_, 1) := by decide +kernel
set_option maxRecDepth 20000 in
theorem ggX6_text_X6_step : GoodIn wsX6_text wsX6_step := goodIn_r _ [16, 1, 2, 17, 18, 5, 19, 20, 21, 22, 23, 24, 25, 15, 26, 6, 27, 28, 29, 30, 31, 32, 33, 34, 8, 54, 55, 56, 57, 58, 59, 60, 61, 62, 63, 64, 65, 66, 67, 68, 69, 70, 71, 72, 73, 74, 75, 76, 77, 78, 79] (by decide +kernel) (by decide +kernel)
set_option maxRecDepth 20000 in
theorem gX6_text_X6_step : GoodIn wsX6_text (wsV RX6 91 RX6 yX6_step wsX6_step) := goodIn_app (goodIn_of _ (by decide +kernel)) ggX6_text_X6_step
set_option maxRecDepth 20000 in
theorem ggX6_text_X6_readLine : GoodIn wsX6_text wsX6_readLine := goodIn_r _ [38, 39, 4, 3, 1, 5, 40, 41, 42, 15, 43, 2, 17, 44, 45, 23, 24, 25, 26, 6, 27, 28, 29, 30, 31, 32, 33, 34, 8, 12, 13, 14, 16, 18, 19, 20, 21, 22, 46, 47, 48, 49, 50, 51, 52, 53, 54, 55, 56, 57, 58, 59, 60, 61, 62, 63, 64, 65, 66, 67, 68, 69, 70, 71, 72, 73, 74, 75, 76, 77, 78, 79] (by decide +kernel) (by decide +kernel)
set_option maxRecDepth 20000 in
theorem gX6_text_X6_readLine : GoodIn wsX6_text (wsV RX6 110 RX6 yX6_readLine wsX6_readLine) := goodIn_app (goodIn_of _ (by decide +kernel)) ggX6_text_X6_readLine
theorem dX6_text_0 : decode cX6_text 0 = .ok (.aload_n 0, 1) := by decide +kernel
theorem dX6_text_1 : decode cX6_text 1 = .ok (.iconst 0, 1) := by decide +kernel
theorem dX6_text_2 : decode cX6_text 2 = .ok (.putfield 57, 3) := by decide +kernel
theorem dX6_text_5 : decode cX6_text 5 = .ok (.aload_n 0, 1) := by decide +kernel
theorem dX6_text_6 : decode cX6_text 6 = .ok (.iconst 0, 1) := by decide +kernel
theorem dX6_text_7 : decode cX6_text 7 = .ok (.putfield 69, 3) := by decide +kernel
theorem dX6_text_10 : decode cX6_text 10 = .ok (.aload_n 0, 1) := by decide +kernel
theorem dX6_text_11 : decode cX6_text 11 = .ok (.iconst 0, 1) := by decide +kernel
theorem dX6_text_12 : decode cX6_text 12 = .ok (.putfield 104, 3) := by decide +kernel
theorem dX6_text_15 : decode cX6_text 15 = .ok (.iconst 0, 1) := by decide +kernel
theorem dX6_text_16 : decode cX6_text 16 = .ok (.istore_n 1, 1) := by decide +kernel
theorem dX6_text_17 : decode cX6_text 17 = .ok (.iconst 0, 1) := by decide +kernel
theorem dX6_text_18 : decode cX6_text 18 = .ok (.istore_n 2, 1) := by decide +kernel
theorem dX6_text_19 : decode cX6_text 19 = .ok (.iload_n 2, 1) := by decide +kernel
theorem dX6_text_20 : decode cX6_text 20 = .ok (.bipush 26, 2) := by decide +kernel
theorem dX6_text_22 : decode cX6_text 22 = .ok (.if_icmp .ge 16, 3) := by decide +kernel
theorem dX6_text_25 : decode cX6_text 25 = .ok (.aload_n 0, 1) := by decide +kernel
theorem dX6_text_26 : decode cX6_text 26 = .ok (.getfield 13, 3) := by decide +kernel
theorem dX6_text_29 : decode cX6_text 29 = .ok (.iload_n 2, 1) := by decide +kernel
theorem dX6_text_30 : decode cX6_text 30 = .ok (.iconst 0, 1) := by decide +kernel
theorem dX6_text_31 : decode cX6_text 31 = .ok (.iastore, 1) := by decide +kernel
theorem dX6_text_32 : decode cX6_text 32 = .ok (.iinc 2 1, 3) := by decide +kernel
theorem dX6_text_35 : decode cX6_text 35 = .ok (.goto (-16), 3) := by decide +kernel
theorem dX6_text_38 : decode cX6_text 38 = .ok (.aload_n 0, 1) := by decide +kernel
theorem dX6_text_39 : decode cX6_text 39 = .ok (.invokevirtual 91, 3) := by decide +kernel
theorem dX6_text_42 : decode cX6_text 42 = .ok (.aload_n 0, 1) := by decide +kernel
theorem dX6_text_43 : decode cX6_text 43 = .ok (.getfield 57, 3) := by decide +kernel
theorem dX6_text_46 : decode cX6_text 46 = .ok (.ifCond .ne 20, 3) := by decide +kernel
theorem dX6_text_49 : decode cX6_text 49 = .ok (.aload_n 0, 1) := by decide +kernel
theorem dX6_text_50 : decode cX6_text 50 = .ok (.getfield 66, 3) := by decide +kernel
theorem dX6_text_53 : decode cX6_text 53 = .ok (.ifCond .eq 13, 3) := by decide +kernel
theorem dX6_text_56 : decode cX6_text 56 = .ok (.aload_n 0, 1) := by decide +kernel
theorem dX6_text_57 : decode cX6_text 57 = .ok (.invokevirtual 110, 3) := by decide +kernel
theorem dX6_text_60 : decode cX6_text 60 = .ok (.iinc 1 1, 3) := by decide +kernel
theorem dX6_text_63 : decode cX6_text 63 = .ok (.goto (-21), 3) := by decide +kernel
theorem dX6_text_66 : decode cX6_text 66 = .ok (.aload_n 0, 1) := by decide +kernel
theorem dX6_text_67 : decode cX6_text 67 = .ok (.iconst 0, 1) := by decide +kernel
theorem dX6_text_68 : decode cX6_text 68 = .ok (.putfield 54, 3) := by decide +kernel
theorem dX6_text_71 : decode cX6_text 71 = .ok (.aload_n 0, 1) := by decide +kernel
theorem dX6_text_72 : decode cX6_text 72 = .ok (.aload_n 0, 1) := by decide +kernel
theorem dX6_text_73 : decode cX6_text 73 = .ok (.getfield 57, 3) := by decide +kernel
theorem dX6_text_76 : decode cX6_text 76 = .ok (.putfield 113, 3) := by decide +kernel
theorem dX6_text_79 : decode cX6_text 79 = .ok (.aload_n 0, 1) := by decide +kernel
theorem dX6_text_80 : decode cX6_text 80 = .ok (.getfield 57, 3) := by decide +kernel
theorem dX6_text_83 : decode cX6_text 83 = .ok (.ifCond .le 11, 3) := by decide +kernel
theorem dX6_text_86 : decode cX6_text 86 = .ok (.bipush (-10), 2) := by decide +kernel
theorem dX6_text_88 : decode cX6_text 88 = .ok (.aload_n 0, 1) := by decide +kernel
theorem dX6_text_89 : decode cX6_text 89 = .ok (.getfield 63, 3) := by decide +kernel
theorem dX6_text_92 : decode cX6_text 92 = .ok (.isub, 1) := by decide +kernel
theorem dX6_text_93 : decode cX6_text 93 = .ok (.ireturn, 1) := by decide +kernel
theorem dX6_text_94 : decode cX6_text 94 = .ok (.iconst 0, 1) := by decide +kernel
theorem dX6_text_95 : decode cX6_text 95 = .ok (.istore_n 2, 1) := by decide +kernel
theorem dX6_text_96 : decode cX6_text 96 = .ok (.iload_n 2, 1) := by decide +kernel
theorem dX6_text_97 : decode cX6_text 97 = .ok (.bipush 26, 2) := by decide +kernel
theorem dX6_text_99 : decode cX6_text 99 = .ok (.if_icmp .ge 21, 3) := by decide +kernel
theorem dX6_text_102 : decode cX6_text 102 = .ok (.aload_n 0, 1) := by decide +kernel
theorem dX6_text_103 : decode cX6_text 103 = .ok (.getfield 7, 3) := by decide +kernel
theorem dX6_text_106 : decode cX6_text 106 = .ok (.iload_n 2, 1) := by decide +kernel
theorem dX6_text_107 : decode cX6_text 107 = .ok (.aload_n 0, 1) := by decide +kernel
theorem dX6_text_108 : decode cX6_text 108 = .ok (.getfield 13, 3) := by decide +kernel
theorem dX6_text_111 : decode cX6_text 111 = .ok (.iload_n 2, 1) := by decide +kernel
theorem dX6_text_112 : decode cX6_text 112 = .ok (.iaload, 1) := by decide +kernel
theorem dX6_text_113 : decode cX6_text 113 = .ok (.iastore, 1) := by decide +kernel
theorem dX6_text_114 : decode cX6_text 114 = .ok (.iinc 2 1, 3) := by decide +kernel
theorem dX6_text_117 : decode cX6_text 117 = .ok (.goto (-21), 3) := by decide +kernel
theorem dX6_text_120 : decode cX6_text 120 = .ok (.aload_n 0, 1) := by decide +kernel
theorem dX6_text_121 : decode cX6_text 121 = .ok (.iconst 0, 1) := by decide +kernel
theorem dX6_text_122 : decode cX6_text 122 = .ok (.putfield 116, 3) := by decide +kernel
theorem dX6_text_125 : decode cX6_text 125 = .ok (.aload_n 0, 1) := by decide +kernel
theorem dX6_text_126 : decode cX6_text 126 = .ok (.getfield 35, 3) := by decide +kernel
theorem dX6_text_129 : decode cX6_text 129 = .ok (.iconst 0, 1) := by decide +kernel
theorem dX6_text_130 : decode cX6_text 130 = .ok (.iconst 0, 1) := by decide +kernel
theorem dX6_text_131 : decode cX6_text 131 = .ok (.bastore, 1) := by decide +kernel
theorem dX6_text_132 : decode cX6_text 132 = .ok (.aload_n 0, 1) := by decide +kernel
theorem dX6_text_133 : decode cX6_text 133 = .ok (.getfield 35, 3) := by decide +kernel
theorem dX6_text_136 : decode cX6_text 136 = .ok (.iconst 1, 1) := by decide +kernel
theorem dX6_text_137 : decode cX6_text 137 = .ok (.iconst 0, 1) := by decide +kernel
theorem dX6_text_138 : decode cX6_text 138 = .ok (.bastore, 1) := by decide +kernel
theorem dX6_text_139 : decode cX6_text 139 = .ok (.iload_n 1, 1) := by decide +kernel
theorem dX6_text_140 : decode cX6_text 140 = .ok (.ireturn, 1) := by decide +kernel
theorem dX6_fault_0 : decode cX6_fault 0 = .ok (.aload_n 0, 1) := by decide +kernel
theorem dX6_fault_1 : decode cX6_fault 1 = .ok (.getfield 113, 3) := by decide +kernel
theorem dX6_fault_4 : decode cX6_fault 4 = .ok (.ireturn, 1) := by decide +kernel
set_option maxRecDepth 20000 in
theorem ggX6_isDraw_X6_in : GoodIn wsX6_isDraw wsX6_in := goodIn_r _ [5] (by decide +kernel) (by decide +kernel)
set_option maxRecDepth 20000 in
theorem gX6_isDraw_X6_in : GoodIn wsX6_isDraw (va_wsS RX6 50 yX6_in wsX6_in) := goodIn_app (goodIn_of _ (by decide +kernel)) ggX6_isDraw_X6_in
theorem dX6_isDraw_0 : decode cX6_isDraw 0 = .ok (.iload_n 1, 1) := by decide +kernel
theorem dX6_isDraw_1 : decode cX6_isDraw 1 = .ok (.i2l, 1) := by decide +kernel
theorem dX6_isDraw_2 : decode cX6_isDraw 2 = .ok (.lconst 0, 1) := by decide +kernel
theorem dX6_isDraw_3 : decode cX6_isDraw 3 = .ok (.aload_n 0, 1) := by decide +kernel
theorem dX6_isDraw_4 : decode cX6_isDraw 4 = .ok (.getfield 7, 3) := by decide +kernel
theorem dX6_isDraw_7 : decode cX6_isDraw 7 = .ok (.bipush 20, 2) := by decide +kernel
theorem dX6_isDraw_9 : decode cX6_isDraw 9 = .ok (.iaload, 1) := by decide +kernel
theorem dX6_isDraw_10 : decode cX6_isDraw 10 = .ok (.iconst 1, 1) := by decide +kernel
theorem dX6_isDraw_11 : decode cX6_isDraw 11 = .ok (.isub, 1) := by decide +kernel
theorem dX6_isDraw_12 : decode cX6_isDraw 12 = .ok (.i2l, 1) := by decide +kernel
theorem dX6_isDraw_13 : decode cX6_isDraw 13 = .ok (.invokestatic 50, 3) := by decide +kernel
theorem dX6_isDraw_16 : decode cX6_isDraw 16 = .ok (.ireturn, 1) := by decide +kernel
set_option maxRecDepth 20000 in
theorem ggX6_isCell_X6_in : GoodIn wsX6_isCell wsX6_in := goodIn_r _ [5] (by decide +kernel) (by decide +kernel)
set_option maxRecDepth 20000 in
theorem gX6_isCell_X6_in : GoodIn wsX6_isCell (va_wsS RX6 50 yX6_in wsX6_in) := goodIn_app (goodIn_of _ (by decide +kernel)) ggX6_isCell_X6_in
theorem dX6_isCell_0 : decode cX6_isCell 0 = .ok (.iload_n 0, 1) := by decide +kernel
theorem dX6_isCell_1 : decode cX6_isCell 1 = .ok (.i2l, 1) := by decide +kernel
theorem dX6_isCell_2 : decode cX6_isCell 2 = .ok (.lconst 0, 1) := by decide +kernel
theorem dX6_isCell_3 : decode cX6_isCell 3 = .ok (.ldc2_w 119, 3) := by decide +kernel
theorem dX6_isCell_6 : decode cX6_isCell 6 = .ok (.invokestatic 50, 3) := by decide +kernel
theorem dX6_isCell_9 : decode cX6_isCell 9 = .ok (.ireturn, 1) := by decide +kernel
theorem dX6_apart_0 : decode cX6_apart 0 = .ok (.iload_n 0, 1) := by decide +kernel
theorem dX6_apart_1 : decode cX6_apart 1 = .ok (.iload_n 1, 1) := by decide +kernel
theorem dX6_apart_2 : decode cX6_apart 2 = .ok (.if_icmp .le 9, 3) := by decide +kernel
theorem dX6_apart_5 : decode cX6_apart 5 = .ok (.iload_n 0, 1) := by decide +kernel
theorem dX6_apart_6 : decode cX6_apart 6 = .ok (.iload_n 1, 1) := by decide +kernel
theorem dX6_apart_7 : decode cX6_apart 7 = .ok (.isub, 1) := by decide +kernel
theorem dX6_apart_8 : decode cX6_apart 8 = .ok (.goto 6, 3) := by decide +kernel
theorem dX6_apart_11 : decode cX6_apart 11 = .ok (.iload_n 1, 1) := by decide +kernel
theorem dX6_apart_12 : decode cX6_apart 12 = .ok (.iload_n 0, 1) := by decide +kernel
theorem dX6_apart_13 : decode cX6_apart 13 = .ok (.isub, 1) := by decide +kernel
theorem dX6_apart_14 : decode cX6_apart 14 = .ok (.ireturn, 1) := by decide +kernel
set_option maxRecDepth 20000 in
theorem ggX6_farOf_X6_apart : GoodIn wsX6_farOf wsX6_apart := goodIn_r _ [4] (by decide +kernel) (by decide +kernel)
set_option maxRecDepth 20000 in
theorem gX6_farOf_X6_apart : GoodIn wsX6_farOf (va_wsS RX6 121 yX6_apart wsX6_apart) := goodIn_app (goodIn_of _ (by decide +kernel)) ggX6_farOf_X6_apart
theorem dX6_farOf_0 : decode cX6_farOf 0 = .ok (.iload_n 0, 1) := by decide +kernel
theorem dX6_farOf_1 : decode cX6_farOf 1 = .ok (.bipush 10, 2) := by decide +kernel
theorem dX6_farOf_3 : decode cX6_farOf 3 = .ok (.idiv, 1) := by decide +kernel
theorem dX6_farOf_4 : decode cX6_farOf 4 = .ok (.iload_n 1, 1) := by decide +kernel
theorem dX6_farOf_5 : decode cX6_farOf 5 = .ok (.bipush 10, 2) := by decide +kernel
theorem dX6_farOf_7 : decode cX6_farOf 7 = .ok (.idiv, 1) := by decide +kernel
theorem dX6_farOf_8 : decode cX6_farOf 8 = .ok (.invokestatic 121, 3) := by decide +kernel
theorem dX6_farOf_11 : decode cX6_farOf 11 = .ok (.iload_n 0, 1) := by decide +kernel
theorem dX6_farOf_12 : decode cX6_farOf 12 = .ok (.bipush 10, 2) := by decide +kernel
theorem dX6_farOf_14 : decode cX6_farOf 14 = .ok (.irem, 1) := by decide +kernel
theorem dX6_farOf_15 : decode cX6_farOf 15 = .ok (.iload_n 1, 1) := by decide +kernel
theorem dX6_farOf_16 : decode cX6_farOf 16 = .ok (.bipush 10, 2) := by decide +kernel
theorem dX6_farOf_18 : decode cX6_farOf 18 = .ok (.irem, 1) := by decide +kernel
theorem dX6_farOf_19 : decode cX6_farOf 19 = .ok (.invokestatic 121, 3) := by decide +kernel
theorem dX6_farOf_22 : decode cX6_farOf 22 = .ok (.iadd, 1) := by decide +kernel
theorem dX6_farOf_23 : decode cX6_farOf 23 = .ok (.ireturn, 1) := by decide +kernel
theorem dX6_pointOn_0 : decode cX6_pointOn 0 = .ok (.aload_n 0, 1) := by decide +kernel
theorem dX6_pointOn_1 : decode cX6_pointOn 1 = .ok (.getfield 7, 3) := by decide +kernel
theorem dX6_pointOn_4 : decode cX6_pointOn 4 = .ok (.iload_n 1, 1) := by decide +kernel
theorem dX6_pointOn_5 : decode cX6_pointOn 5 = .ok (.bipush 22, 2) := by decide +kernel
theorem dX6_pointOn_7 : decode cX6_pointOn 7 = .ok (.iadd, 1) := by decide +kernel
theorem dX6_pointOn_8 : decode cX6_pointOn 8 = .ok (.iaload, 1) := by decide +kernel
theorem dX6_pointOn_9 : decode cX6_pointOn 9 = .ok (.bipush 44, 2) := by decide +kernel
theorem dX6_pointOn_11 : decode cX6_pointOn 11 = .ok (.iadd, 1) := by decide +kernel
theorem dX6_pointOn_12 : decode cX6_pointOn 12 = .ok (.ireturn, 1) := by decide +kernel
set_option maxRecDepth 20000 in
theorem ggX6_leanOn_X6_pointOn : GoodIn wsX6_leanOn wsX6_pointOn := goodIn_r _ [6, 1, 13, 14, 15, 16, 17, 18, 19, 20, 21, 22, 23, 24, 25, 26, 27, 28, 29, 30, 31, 32, 33, 34, 35, 36, 37, 38] (by decide +kernel) (by decide +kernel)
set_option maxRecDepth 20000 in
theorem gX6_leanOn_X6_pointOn : GoodIn wsX6_leanOn (wsV RX6 124 RX6 yX6_pointOn wsX6_pointOn) := goodIn_app (goodIn_of _ (by decide +kernel)) ggX6_leanOn_X6_pointOn
set_option maxRecDepth 20000 in
theorem ggX6_leanOn_X6_farOf : GoodIn wsX6_leanOn wsX6_farOf := goodIn_r _ [9, 10, 11, 5, 12] (by decide +kernel) (by decide +kernel)
set_option maxRecDepth 20000 in
theorem gX6_leanOn_X6_farOf : GoodIn wsX6_leanOn (va_wsS RX6 127 yX6_farOf wsX6_farOf) := goodIn_app (goodIn_of _ (by decide +kernel)) ggX6_leanOn_X6_farOf
theorem dX6_leanOn_0 : decode cX6_leanOn 0 = .ok (.aload_n 0, 1) := by decide +kernel
theorem dX6_leanOn_1 : decode cX6_leanOn 1 = .ok (.iload_n 1, 1) := by decide +kernel
theorem dX6_leanOn_2 : decode cX6_leanOn 2 = .ok (.invokevirtual 124, 3) := by decide +kernel
theorem dX6_leanOn_5 : decode cX6_leanOn 5 = .ok (.aload_n 0, 1) := by decide +kernel
theorem dX6_leanOn_6 : decode cX6_leanOn 6 = .ok (.getfield 7, 3) := by decide +kernel
theorem dX6_leanOn_9 : decode cX6_leanOn 9 = .ok (.iload_n 1, 1) := by decide +kernel
theorem dX6_leanOn_10 : decode cX6_leanOn 10 = .ok (.bipush 21, 2) := by decide +kernel
theorem dX6_leanOn_12 : decode cX6_leanOn 12 = .ok (.iadd, 1) := by decide +kernel
theorem dX6_leanOn_13 : decode cX6_leanOn 13 = .ok (.iaload, 1) := by decide +kernel
theorem dX6_leanOn_14 : decode cX6_leanOn 14 = .ok (.bipush 44, 2) := by decide +kernel
theorem dX6_leanOn_16 : decode cX6_leanOn 16 = .ok (.iadd, 1) := by decide +kernel
theorem dX6_leanOn_17 : decode cX6_leanOn 17 = .ok (.invokestatic 127, 3) := by decide +kernel
theorem dX6_leanOn_20 : decode cX6_leanOn 20 = .ok (.ireturn, 1) := by decide +kernel
set_option maxRecDepth 20000 in
theorem ggX6_isFallenOn_X6_leanOn : GoodIn wsX6_isFallenOn wsX6_leanOn := goodIn_r _ [6, 1, 7, 8, 9, 5, 10, 11, 12, 13, 14, 15, 16, 17, 18, 19, 20, 21, 22, 23, 24, 25, 26, 27, 28, 29, 30, 31, 32, 33, 34, 35, 36, 37, 38, 39, 40, 41, 42] (by decide +kernel) (by decide +kernel)
set_option maxRecDepth 20000 in
theorem gX6_isFallenOn_X6_leanOn : GoodIn wsX6_isFallenOn (wsV RX6 130 RX6 yX6_leanOn wsX6_leanOn) := goodIn_app (goodIn_of _ (by decide +kernel)) ggX6_isFallenOn_X6_leanOn
theorem dX6_isFallenOn_0 : decode cX6_isFallenOn 0 = .ok (.aload_n 0, 1) := by decide +kernel
theorem dX6_isFallenOn_1 : decode cX6_isFallenOn 1 = .ok (.iload_n 1, 1) := by decide +kernel
theorem dX6_isFallenOn_2 : decode cX6_isFallenOn 2 = .ok (.invokevirtual 130, 3) := by decide +kernel
theorem dX6_isFallenOn_5 : decode cX6_isFallenOn 5 = .ok (.aload_n 0, 1) := by decide +kernel
theorem dX6_isFallenOn_6 : decode cX6_isFallenOn 6 = .ok (.getfield 7, 3) := by decide +kernel
theorem dX6_isFallenOn_9 : decode cX6_isFallenOn 9 = .ok (.iload_n 1, 1) := by decide +kernel
theorem dX6_isFallenOn_10 : decode cX6_isFallenOn 10 = .ok (.bipush 24, 2) := by decide +kernel
theorem dX6_isFallenOn_12 : decode cX6_isFallenOn 12 = .ok (.iadd, 1) := by decide +kernel
theorem dX6_isFallenOn_13 : decode cX6_isFallenOn 13 = .ok (.iaload, 1) := by decide +kernel
theorem dX6_isFallenOn_14 : decode cX6_isFallenOn 14 = .ok (.bipush 9, 2) := by decide +kernel
theorem dX6_isFallenOn_16 : decode cX6_isFallenOn 16 = .ok (.iadd, 1) := by decide +kernel
theorem dX6_isFallenOn_17 : decode cX6_isFallenOn 17 = .ok (.if_icmp .le 7, 3) := by decide +kernel
theorem dX6_isFallenOn_20 : decode cX6_isFallenOn 20 = .ok (.iconst 1, 1) := by decide +kernel
theorem dX6_isFallenOn_21 : decode cX6_isFallenOn 21 = .ok (.goto 4, 3) := by decide +kernel
theorem dX6_isFallenOn_24 : decode cX6_isFallenOn 24 = .ok (.iconst 0, 1) := by decide +kernel
theorem dX6_isFallenOn_25 : decode cX6_isFallenOn 25 = .ok (.ireturn, 1) := by decide +kernel
theorem dX6_strengthOn_0 : decode cX6_strengthOn 0 = .ok (.aload_n 0, 1) := by decide +kernel
theorem dX6_strengthOn_1 : decode cX6_strengthOn 1 = .ok (.getfield 7, 3) := by decide +kernel
theorem dX6_strengthOn_4 : decode cX6_strengthOn 4 = .ok (.iload_n 1, 1) := by decide +kernel
theorem dX6_strengthOn_5 : decode cX6_strengthOn 5 = .ok (.iload_n 2, 1) := by decide +kernel
theorem dX6_strengthOn_6 : decode cX6_strengthOn 6 = .ok (.iadd, 1) := by decide +kernel
theorem dX6_strengthOn_7 : decode cX6_strengthOn 7 = .ok (.iaload, 1) := by decide +kernel
theorem dX6_strengthOn_8 : decode cX6_strengthOn 8 = .ok (.istore_n 3, 1) := by decide +kernel
theorem dX6_strengthOn_9 : decode cX6_strengthOn 9 = .ok (.aload_n 0, 1) := by decide +kernel
theorem dX6_strengthOn_10 : decode cX6_strengthOn 10 = .ok (.getfield 7, 3) := by decide +kernel
theorem dX6_strengthOn_13 : decode cX6_strengthOn 13 = .ok (.iload_n 1, 1) := by decide +kernel
theorem dX6_strengthOn_14 : decode cX6_strengthOn 14 = .ok (.iconst 5, 1) := by decide +kernel
theorem dX6_strengthOn_15 : decode cX6_strengthOn 15 = .ok (.iadd, 1) := by decide +kernel
theorem dX6_strengthOn_16 : decode cX6_strengthOn 16 = .ok (.iload_n 2, 1) := by decide +kernel
theorem dX6_strengthOn_17 : decode cX6_strengthOn 17 = .ok (.iadd, 1) := by decide +kernel
theorem dX6_strengthOn_18 : decode cX6_strengthOn 18 = .ok (.iaload, 1) := by decide +kernel
theorem dX6_strengthOn_19 : decode cX6_strengthOn 19 = .ok (.istore 4, 2) := by decide +kernel
theorem dX6_strengthOn_21 : decode cX6_strengthOn 21 = .ok (.iload 4, 2) := by decide +kernel
theorem dX6_strengthOn_23 : decode cX6_strengthOn 23 = .ok (.iconst 1, 1) := by decide +kernel
theorem dX6_strengthOn_24 : decode cX6_strengthOn 24 = .ok (.iadd, 1) := by decide +kernel
theorem dX6_strengthOn_25 : decode cX6_strengthOn 25 = .ok (.iconst 2, 1) := by decide +kernel
theorem dX6_strengthOn_26 : decode cX6_strengthOn 26 = .ok (.idiv, 1) := by decide +kernel
theorem dX6_strengthOn_27 : decode cX6_strengthOn 27 = .ok (.istore 5, 2) := by decide +kernel
theorem dX6_strengthOn_29 : decode cX6_strengthOn 29 = .ok (.iload_n 3, 1) := by decide +kernel
theorem dX6_strengthOn_30 : decode cX6_strengthOn 30 = .ok (.ifCond .ne 8, 3) := by decide +kernel
theorem dX6_strengthOn_33 : decode cX6_strengthOn 33 = .ok (.iload 4, 2) := by decide +kernel
theorem dX6_strengthOn_35 : decode cX6_strengthOn 35 = .ok (.goto 29, 3) := by decide +kernel
theorem dX6_strengthOn_38 : decode cX6_strengthOn 38 = .ok (.iload_n 3, 1) := by decide +kernel
theorem dX6_strengthOn_39 : decode cX6_strengthOn 39 = .ok (.iconst 1, 1) := by decide +kernel
theorem dX6_strengthOn_40 : decode cX6_strengthOn 40 = .ok (.if_icmp .ne 8, 3) := by decide +kernel
theorem dX6_strengthOn_43 : decode cX6_strengthOn 43 = .ok (.iload 5, 2) := by decide +kernel
theorem dX6_strengthOn_45 : decode cX6_strengthOn 45 = .ok (.goto 19, 3) := by decide +kernel
theorem dX6_strengthOn_48 : decode cX6_strengthOn 48 = .ok (.iload_n 3, 1) := by decide +kernel
theorem dX6_strengthOn_49 : decode cX6_strengthOn 49 = .ok (.iconst 2, 1) := by decide +kernel
theorem dX6_strengthOn_50 : decode cX6_strengthOn 50 = .ok (.if_icmp .ne 10, 3) := by decide +kernel
theorem dX6_strengthOn_53 : decode cX6_strengthOn 53 = .ok (.iload 5, 2) := by decide +kernel
theorem dX6_strengthOn_55 : decode cX6_strengthOn 55 = .ok (.iconst 1, 1) := by decide +kernel
theorem dX6_strengthOn_56 : decode cX6_strengthOn 56 = .ok (.iadd, 1) := by decide +kernel
theorem dX6_strengthOn_57 : decode cX6_strengthOn 57 = .ok (.goto 7, 3) := by decide +kernel
theorem dX6_strengthOn_60 : decode cX6_strengthOn 60 = .ok (.iconst 3, 1) := by decide +kernel
theorem dX6_strengthOn_61 : decode cX6_strengthOn 61 = .ok (.iload 5, 2) := by decide +kernel
theorem dX6_strengthOn_63 : decode cX6_strengthOn 63 = .ok (.imul, 1) := by decide +kernel
theorem dX6_strengthOn_64 : decode cX6_strengthOn 64 = .ok (.ireturn, 1) := by decide +kernel
set_option maxRecDepth 20000 in
theorem ggX6_forceOn_X6_strengthOn : GoodIn wsX6_forceOn wsX6_strengthOn := goodIn_r _ [7, 2, 18, 19, 20, 21, 22, 23, 24, 25, 26, 27, 28, 29, 30, 31, 32, 33, 34, 35, 36, 37, 38, 39, 40, 41, 42, 43] (by decide +kernel) (by decide +kernel)
set_option maxRecDepth 20000 in
theorem gX6_forceOn_X6_strengthOn : GoodIn wsX6_forceOn (wsV RX6 133 RX6 yX6_strengthOn wsX6_strengthOn) := goodIn_app (goodIn_of _ (by decide +kernel)) ggX6_forceOn_X6_strengthOn
set_option maxRecDepth 20000 in
theorem ggX6_forceOn_X6_pointOn : GoodIn wsX6_forceOn wsX6_pointOn := goodIn_r _ [11, 2, 18, 19, 20, 21, 22, 23, 24, 25, 26, 27, 28, 29, 30, 31, 32, 33, 34, 35, 36, 37, 38, 39, 40, 41, 42, 43] (by decide +kernel) (by decide +kernel)
set_option maxRecDepth 20000 in
theorem gX6_forceOn_X6_pointOn : GoodIn wsX6_forceOn (wsV RX6 124 RX6 yX6_pointOn wsX6_pointOn) := goodIn_app (goodIn_of _ (by decide +kernel)) ggX6_forceOn_X6_pointOn
set_option maxRecDepth 20000 in
theorem ggX6_forceOn_X6_farOf : GoodIn wsX6_forceOn wsX6_farOf := goodIn_r _ [14, 15, 16, 6, 17] (by decide +kernel) (by decide +kernel)
set_option maxRecDepth 20000 in
theorem gX6_forceOn_X6_farOf : GoodIn wsX6_forceOn (va_wsS RX6 127 yX6_farOf wsX6_farOf) := goodIn_app (goodIn_of _ (by decide +kernel)) ggX6_forceOn_X6_farOf
theorem dX6_forceOn_0 : decode cX6_forceOn 0 = .ok (.iload_n 2, 1) := by decide +kernel
theorem dX6_forceOn_1 : decode cX6_forceOn 1 = .ok (.aload_n 0, 1) := by decide +kernel
theorem dX6_forceOn_2 : decode cX6_forceOn 2 = .ok (.getfield 25, 3) := by decide +kernel
theorem dX6_forceOn_5 : decode cX6_forceOn 5 = .ok (.if_icmp .eq 26, 3) := by decide +kernel
theorem dX6_forceOn_8 : decode cX6_forceOn 8 = .ok (.aload_n 0, 1) := by decide +kernel
theorem dX6_forceOn_9 : decode cX6_forceOn 9 = .ok (.getfield 7, 3) := by decide +kernel
theorem dX6_forceOn_12 : decode cX6_forceOn 12 = .ok (.iload_n 1, 1) := by decide +kernel
theorem dX6_forceOn_13 : decode cX6_forceOn 13 = .ok (.bipush 25, 2) := by decide +kernel
theorem dX6_forceOn_15 : decode cX6_forceOn 15 = .ok (.iadd, 1) := by decide +kernel
theorem dX6_forceOn_16 : decode cX6_forceOn 16 = .ok (.iaload, 1) := by decide +kernel
theorem dX6_forceOn_17 : decode cX6_forceOn 17 = .ok (.aload_n 0, 1) := by decide +kernel
theorem dX6_forceOn_18 : decode cX6_forceOn 18 = .ok (.getfield 7, 3) := by decide +kernel
theorem dX6_forceOn_21 : decode cX6_forceOn 21 = .ok (.iload_n 1, 1) := by decide +kernel
theorem dX6_forceOn_22 : decode cX6_forceOn 22 = .ok (.bipush 15, 2) := by decide +kernel
theorem dX6_forceOn_24 : decode cX6_forceOn 24 = .ok (.iadd, 1) := by decide +kernel
theorem dX6_forceOn_25 : decode cX6_forceOn 25 = .ok (.iload_n 2, 1) := by decide +kernel
theorem dX6_forceOn_26 : decode cX6_forceOn 26 = .ok (.iadd, 1) := by decide +kernel
theorem dX6_forceOn_27 : decode cX6_forceOn 27 = .ok (.iaload, 1) := by decide +kernel
theorem dX6_forceOn_28 : decode cX6_forceOn 28 = .ok (.if_icmp .ge 5, 3) := by decide +kernel
theorem dX6_forceOn_31 : decode cX6_forceOn 31 = .ok (.iconst 0, 1) := by decide +kernel
theorem dX6_forceOn_32 : decode cX6_forceOn 32 = .ok (.ireturn, 1) := by decide +kernel
theorem dX6_forceOn_33 : decode cX6_forceOn 33 = .ok (.bipush 60, 2) := by decide +kernel
theorem dX6_forceOn_35 : decode cX6_forceOn 35 = .ok (.aload_n 0, 1) := by decide +kernel
theorem dX6_forceOn_36 : decode cX6_forceOn 36 = .ok (.iload_n 1, 1) := by decide +kernel
theorem dX6_forceOn_37 : decode cX6_forceOn 37 = .ok (.iload_n 2, 1) := by decide +kernel
theorem dX6_forceOn_38 : decode cX6_forceOn 38 = .ok (.invokevirtual 133, 3) := by decide +kernel
theorem dX6_forceOn_41 : decode cX6_forceOn 41 = .ok (.imul, 1) := by decide +kernel
theorem dX6_forceOn_42 : decode cX6_forceOn 42 = .ok (.iconst 1, 1) := by decide +kernel
theorem dX6_forceOn_43 : decode cX6_forceOn 43 = .ok (.aload_n 0, 1) := by decide +kernel
theorem dX6_forceOn_44 : decode cX6_forceOn 44 = .ok (.getfield 7, 3) := by decide +kernel
theorem dX6_forceOn_47 : decode cX6_forceOn 47 = .ok (.iload_n 1, 1) := by decide +kernel
theorem dX6_forceOn_48 : decode cX6_forceOn 48 = .ok (.bipush 10, 2) := by decide +kernel
theorem dX6_forceOn_50 : decode cX6_forceOn 50 = .ok (.iadd, 1) := by decide +kernel
theorem dX6_forceOn_51 : decode cX6_forceOn 51 = .ok (.iload_n 2, 1) := by decide +kernel
theorem dX6_forceOn_52 : decode cX6_forceOn 52 = .ok (.iadd, 1) := by decide +kernel
theorem dX6_forceOn_53 : decode cX6_forceOn 53 = .ok (.iaload, 1) := by decide +kernel
theorem dX6_forceOn_54 : decode cX6_forceOn 54 = .ok (.aload_n 0, 1) := by decide +kernel
theorem dX6_forceOn_55 : decode cX6_forceOn 55 = .ok (.iload_n 1, 1) := by decide +kernel
theorem dX6_forceOn_56 : decode cX6_forceOn 56 = .ok (.invokevirtual 124, 3) := by decide +kernel
theorem dX6_forceOn_59 : decode cX6_forceOn 59 = .ok (.invokestatic 127, 3) := by decide +kernel
theorem dX6_forceOn_62 : decode cX6_forceOn 62 = .ok (.iadd, 1) := by decide +kernel
theorem dX6_forceOn_63 : decode cX6_forceOn 63 = .ok (.idiv, 1) := by decide +kernel
theorem dX6_forceOn_64 : decode cX6_forceOn 64 = .ok (.ireturn, 1) := by decide +kernel
set_option maxRecDepth 20000 in
theorem ggX6_backOn_X6_leanOn : GoodIn wsX6_backOn wsX6_leanOn := goodIn_r _ [6, 1, 7, 8, 9, 5, 10, 11, 12, 13, 14, 15, 16, 17, 18, 19, 20, 21, 22, 23, 24, 25, 26, 27, 28, 29, 30, 31, 32, 33, 34, 35, 36, 37, 38, 39, 40, 41, 42] (by decide +kernel) (by decide +kernel)
set_option maxRecDepth 20000 in
theorem gX6_backOn_X6_leanOn : GoodIn wsX6_backOn (wsV RX6 130 RX6 yX6_leanOn wsX6_leanOn) := goodIn_app (goodIn_of _ (by decide +kernel)) ggX6_backOn_X6_leanOn
theorem dX6_backOn_0 : decode cX6_backOn 0 = .ok (.aload_n 0, 1) := by decide +kernel
theorem dX6_backOn_1 : decode cX6_backOn 1 = .ok (.getfield 7, 3) := by decide +kernel
theorem dX6_backOn_4 : decode cX6_backOn 4 = .ok (.iload_n 1, 1) := by decide +kernel
theorem dX6_backOn_5 : decode cX6_backOn 5 = .ok (.bipush 23, 2) := by decide +kernel
theorem dX6_backOn_7 : decode cX6_backOn 7 = .ok (.iadd, 1) := by decide +kernel
theorem dX6_backOn_8 : decode cX6_backOn 8 = .ok (.iaload, 1) := by decide +kernel
theorem dX6_backOn_9 : decode cX6_backOn 9 = .ok (.iconst 2, 1) := by decide +kernel
theorem dX6_backOn_10 : decode cX6_backOn 10 = .ok (.iadd, 1) := by decide +kernel
theorem dX6_backOn_11 : decode cX6_backOn 11 = .ok (.aload_n 0, 1) := by decide +kernel
theorem dX6_backOn_12 : decode cX6_backOn 12 = .ok (.iload_n 1, 1) := by decide +kernel
theorem dX6_backOn_13 : decode cX6_backOn 13 = .ok (.invokevirtual 130, 3) := by decide +kernel
theorem dX6_backOn_16 : decode cX6_backOn 16 = .ok (.imul, 1) := by decide +kernel
theorem dX6_backOn_17 : decode cX6_backOn 17 = .ok (.ireturn, 1) := by decide +kernel
set_option maxRecDepth 20000 in
theorem ggX6_holderOn_X6_backOn : GoodIn wsX6_holderOn wsX6_backOn := goodIn_r _ [6, 1, 7, 8, 9, 5, 10, 11, 12, 13, 14, 15, 16, 17, 18, 19, 20, 34, 35, 36, 37, 38, 39, 40, 41, 42, 43, 44, 45, 46, 47, 48, 49, 50, 51, 52, 53, 54, 55, 56, 57, 58, 59] (by decide +kernel) (by decide +kernel)
set_option maxRecDepth 20000 in
theorem gX6_holderOn_X6_backOn : GoodIn wsX6_holderOn (wsV RX6 136 RX6 yX6_backOn wsX6_backOn) := goodIn_app (goodIn_of _ (by decide +kernel)) ggX6_holderOn_X6_backOn
set_option maxRecDepth 20000 in
theorem ggX6_holderOn_X6_isFallenOn : GoodIn wsX6_holderOn wsX6_isFallenOn := goodIn_r _ [24, 1, 7, 8, 9, 5, 10, 11, 12, 13, 14, 15, 16, 17, 18, 19, 20, 34, 35, 36, 37, 38, 39, 40, 41, 42, 43, 44, 45, 46, 47, 48, 49, 50, 51, 52, 53, 54, 55, 56, 57, 58, 59] (by decide +kernel) (by decide +kernel)
set_option maxRecDepth 20000 in
theorem gX6_holderOn_X6_isFallenOn : GoodIn wsX6_holderOn (wsV RX6 139 RX6 yX6_isFallenOn wsX6_isFallenOn) := goodIn_app (goodIn_of _ (by decide +kernel)) ggX6_holderOn_X6_isFallenOn
set_option maxRecDepth 20000 in
theorem ggX6_holderOn_X6_forceOn : GoodIn wsX6_holderOn wsX6_forceOn := goodIn_r _ [28, 29, 1, 30, 31, 32, 5, 33, 11, 12, 13, 14, 15, 16, 17, 18, 19, 20, 34, 35, 36, 37, 38, 39, 40, 41, 42, 43, 44, 45, 46, 47, 48, 49, 50, 51, 52, 53, 54, 55, 56, 57, 58, 59] (by decide +kernel) (by decide +kernel)
set_option maxRecDepth 20000 in
theorem gX6_holderOn_X6_forceOn : GoodIn wsX6_holderOn (wsV RX6 143 RX6 yX6_forceOn wsX6_forceOn) := goodIn_app (goodIn_of _ (by decide +kernel)) ggX6_holderOn_X6_forceOn
theorem dX6_holderOn_0 : decode cX6_holderOn 0 = .ok (.bipush (-4), 2) := by decide +kernel
theorem dX6_holderOn_2 : decode cX6_holderOn 2 = .ok (.istore_n 2, 1) := by decide +kernel
theorem dX6_holderOn_3 : decode cX6_holderOn 3 = .ok (.aload_n 0, 1) := by decide +kernel
theorem dX6_holderOn_4 : decode cX6_holderOn 4 = .ok (.iload_n 1, 1) := by decide +kernel
theorem dX6_holderOn_5 : decode cX6_holderOn 5 = .ok (.invokevirtual 136, 3) := by decide +kernel
theorem dX6_holderOn_8 : decode cX6_holderOn 8 = .ok (.istore_n 3, 1) := by decide +kernel
theorem dX6_holderOn_9 : decode cX6_holderOn 9 = .ok (.iconst 0, 1) := by decide +kernel
theorem dX6_holderOn_10 : decode cX6_holderOn 10 = .ok (.istore 4, 2) := by decide +kernel
theorem dX6_holderOn_12 : decode cX6_holderOn 12 = .ok (.iload 4, 2) := by decide +kernel
theorem dX6_holderOn_14 : decode cX6_holderOn 14 = .ok (.aload_n 0, 1) := by decide +kernel
theorem dX6_holderOn_15 : decode cX6_holderOn 15 = .ok (.getfield 7, 3) := by decide +kernel
theorem dX6_holderOn_18 : decode cX6_holderOn 18 = .ok (.iload_n 1, 1) := by decide +kernel
theorem dX6_holderOn_19 : decode cX6_holderOn 19 = .ok (.bipush 20, 2) := by decide +kernel
theorem dX6_holderOn_21 : decode cX6_holderOn 21 = .ok (.iadd, 1) := by decide +kernel
theorem dX6_holderOn_22 : decode cX6_holderOn 22 = .ok (.iaload, 1) := by decide +kernel
theorem dX6_holderOn_23 : decode cX6_holderOn 23 = .ok (.if_icmp .ge 52, 3) := by decide +kernel
theorem dX6_holderOn_26 : decode cX6_holderOn 26 = .ok (.aload_n 0, 1) := by decide +kernel
theorem dX6_holderOn_27 : decode cX6_holderOn 27 = .ok (.iload_n 1, 1) := by decide +kernel
theorem dX6_holderOn_28 : decode cX6_holderOn 28 = .ok (.invokevirtual 139, 3) := by decide +kernel
theorem dX6_holderOn_31 : decode cX6_holderOn 31 = .ok (.ifCond .ne 44, 3) := by decide +kernel
theorem dX6_holderOn_34 : decode cX6_holderOn 34 = .ok (.aload_n 0, 1) := by decide +kernel
theorem dX6_holderOn_35 : decode cX6_holderOn 35 = .ok (.iload_n 1, 1) := by decide +kernel
theorem dX6_holderOn_36 : decode cX6_holderOn 36 = .ok (.iload 4, 2) := by decide +kernel
theorem dX6_holderOn_38 : decode cX6_holderOn 38 = .ok (.invokevirtual 143, 3) := by decide +kernel
theorem dX6_holderOn_41 : decode cX6_holderOn 41 = .ok (.istore 5, 2) := by decide +kernel
theorem dX6_holderOn_43 : decode cX6_holderOn 43 = .ok (.iload 5, 2) := by decide +kernel
theorem dX6_holderOn_45 : decode cX6_holderOn 45 = .ok (.iload_n 3, 1) := by decide +kernel
theorem dX6_holderOn_46 : decode cX6_holderOn 46 = .ok (.if_icmp .le 8, 3) := by decide +kernel
theorem dX6_holderOn_49 : decode cX6_holderOn 49 = .ok (.iload 4, 2) := by decide +kernel
theorem dX6_holderOn_51 : decode cX6_holderOn 51 = .ok (.goto 4, 3) := by decide +kernel
theorem dX6_holderOn_54 : decode cX6_holderOn 54 = .ok (.iload_n 2, 1) := by decide +kernel
theorem dX6_holderOn_55 : decode cX6_holderOn 55 = .ok (.istore_n 2, 1) := by decide +kernel
theorem dX6_holderOn_56 : decode cX6_holderOn 56 = .ok (.iload 5, 2) := by decide +kernel
theorem dX6_holderOn_58 : decode cX6_holderOn 58 = .ok (.iload_n 3, 1) := by decide +kernel
theorem dX6_holderOn_59 : decode cX6_holderOn 59 = .ok (.if_icmp .le 8, 3) := by decide +kernel
theorem dX6_holderOn_62 : decode cX6_holderOn 62 = .ok (.iload 5, 2) := by decide +kernel
theorem dX6_holderOn_64 : decode cX6_holderOn 64 = .ok (.goto 4, 3) := by decide +kernel
theorem dX6_holderOn_67 : decode cX6_holderOn 67 = .ok (.iload_n 3, 1) := by decide +kernel
theorem dX6_holderOn_68 : decode cX6_holderOn 68 = .ok (.istore_n 3, 1) := by decide +kernel
theorem dX6_holderOn_69 : decode cX6_holderOn 69 = .ok (.iinc 4 1, 3) := by decide +kernel
theorem dX6_holderOn_72 : decode cX6_holderOn 72 = .ok (.goto (-60), 3) := by decide +kernel
theorem dX6_holderOn_75 : decode cX6_holderOn 75 = .ok (.iload_n 2, 1) := by decide +kernel
theorem dX6_holderOn_76 : decode cX6_holderOn 76 = .ok (.ireturn, 1) := by decide +kernel
set_option maxRecDepth 20000 in
theorem ggX6_goesOn_X6_pointOn : GoodIn wsX6_goesOn wsX6_pointOn := goodIn_r _ [6, 1, 10, 11, 12, 13, 14, 15, 16, 17, 18, 19, 20, 21, 22, 23, 24, 25, 26, 27, 28, 29, 30, 31, 32, 33, 34, 35] (by decide +kernel) (by decide +kernel)
set_option maxRecDepth 20000 in
theorem gX6_goesOn_X6_pointOn : GoodIn wsX6_goesOn (wsV RX6 124 RX6 yX6_pointOn wsX6_pointOn) := goodIn_app (goodIn_of _ (by decide +kernel)) ggX6_goesOn_X6_pointOn
set_option maxRecDepth 20000 in
theorem ggX6_goesOn_X6_apart : GoodIn wsX6_goesOn wsX6_apart := goodIn_r _ [9] (by decide +kernel) (by decide +kernel)
set_option maxRecDepth 20000 in
theorem gX6_goesOn_X6_apart : GoodIn wsX6_goesOn (va_wsS RX6 121 yX6_apart wsX6_apart) := goodIn_app (goodIn_of _ (by decide +kernel)) ggX6_goesOn_X6_apart
theorem dX6_goesOn_0 : decode cX6_goesOn 0 = .ok (.aload_n 0, 1) := by decide +kernel
theorem dX6_goesOn_1 : decode cX6_goesOn 1 = .ok (.iload_n 1, 1) := by decide +kernel
theorem dX6_goesOn_2 : decode cX6_goesOn 2 = .ok (.invokevirtual 124, 3) := by decide +kernel
theorem dX6_goesOn_5 : decode cX6_goesOn 5 = .ok (.bipush 10, 2) := by decide +kernel
theorem dX6_goesOn_7 : decode cX6_goesOn 7 = .ok (.idiv, 1) := by decide +kernel
theorem dX6_goesOn_8 : decode cX6_goesOn 8 = .ok (.istore_n 3, 1) := by decide +kernel
theorem dX6_goesOn_9 : decode cX6_goesOn 9 = .ok (.aload_n 0, 1) := by decide +kernel
theorem dX6_goesOn_10 : decode cX6_goesOn 10 = .ok (.iload_n 1, 1) := by decide +kernel
theorem dX6_goesOn_11 : decode cX6_goesOn 11 = .ok (.invokevirtual 124, 3) := by decide +kernel
theorem dX6_goesOn_14 : decode cX6_goesOn 14 = .ok (.bipush 10, 2) := by decide +kernel
theorem dX6_goesOn_16 : decode cX6_goesOn 16 = .ok (.irem, 1) := by decide +kernel
theorem dX6_goesOn_17 : decode cX6_goesOn 17 = .ok (.istore 4, 2) := by decide +kernel
theorem dX6_goesOn_19 : decode cX6_goesOn 19 = .ok (.iload_n 2, 1) := by decide +kernel
theorem dX6_goesOn_20 : decode cX6_goesOn 20 = .ok (.bipush 10, 2) := by decide +kernel
theorem dX6_goesOn_22 : decode cX6_goesOn 22 = .ok (.idiv, 1) := by decide +kernel
theorem dX6_goesOn_23 : decode cX6_goesOn 23 = .ok (.istore 5, 2) := by decide +kernel
theorem dX6_goesOn_25 : decode cX6_goesOn 25 = .ok (.iload_n 2, 1) := by decide +kernel
theorem dX6_goesOn_26 : decode cX6_goesOn 26 = .ok (.bipush 10, 2) := by decide +kernel
theorem dX6_goesOn_28 : decode cX6_goesOn 28 = .ok (.irem, 1) := by decide +kernel
theorem dX6_goesOn_29 : decode cX6_goesOn 29 = .ok (.istore 6, 2) := by decide +kernel
theorem dX6_goesOn_31 : decode cX6_goesOn 31 = .ok (.iload_n 3, 1) := by decide +kernel
theorem dX6_goesOn_32 : decode cX6_goesOn 32 = .ok (.iload 5, 2) := by decide +kernel
theorem dX6_goesOn_34 : decode cX6_goesOn 34 = .ok (.invokestatic 121, 3) := by decide +kernel
theorem dX6_goesOn_37 : decode cX6_goesOn 37 = .ok (.iload 4, 2) := by decide +kernel
theorem dX6_goesOn_39 : decode cX6_goesOn 39 = .ok (.iload 6, 2) := by decide +kernel
theorem dX6_goesOn_41 : decode cX6_goesOn 41 = .ok (.invokestatic 121, 3) := by decide +kernel
theorem dX6_goesOn_44 : decode cX6_goesOn 44 = .ok (.if_icmp .lt 30, 3) := by decide +kernel
theorem dX6_goesOn_47 : decode cX6_goesOn 47 = .ok (.iload_n 3, 1) := by decide +kernel
theorem dX6_goesOn_48 : decode cX6_goesOn 48 = .ok (.iload 5, 2) := by decide +kernel
theorem dX6_goesOn_50 : decode cX6_goesOn 50 = .ok (.iload_n 3, 1) := by decide +kernel
theorem dX6_goesOn_51 : decode cX6_goesOn 51 = .ok (.if_icmp .le 7, 3) := by decide +kernel
theorem dX6_goesOn_54 : decode cX6_goesOn 54 = .ok (.iconst 1, 1) := by decide +kernel
theorem dX6_goesOn_55 : decode cX6_goesOn 55 = .ok (.goto 14, 3) := by decide +kernel
theorem dX6_goesOn_58 : decode cX6_goesOn 58 = .ok (.iload 5, 2) := by decide +kernel
theorem dX6_goesOn_60 : decode cX6_goesOn 60 = .ok (.iload_n 3, 1) := by decide +kernel
theorem dX6_goesOn_61 : decode cX6_goesOn 61 = .ok (.if_icmp .ge 7, 3) := by decide +kernel
theorem dX6_goesOn_64 : decode cX6_goesOn 64 = .ok (.iconst (-1), 1) := by decide +kernel
theorem dX6_goesOn_65 : decode cX6_goesOn 65 = .ok (.goto 4, 3) := by decide +kernel
theorem dX6_goesOn_68 : decode cX6_goesOn 68 = .ok (.iconst 0, 1) := by decide +kernel
theorem dX6_goesOn_69 : decode cX6_goesOn 69 = .ok (.iadd, 1) := by decide +kernel
theorem dX6_goesOn_70 : decode cX6_goesOn 70 = .ok (.istore_n 3, 1) := by decide +kernel
theorem dX6_goesOn_71 : decode cX6_goesOn 71 = .ok (.goto 20, 3) := by decide +kernel
theorem dX6_goesOn_74 : decode cX6_goesOn 74 = .ok (.iload 4, 2) := by decide +kernel
theorem dX6_goesOn_76 : decode cX6_goesOn 76 = .ok (.iload 6, 2) := by decide +kernel
theorem dX6_goesOn_78 : decode cX6_goesOn 78 = .ok (.iload 4, 2) := by decide +kernel
theorem dX6_goesOn_80 : decode cX6_goesOn 80 = .ok (.if_icmp .le 7, 3) := by decide +kernel
theorem dX6_goesOn_83 : decode cX6_goesOn 83 = .ok (.iconst 1, 1) := by decide +kernel
theorem dX6_goesOn_84 : decode cX6_goesOn 84 = .ok (.goto 4, 3) := by decide +kernel
theorem dX6_goesOn_87 : decode cX6_goesOn 87 = .ok (.iconst (-1), 1) := by decide +kernel
theorem dX6_goesOn_88 : decode cX6_goesOn 88 = .ok (.iadd, 1) := by decide +kernel
theorem dX6_goesOn_89 : decode cX6_goesOn 89 = .ok (.istore 4, 2) := by decide +kernel
theorem dX6_goesOn_91 : decode cX6_goesOn 91 = .ok (.aload_n 0, 1) := by decide +kernel
theorem dX6_goesOn_92 : decode cX6_goesOn 92 = .ok (.getfield 7, 3) := by decide +kernel
theorem dX6_goesOn_95 : decode cX6_goesOn 95 = .ok (.iload_n 1, 1) := by decide +kernel
theorem dX6_goesOn_96 : decode cX6_goesOn 96 = .ok (.bipush 22, 2) := by decide +kernel
theorem dX6_goesOn_98 : decode cX6_goesOn 98 = .ok (.iadd, 1) := by decide +kernel
theorem dX6_goesOn_99 : decode cX6_goesOn 99 = .ok (.bipush 10, 2) := by decide +kernel
theorem dX6_goesOn_101 : decode cX6_goesOn 101 = .ok (.iload_n 3, 1) := by decide +kernel
theorem dX6_goesOn_102 : decode cX6_goesOn 102 = .ok (.imul, 1) := by decide +kernel
theorem dX6_goesOn_103 : decode cX6_goesOn 103 = .ok (.iload 4, 2) := by decide +kernel
theorem dX6_goesOn_105 : decode cX6_goesOn 105 = .ok (.iadd, 1) := by decide +kernel
theorem dX6_goesOn_106 : decode cX6_goesOn 106 = .ok (.bipush 44, 2) := by decide +kernel
theorem dX6_goesOn_108 : decode cX6_goesOn 108 = .ok (.isub, 1) := by decide +kernel
theorem dX6_goesOn_109 : decode cX6_goesOn 109 = .ok (.iastore, 1) := by decide +kernel
theorem dX6_goesOn_110 : decode cX6_goesOn 110 = .ok (.return_, 1) := by decide +kernel
set_option maxRecDepth 20000 in
theorem ggX6_yearOn_X6_holderOn : GoodIn wsX6_yearOn wsX6_holderOn := goodIn_r _ [6, 1, 7, 8, 9, 5, 10, 11, 12, 13, 14, 15, 16, 17, 18, 19, 20, 21, 22, 23, 24, 25, 26, 27, 28, 29, 30, 31, 32, 33, 34, 35, 36, 37, 42, 43, 44, 45, 46, 47, 48, 49, 50, 51, 52, 53, 54, 55, 56, 57, 58, 59, 60, 61, 62, 63, 64, 65, 66, 67] (by decide +kernel) (by decide +kernel)
set_option maxRecDepth 20000 in
theorem gX6_yearOn_X6_holderOn : GoodIn wsX6_yearOn (wsV RX6 146 RX6 yX6_holderOn wsX6_holderOn) := goodIn_app (goodIn_of _ (by decide +kernel)) ggX6_yearOn_X6_holderOn
set_option maxRecDepth 20000 in
theorem ggX6_yearOn_X6_goesOn : GoodIn wsX6_yearOn wsX6_goesOn := goodIn_r _ [41, 1, 15, 16, 17, 5, 18, 22, 23, 24, 42, 43, 44, 45, 46, 47, 48, 49, 50, 51, 52, 53, 54, 55, 56, 57, 58, 59, 60, 61, 62, 63, 64, 65, 66, 67] (by decide +kernel) (by decide +kernel)
set_option maxRecDepth 20000 in
theorem gX6_yearOn_X6_goesOn : GoodIn wsX6_yearOn (wsV RX6 149 RX6 yX6_goesOn wsX6_goesOn) := goodIn_app (goodIn_of _ (by decide +kernel)) ggX6_yearOn_X6_goesOn
set_option maxRecDepth 20000 in
theorem ggX6_yearOn_X6_isFallenOn : GoodIn wsX6_yearOn wsX6_isFallenOn := goodIn_r _ [28, 1, 11, 12, 13, 5, 14, 15, 16, 17, 18, 19, 20, 21, 22, 23, 24, 42, 43, 44, 45, 46, 47, 48, 49, 50, 51, 52, 53, 54, 55, 56, 57, 58, 59, 60, 61, 62, 63, 64, 65, 66, 67] (by decide +kernel) (by decide +kernel)
set_option maxRecDepth 20000 in
theorem gX6_yearOn_X6_isFallenOn : GoodIn wsX6_yearOn (wsV RX6 139 RX6 yX6_isFallenOn wsX6_isFallenOn) := goodIn_app (goodIn_of _ (by decide +kernel)) ggX6_yearOn_X6_isFallenOn
set_option maxRecDepth 20000 in
theorem ggX6_yearOn_X6_leanOn : GoodIn wsX6_yearOn wsX6_leanOn := goodIn_r _ [14, 1, 15, 16, 17, 5, 18, 19, 20, 21, 22, 23, 24, 42, 43, 44, 45, 46, 47, 48, 49, 50, 51, 52, 53, 54, 55, 56, 57, 58, 59, 60, 61, 62, 63, 64, 65, 66, 67] (by decide +kernel) (by decide +kernel)
set_option maxRecDepth 20000 in
theorem gX6_yearOn_X6_leanOn : GoodIn wsX6_yearOn (wsV RX6 130 RX6 yX6_leanOn wsX6_leanOn) := goodIn_app (goodIn_of _ (by decide +kernel)) ggX6_yearOn_X6_leanOn
theorem dX6_yearOn_0 : decode cX6_yearOn 0 = .ok (.aload_n 0, 1) := by decide +kernel
theorem dX6_yearOn_1 : decode cX6_yearOn 1 = .ok (.iload_n 1, 1) := by decide +kernel
theorem dX6_yearOn_2 : decode cX6_yearOn 2 = .ok (.invokevirtual 146, 3) := by decide +kernel
theorem dX6_yearOn_5 : decode cX6_yearOn 5 = .ok (.istore_n 2, 1) := by decide +kernel
theorem dX6_yearOn_6 : decode cX6_yearOn 6 = .ok (.iload_n 2, 1) := by decide +kernel
theorem dX6_yearOn_7 : decode cX6_yearOn 7 = .ok (.bipush (-4), 2) := by decide +kernel
theorem dX6_yearOn_9 : decode cX6_yearOn 9 = .ok (.if_icmp .eq 22, 3) := by decide +kernel
theorem dX6_yearOn_12 : decode cX6_yearOn 12 = .ok (.aload_n 0, 1) := by decide +kernel
theorem dX6_yearOn_13 : decode cX6_yearOn 13 = .ok (.iload_n 1, 1) := by decide +kernel
theorem dX6_yearOn_14 : decode cX6_yearOn 14 = .ok (.aload_n 0, 1) := by decide +kernel
theorem dX6_yearOn_15 : decode cX6_yearOn 15 = .ok (.getfield 7, 3) := by decide +kernel
theorem dX6_yearOn_18 : decode cX6_yearOn 18 = .ok (.iload_n 1, 1) := by decide +kernel
theorem dX6_yearOn_19 : decode cX6_yearOn 19 = .ok (.bipush 10, 2) := by decide +kernel
theorem dX6_yearOn_21 : decode cX6_yearOn 21 = .ok (.iadd, 1) := by decide +kernel
theorem dX6_yearOn_22 : decode cX6_yearOn 22 = .ok (.iload_n 2, 1) := by decide +kernel
theorem dX6_yearOn_23 : decode cX6_yearOn 23 = .ok (.iadd, 1) := by decide +kernel
theorem dX6_yearOn_24 : decode cX6_yearOn 24 = .ok (.iaload, 1) := by decide +kernel
theorem dX6_yearOn_25 : decode cX6_yearOn 25 = .ok (.invokevirtual 149, 3) := by decide +kernel
theorem dX6_yearOn_28 : decode cX6_yearOn 28 = .ok (.goto 36, 3) := by decide +kernel
theorem dX6_yearOn_31 : decode cX6_yearOn 31 = .ok (.aload_n 0, 1) := by decide +kernel
theorem dX6_yearOn_32 : decode cX6_yearOn 32 = .ok (.iload_n 1, 1) := by decide +kernel
theorem dX6_yearOn_33 : decode cX6_yearOn 33 = .ok (.invokevirtual 139, 3) := by decide +kernel
theorem dX6_yearOn_36 : decode cX6_yearOn 36 = .ok (.ifCond .ne 28, 3) := by decide +kernel
theorem dX6_yearOn_39 : decode cX6_yearOn 39 = .ok (.aload_n 0, 1) := by decide +kernel
theorem dX6_yearOn_40 : decode cX6_yearOn 40 = .ok (.iload_n 1, 1) := by decide +kernel
theorem dX6_yearOn_41 : decode cX6_yearOn 41 = .ok (.invokevirtual 130, 3) := by decide +kernel
theorem dX6_yearOn_44 : decode cX6_yearOn 44 = .ok (.ifCond .le 20, 3) := by decide +kernel
theorem dX6_yearOn_47 : decode cX6_yearOn 47 = .ok (.aload_n 0, 1) := by decide +kernel
theorem dX6_yearOn_48 : decode cX6_yearOn 48 = .ok (.iload_n 1, 1) := by decide +kernel
theorem dX6_yearOn_49 : decode cX6_yearOn 49 = .ok (.aload_n 0, 1) := by decide +kernel
theorem dX6_yearOn_50 : decode cX6_yearOn 50 = .ok (.getfield 7, 3) := by decide +kernel
theorem dX6_yearOn_53 : decode cX6_yearOn 53 = .ok (.iload_n 1, 1) := by decide +kernel
theorem dX6_yearOn_54 : decode cX6_yearOn 54 = .ok (.bipush 21, 2) := by decide +kernel
theorem dX6_yearOn_56 : decode cX6_yearOn 56 = .ok (.iadd, 1) := by decide +kernel
theorem dX6_yearOn_57 : decode cX6_yearOn 57 = .ok (.iaload, 1) := by decide +kernel
theorem dX6_yearOn_58 : decode cX6_yearOn 58 = .ok (.bipush 44, 2) := by decide +kernel
theorem dX6_yearOn_60 : decode cX6_yearOn 60 = .ok (.iadd, 1) := by decide +kernel
theorem dX6_yearOn_61 : decode cX6_yearOn 61 = .ok (.invokevirtual 149, 3) := by decide +kernel
theorem dX6_yearOn_64 : decode cX6_yearOn 64 = .ok (.aload_n 0, 1) := by decide +kernel
theorem dX6_yearOn_65 : decode cX6_yearOn 65 = .ok (.getfield 7, 3) := by decide +kernel
theorem dX6_yearOn_68 : decode cX6_yearOn 68 = .ok (.iload_n 1, 1) := by decide +kernel
theorem dX6_yearOn_69 : decode cX6_yearOn 69 = .ok (.bipush 25, 2) := by decide +kernel
theorem dX6_yearOn_71 : decode cX6_yearOn 71 = .ok (.iadd, 1) := by decide +kernel
theorem dX6_yearOn_72 : decode cX6_yearOn 72 = .ok (.dup2, 1) := by decide +kernel
theorem dX6_yearOn_73 : decode cX6_yearOn 73 = .ok (.iaload, 1) := by decide +kernel
theorem dX6_yearOn_74 : decode cX6_yearOn 74 = .ok (.iconst 1, 1) := by decide +kernel
theorem dX6_yearOn_75 : decode cX6_yearOn 75 = .ok (.iadd, 1) := by decide +kernel
theorem dX6_yearOn_76 : decode cX6_yearOn 76 = .ok (.iastore, 1) := by decide +kernel
theorem dX6_yearOn_77 : decode cX6_yearOn 77 = .ok (.return_, 1) := by decide +kernel
set_option maxRecDepth 20000 in
theorem ggX6_rule_X6_pointOn : GoodIn wsX6_rule wsX6_pointOn := goodIn_r _ [6, 1, 38, 39, 40, 41, 42, 43, 44, 45, 46, 47, 48, 49, 50, 51, 52, 53, 54, 55, 56, 57, 58, 59, 60, 61, 62, 63] (by decide +kernel) (by decide +kernel)
set_option maxRecDepth 20000 in
theorem gX6_rule_X6_pointOn : GoodIn wsX6_rule (wsV RX6 124 RX6 yX6_pointOn wsX6_pointOn) := goodIn_app (goodIn_of _ (by decide +kernel)) ggX6_rule_X6_pointOn
set_option maxRecDepth 20000 in
theorem ggX6_rule_X6_leanOn : GoodIn wsX6_rule wsX6_leanOn := goodIn_r _ [10, 1, 2, 3, 4, 5, 6, 11, 12, 13, 14, 15, 16, 38, 39, 40, 41, 42, 43, 44, 45, 46, 47, 48, 49, 50, 51, 52, 53, 54, 55, 56, 57, 58, 59, 60, 61, 62, 63] (by decide +kernel) (by decide +kernel)
set_option maxRecDepth 20000 in
theorem gX6_rule_X6_leanOn : GoodIn wsX6_rule (wsV RX6 130 RX6 yX6_leanOn wsX6_leanOn) := goodIn_app (goodIn_of _ (by decide +kernel)) ggX6_rule_X6_leanOn
set_option maxRecDepth 20000 in
theorem ggX6_rule_X6_isFallenOn : GoodIn wsX6_rule wsX6_isFallenOn := goodIn_r _ [20, 1, 7, 8, 9, 5, 10, 2, 3, 4, 6, 11, 12, 13, 14, 15, 16, 38, 39, 40, 41, 42, 43, 44, 45, 46, 47, 48, 49, 50, 51, 52, 53, 54, 55, 56, 57, 58, 59, 60, 61, 62, 63] (by decide +kernel) (by decide +kernel)
set_option maxRecDepth 20000 in
theorem gX6_rule_X6_isFallenOn : GoodIn wsX6_rule (wsV RX6 139 RX6 yX6_isFallenOn wsX6_isFallenOn) := goodIn_app (goodIn_of _ (by decide +kernel)) ggX6_rule_X6_isFallenOn
set_option maxRecDepth 20000 in
theorem ggX6_rule_X6_holderOn : GoodIn wsX6_rule wsX6_holderOn := goodIn_r _ [24, 1, 25, 26, 27, 5, 28, 7, 8, 9, 10, 2, 3, 4, 6, 11, 12, 13, 14, 15, 16, 17, 18, 19, 20, 29, 30, 31, 32, 33, 34, 35, 36, 37, 38, 39, 40, 41, 42, 43, 44, 45, 46, 47, 48, 49, 50, 51, 52, 53, 54, 55, 56, 57, 58, 59, 60, 61, 62, 63] (by decide +kernel) (by decide +kernel)
set_option maxRecDepth 20000 in
theorem gX6_rule_X6_holderOn : GoodIn wsX6_rule (wsV RX6 146 RX6 yX6_holderOn wsX6_holderOn) := goodIn_app (goodIn_of _ (by decide +kernel)) ggX6_rule_X6_holderOn
set_option maxRecDepth 20000 in
theorem ggX6_rule_X6_backOn : GoodIn wsX6_rule wsX6_backOn := goodIn_r _ [28, 1, 7, 8, 9, 5, 10, 2, 3, 4, 6, 11, 12, 13, 14, 15, 16, 38, 39, 40, 41, 42, 43, 44, 45, 46, 47, 48, 49, 50, 51, 52, 53, 54, 55, 56, 57, 58, 59, 60, 61, 62, 63] (by decide +kernel) (by decide +kernel)
set_option maxRecDepth 20000 in
theorem gX6_rule_X6_backOn : GoodIn wsX6_rule (wsV RX6 136 RX6 yX6_backOn wsX6_backOn) := goodIn_app (goodIn_of _ (by decide +kernel)) ggX6_rule_X6_backOn
theorem dX6_rule_0 : decode cX6_rule 0 = .ok (.iload_n 1, 1) := by decide +kernel
theorem dX6_rule_1 : decode cX6_rule 1 = .ok (.tableswitch 141 0 9 #[55, 63, 71, 82, 88, 94, 108, 114, 120, 130], 55) := by decide +kernel
theorem dX6_rule_56 : decode cX6_rule 56 = .ok (.aload_n 0, 1) := by decide +kernel
theorem dX6_rule_57 : decode cX6_rule 57 = .ok (.getfield 7, 3) := by decide +kernel
theorem dX6_rule_60 : decode cX6_rule 60 = .ok (.bipush 20, 2) := by decide +kernel
theorem dX6_rule_62 : decode cX6_rule 62 = .ok (.iaload, 1) := by decide +kernel
theorem dX6_rule_63 : decode cX6_rule 63 = .ok (.ireturn, 1) := by decide +kernel
theorem dX6_rule_64 : decode cX6_rule 64 = .ok (.aload_n 0, 1) := by decide +kernel
theorem dX6_rule_65 : decode cX6_rule 65 = .ok (.getfield 7, 3) := by decide +kernel
theorem dX6_rule_68 : decode cX6_rule 68 = .ok (.bipush 25, 2) := by decide +kernel
theorem dX6_rule_70 : decode cX6_rule 70 = .ok (.iaload, 1) := by decide +kernel
theorem dX6_rule_71 : decode cX6_rule 71 = .ok (.ireturn, 1) := by decide +kernel
theorem dX6_rule_72 : decode cX6_rule 72 = .ok (.aload_n 0, 1) := by decide +kernel
theorem dX6_rule_73 : decode cX6_rule 73 = .ok (.getfield 7, 3) := by decide +kernel
theorem dX6_rule_76 : decode cX6_rule 76 = .ok (.bipush 21, 2) := by decide +kernel
theorem dX6_rule_78 : decode cX6_rule 78 = .ok (.iaload, 1) := by decide +kernel
theorem dX6_rule_79 : decode cX6_rule 79 = .ok (.bipush 44, 2) := by decide +kernel
theorem dX6_rule_81 : decode cX6_rule 81 = .ok (.iadd, 1) := by decide +kernel
theorem dX6_rule_82 : decode cX6_rule 82 = .ok (.ireturn, 1) := by decide +kernel
theorem dX6_rule_83 : decode cX6_rule 83 = .ok (.aload_n 0, 1) := by decide +kernel
theorem dX6_rule_84 : decode cX6_rule 84 = .ok (.iconst 0, 1) := by decide +kernel
theorem dX6_rule_85 : decode cX6_rule 85 = .ok (.invokevirtual 124, 3) := by decide +kernel
theorem dX6_rule_88 : decode cX6_rule 88 = .ok (.ireturn, 1) := by decide +kernel
theorem dX6_rule_89 : decode cX6_rule 89 = .ok (.aload_n 0, 1) := by decide +kernel
theorem dX6_rule_90 : decode cX6_rule 90 = .ok (.iconst 0, 1) := by decide +kernel
theorem dX6_rule_91 : decode cX6_rule 91 = .ok (.invokevirtual 130, 3) := by decide +kernel
theorem dX6_rule_94 : decode cX6_rule 94 = .ok (.ireturn, 1) := by decide +kernel
theorem dX6_rule_95 : decode cX6_rule 95 = .ok (.aload_n 0, 1) := by decide +kernel
theorem dX6_rule_96 : decode cX6_rule 96 = .ok (.iconst 0, 1) := by decide +kernel
theorem dX6_rule_97 : decode cX6_rule 97 = .ok (.invokevirtual 139, 3) := by decide +kernel
theorem dX6_rule_100 : decode cX6_rule 100 = .ok (.ifCond .eq 7, 3) := by decide +kernel
theorem dX6_rule_103 : decode cX6_rule 103 = .ok (.iconst 1, 1) := by decide +kernel
theorem dX6_rule_104 : decode cX6_rule 104 = .ok (.goto 4, 3) := by decide +kernel
theorem dX6_rule_107 : decode cX6_rule 107 = .ok (.iconst 0, 1) := by decide +kernel
theorem dX6_rule_108 : decode cX6_rule 108 = .ok (.ireturn, 1) := by decide +kernel
theorem dX6_rule_109 : decode cX6_rule 109 = .ok (.aload_n 0, 1) := by decide +kernel
theorem dX6_rule_110 : decode cX6_rule 110 = .ok (.iconst 0, 1) := by decide +kernel
theorem dX6_rule_111 : decode cX6_rule 111 = .ok (.invokevirtual 146, 3) := by decide +kernel
theorem dX6_rule_114 : decode cX6_rule 114 = .ok (.ireturn, 1) := by decide +kernel
theorem dX6_rule_115 : decode cX6_rule 115 = .ok (.aload_n 0, 1) := by decide +kernel
theorem dX6_rule_116 : decode cX6_rule 116 = .ok (.iconst 0, 1) := by decide +kernel
theorem dX6_rule_117 : decode cX6_rule 117 = .ok (.invokevirtual 136, 3) := by decide +kernel
theorem dX6_rule_120 : decode cX6_rule 120 = .ok (.ireturn, 1) := by decide +kernel
theorem dX6_rule_121 : decode cX6_rule 121 = .ok (.aload_n 0, 1) := by decide +kernel
theorem dX6_rule_122 : decode cX6_rule 122 = .ok (.getfield 7, 3) := by decide +kernel
theorem dX6_rule_125 : decode cX6_rule 125 = .ok (.bipush 23, 2) := by decide +kernel
theorem dX6_rule_127 : decode cX6_rule 127 = .ok (.iaload, 1) := by decide +kernel
theorem dX6_rule_128 : decode cX6_rule 128 = .ok (.iconst 2, 1) := by decide +kernel
theorem dX6_rule_129 : decode cX6_rule 129 = .ok (.iadd, 1) := by decide +kernel
theorem dX6_rule_130 : decode cX6_rule 130 = .ok (.ireturn, 1) := by decide +kernel
theorem dX6_rule_131 : decode cX6_rule 131 = .ok (.aload_n 0, 1) := by decide +kernel
theorem dX6_rule_132 : decode cX6_rule 132 = .ok (.getfield 7, 3) := by decide +kernel
theorem dX6_rule_135 : decode cX6_rule 135 = .ok (.bipush 24, 2) := by decide +kernel
theorem dX6_rule_137 : decode cX6_rule 137 = .ok (.iaload, 1) := by decide +kernel
theorem dX6_rule_138 : decode cX6_rule 138 = .ok (.bipush 9, 2) := by decide +kernel
theorem dX6_rule_140 : decode cX6_rule 140 = .ok (.iadd, 1) := by decide +kernel
theorem dX6_rule_141 : decode cX6_rule 141 = .ok (.ireturn, 1) := by decide +kernel
theorem dX6_rule_142 : decode cX6_rule 142 = .ok (.iconst (-1), 1) := by decide +kernel
theorem dX6_rule_143 : decode cX6_rule 143 = .ok (.ireturn, 1) := by decide +kernel
set_option maxRecDepth 20000 in
theorem ggX6_draw_X6_isDraw : GoodIn wsX6_draw wsX6_isDraw := goodIn_r _ [7, 2, 8, 9, 6, 10, 30, 31, 32, 33, 34, 35, 36, 37, 38, 39, 40, 41, 42, 43, 44, 45, 46, 47, 48, 49, 50, 51, 52, 53, 54, 55] (by decide +kernel) (by decide +kernel)
set_option maxRecDepth 20000 in
theorem gX6_draw_X6_isDraw : GoodIn wsX6_draw (wsV RX6 153 RX6 yX6_isDraw wsX6_isDraw) := goodIn_app (goodIn_of _ (by decide +kernel)) ggX6_draw_X6_isDraw
set_option maxRecDepth 20000 in
theorem ggX6_draw_X6_in : GoodIn wsX6_draw wsX6_in := goodIn_r _ [10] (by decide +kernel) (by decide +kernel)
set_option maxRecDepth 20000 in
theorem gX6_draw_X6_in : GoodIn wsX6_draw (va_wsS RX6 50 yX6_in wsX6_in) := goodIn_app (goodIn_of _ (by decide +kernel)) ggX6_draw_X6_in
set_option maxRecDepth 20000 in
theorem ggX6_draw_X6_strengthOn : GoodIn wsX6_draw wsX6_strengthOn := goodIn_r _ [14, 2, 30, 31, 32, 33, 34, 35, 36, 37, 38, 39, 40, 41, 42, 43, 44, 45, 46, 47, 48, 49, 50, 51, 52, 53, 54, 55] (by decide +kernel) (by decide +kernel)
set_option maxRecDepth 20000 in
theorem gX6_draw_X6_strengthOn : GoodIn wsX6_draw (wsV RX6 133 RX6 yX6_strengthOn wsX6_strengthOn) := goodIn_app (goodIn_of _ (by decide +kernel)) ggX6_draw_X6_strengthOn
set_option maxRecDepth 20000 in
theorem ggX6_draw_X6_forceOn : GoodIn wsX6_draw wsX6_forceOn := goodIn_r _ [18, 19, 2, 11, 12, 13, 6, 14, 20, 21, 22, 23, 24, 25, 26, 27, 28, 29, 30, 31, 32, 33, 34, 35, 36, 37, 38, 39, 40, 41, 42, 43, 44, 45, 46, 47, 48, 49, 50, 51, 52, 53, 54, 55] (by decide +kernel) (by decide +kernel)
set_option maxRecDepth 20000 in
theorem gX6_draw_X6_forceOn : GoodIn wsX6_draw (wsV RX6 143 RX6 yX6_forceOn wsX6_forceOn) := goodIn_app (goodIn_of _ (by decide +kernel)) ggX6_draw_X6_forceOn
set_option maxRecDepth 20000 in
theorem ggX6_draw_X6_pointOn : GoodIn wsX6_draw wsX6_pointOn := goodIn_r _ [23, 2, 30, 31, 32, 33, 34, 35, 36, 37, 38, 39, 40, 41, 42, 43, 44, 45, 46, 47, 48, 49, 50, 51, 52, 53, 54, 55] (by decide +kernel) (by decide +kernel)
set_option maxRecDepth 20000 in
theorem gX6_draw_X6_pointOn : GoodIn wsX6_draw (wsV RX6 124 RX6 yX6_pointOn wsX6_pointOn) := goodIn_app (goodIn_of _ (by decide +kernel)) ggX6_draw_X6_pointOn
set_option maxRecDepth 20000 in
theorem ggX6_draw_X6_farOf : GoodIn wsX6_draw wsX6_farOf := goodIn_r _ [26, 27, 28, 6, 29] (by decide +kernel) (by decide +kernel)
set_option maxRecDepth 20000 in
theorem gX6_draw_X6_farOf : GoodIn wsX6_draw (va_wsS RX6 127 yX6_farOf wsX6_farOf) := goodIn_app (goodIn_of _ (by decide +kernel)) ggX6_draw_X6_farOf
theorem dX6_draw_0 : decode cX6_draw 0 = .ok (.aload_n 0, 1) := by decide +kernel
theorem dX6_draw_1 : decode cX6_draw 1 = .ok (.iload_n 1, 1) := by decide +kernel
theorem dX6_draw_2 : decode cX6_draw 2 = .ok (.invokevirtual 153, 3) := by decide +kernel
theorem dX6_draw_5 : decode cX6_draw 5 = .ok (.ifCond .eq 15, 3) := by decide +kernel
theorem dX6_draw_8 : decode cX6_draw 8 = .ok (.iload_n 2, 1) := by decide +kernel
theorem dX6_draw_9 : decode cX6_draw 9 = .ok (.i2l, 1) := by decide +kernel
theorem dX6_draw_10 : decode cX6_draw 10 = .ok (.lconst 0, 1) := by decide +kernel
theorem dX6_draw_11 : decode cX6_draw 11 = .ok (.ldc2_w 102, 3) := by decide +kernel
theorem dX6_draw_14 : decode cX6_draw 14 = .ok (.invokestatic 50, 3) := by decide +kernel
theorem dX6_draw_17 : decode cX6_draw 17 = .ok (.ifCond .ne 5, 3) := by decide +kernel
theorem dX6_draw_20 : decode cX6_draw 20 = .ok (.iconst (-1), 1) := by decide +kernel
theorem dX6_draw_21 : decode cX6_draw 21 = .ok (.ireturn, 1) := by decide +kernel
theorem dX6_draw_22 : decode cX6_draw 22 = .ok (.iload_n 2, 1) := by decide +kernel
theorem dX6_draw_23 : decode cX6_draw 23 = .ok (.iconst 4, 1) := by decide +kernel
theorem dX6_draw_24 : decode cX6_draw 24 = .ok (.if_icmp .ge 16, 3) := by decide +kernel
theorem dX6_draw_27 : decode cX6_draw 27 = .ok (.aload_n 0, 1) := by decide +kernel
theorem dX6_draw_28 : decode cX6_draw 28 = .ok (.getfield 7, 3) := by decide +kernel
theorem dX6_draw_31 : decode cX6_draw 31 = .ok (.iconst 5, 1) := by decide +kernel
theorem dX6_draw_32 : decode cX6_draw 32 = .ok (.iload_n 2, 1) := by decide +kernel
theorem dX6_draw_33 : decode cX6_draw 33 = .ok (.imul, 1) := by decide +kernel
theorem dX6_draw_34 : decode cX6_draw 34 = .ok (.iload_n 1, 1) := by decide +kernel
theorem dX6_draw_35 : decode cX6_draw 35 = .ok (.iadd, 1) := by decide +kernel
theorem dX6_draw_36 : decode cX6_draw 36 = .ok (.iaload, 1) := by decide +kernel
theorem dX6_draw_37 : decode cX6_draw 37 = .ok (.goto 48, 3) := by decide +kernel
theorem dX6_draw_40 : decode cX6_draw 40 = .ok (.iload_n 2, 1) := by decide +kernel
theorem dX6_draw_41 : decode cX6_draw 41 = .ok (.iconst 4, 1) := by decide +kernel
theorem dX6_draw_42 : decode cX6_draw 42 = .ok (.if_icmp .ne 12, 3) := by decide +kernel
theorem dX6_draw_45 : decode cX6_draw 45 = .ok (.aload_n 0, 1) := by decide +kernel
theorem dX6_draw_46 : decode cX6_draw 46 = .ok (.iconst 0, 1) := by decide +kernel
theorem dX6_draw_47 : decode cX6_draw 47 = .ok (.iload_n 1, 1) := by decide +kernel
theorem dX6_draw_48 : decode cX6_draw 48 = .ok (.invokevirtual 133, 3) := by decide +kernel
theorem dX6_draw_51 : decode cX6_draw 51 = .ok (.goto 34, 3) := by decide +kernel
theorem dX6_draw_54 : decode cX6_draw 54 = .ok (.iload_n 2, 1) := by decide +kernel
theorem dX6_draw_55 : decode cX6_draw 55 = .ok (.iconst 5, 1) := by decide +kernel
theorem dX6_draw_56 : decode cX6_draw 56 = .ok (.if_icmp .ne 12, 3) := by decide +kernel
theorem dX6_draw_59 : decode cX6_draw 59 = .ok (.aload_n 0, 1) := by decide +kernel
theorem dX6_draw_60 : decode cX6_draw 60 = .ok (.iconst 0, 1) := by decide +kernel
theorem dX6_draw_61 : decode cX6_draw 61 = .ok (.iload_n 1, 1) := by decide +kernel
theorem dX6_draw_62 : decode cX6_draw 62 = .ok (.invokevirtual 143, 3) := by decide +kernel
theorem dX6_draw_65 : decode cX6_draw 65 = .ok (.goto 20, 3) := by decide +kernel
theorem dX6_draw_68 : decode cX6_draw 68 = .ok (.aload_n 0, 1) := by decide +kernel
theorem dX6_draw_69 : decode cX6_draw 69 = .ok (.getfield 7, 3) := by decide +kernel
theorem dX6_draw_72 : decode cX6_draw 72 = .ok (.bipush 10, 2) := by decide +kernel
theorem dX6_draw_74 : decode cX6_draw 74 = .ok (.iload_n 1, 1) := by decide +kernel
theorem dX6_draw_75 : decode cX6_draw 75 = .ok (.iadd, 1) := by decide +kernel
theorem dX6_draw_76 : decode cX6_draw 76 = .ok (.iaload, 1) := by decide +kernel
theorem dX6_draw_77 : decode cX6_draw 77 = .ok (.aload_n 0, 1) := by decide +kernel
theorem dX6_draw_78 : decode cX6_draw 78 = .ok (.iconst 0, 1) := by decide +kernel
theorem dX6_draw_79 : decode cX6_draw 79 = .ok (.invokevirtual 124, 3) := by decide +kernel
theorem dX6_draw_82 : decode cX6_draw 82 = .ok (.invokestatic 127, 3) := by decide +kernel
theorem dX6_draw_85 : decode cX6_draw 85 = .ok (.ireturn, 1) := by decide +kernel
theorem dX6_puts_0 : decode cX6_puts 0 = .ok (.iload_n 1, 1) := by decide +kernel
theorem dX6_puts_1 : decode cX6_puts 1 = .ok (.ifCond .ne 5, 3) := by decide +kernel
theorem dX6_puts_4 : decode cX6_puts 4 = .ok (.iconst (-1), 1) := by decide +kernel
theorem dX6_puts_5 : decode cX6_puts 5 = .ok (.ireturn, 1) := by decide +kernel
theorem dX6_puts_6 : decode cX6_puts 6 = .ok (.aload_n 0, 1) := by decide +kernel
theorem dX6_puts_7 : decode cX6_puts 7 = .ok (.getfield 7, 3) := by decide +kernel
theorem dX6_puts_10 : decode cX6_puts 10 = .ok (.iload_n 2, 1) := by decide +kernel
theorem dX6_puts_11 : decode cX6_puts 11 = .ok (.iaload, 1) := by decide +kernel
theorem dX6_puts_12 : decode cX6_puts 12 = .ok (.iload 4, 2) := by decide +kernel
theorem dX6_puts_14 : decode cX6_puts 14 = .ok (.iadd, 1) := by decide +kernel
theorem dX6_puts_15 : decode cX6_puts 15 = .ok (.istore 5, 2) := by decide +kernel
theorem dX6_puts_17 : decode cX6_puts 17 = .ok (.aload_n 0, 1) := by decide +kernel
theorem dX6_puts_18 : decode cX6_puts 18 = .ok (.getfield 7, 3) := by decide +kernel
theorem dX6_puts_21 : decode cX6_puts 21 = .ok (.iload_n 2, 1) := by decide +kernel
theorem dX6_puts_22 : decode cX6_puts 22 = .ok (.iload_n 3, 1) := by decide +kernel
theorem dX6_puts_23 : decode cX6_puts 23 = .ok (.iload 4, 2) := by decide +kernel
theorem dX6_puts_25 : decode cX6_puts 25 = .ok (.isub, 1) := by decide +kernel
theorem dX6_puts_26 : decode cX6_puts 26 = .ok (.iastore, 1) := by decide +kernel
theorem dX6_puts_27 : decode cX6_puts 27 = .ok (.iload 5, 2) := by decide +kernel
theorem dX6_puts_29 : decode cX6_puts 29 = .ok (.ireturn, 1) := by decide +kernel
set_option maxRecDepth 20000 in
theorem ggX6_alters_X6_in : GoodIn wsX6_alters wsX6_in := goodIn_r _ [7] (by decide +kernel) (by decide +kernel)
set_option maxRecDepth 20000 in
theorem gX6_alters_X6_in : GoodIn wsX6_alters (va_wsS RX6 50 yX6_in wsX6_in) := goodIn_app (goodIn_of _ (by decide +kernel)) ggX6_alters_X6_in
set_option maxRecDepth 20000 in
theorem ggX6_alters_X6_isCell : GoodIn wsX6_alters wsX6_isCell := goodIn_r _ [10, 11, 4, 5, 6, 7] (by decide +kernel) (by decide +kernel)
set_option maxRecDepth 20000 in
theorem gX6_alters_X6_isCell : GoodIn wsX6_alters (va_wsS RX6 160 yX6_isCell wsX6_isCell) := goodIn_app (goodIn_of _ (by decide +kernel)) ggX6_alters_X6_isCell
set_option maxRecDepth 20000 in
theorem ggX6_alters_X6_isDraw : GoodIn wsX6_alters wsX6_isDraw := goodIn_r _ [15, 16, 4, 5, 6, 7, 21, 22, 23, 24, 25, 26, 27, 28, 29, 30, 31, 32, 33, 34, 35, 36, 37, 38, 39, 40, 41, 42, 43, 44, 45, 46] (by decide +kernel) (by decide +kernel)
set_option maxRecDepth 20000 in
theorem gX6_alters_X6_isDraw : GoodIn wsX6_alters (wsV RX6 153 RX6 yX6_isDraw wsX6_isDraw) := goodIn_app (goodIn_of _ (by decide +kernel)) ggX6_alters_X6_isDraw
set_option maxRecDepth 20000 in
theorem ggX6_alters_X6_puts : GoodIn wsX6_alters wsX6_puts := goodIn_r _ [20, 16, 21, 22, 23, 24, 25, 26, 27, 28, 29, 30, 31, 32, 33, 34, 35, 36, 37, 38, 39, 40, 41, 42, 43, 44, 45, 46] (by decide +kernel) (by decide +kernel)
set_option maxRecDepth 20000 in
theorem gX6_alters_X6_puts : GoodIn wsX6_alters (wsV RX6 165 RX6 yX6_puts wsX6_puts) := goodIn_app (goodIn_of _ (by decide +kernel)) ggX6_alters_X6_puts
theorem dX6_alters_0 : decode cX6_alters 0 = .ok (.iload_n 2, 1) := by decide +kernel
theorem dX6_alters_1 : decode cX6_alters 1 = .ok (.ifCond .ne 15, 3) := by decide +kernel
theorem dX6_alters_4 : decode cX6_alters 4 = .ok (.iload_n 3, 1) := by decide +kernel
theorem dX6_alters_5 : decode cX6_alters 5 = .ok (.i2l, 1) := by decide +kernel
theorem dX6_alters_6 : decode cX6_alters 6 = .ok (.lconst 0, 1) := by decide +kernel
theorem dX6_alters_7 : decode cX6_alters 7 = .ok (.ldc2_w 156, 3) := by decide +kernel
theorem dX6_alters_10 : decode cX6_alters 10 = .ok (.invokestatic 50, 3) := by decide +kernel
theorem dX6_alters_13 : decode cX6_alters 13 = .ok (.goto 54, 3) := by decide +kernel
theorem dX6_alters_16 : decode cX6_alters 16 = .ok (.iload_n 2, 1) := by decide +kernel
theorem dX6_alters_17 : decode cX6_alters 17 = .ok (.iconst 1, 1) := by decide +kernel
theorem dX6_alters_18 : decode cX6_alters 18 = .ok (.if_icmp .ne 15, 3) := by decide +kernel
theorem dX6_alters_21 : decode cX6_alters 21 = .ok (.iload_n 3, 1) := by decide +kernel
theorem dX6_alters_22 : decode cX6_alters 22 = .ok (.i2l, 1) := by decide +kernel
theorem dX6_alters_23 : decode cX6_alters 23 = .ok (.lconst 1, 1) := by decide +kernel
theorem dX6_alters_24 : decode cX6_alters 24 = .ok (.ldc2_w 158, 3) := by decide +kernel
theorem dX6_alters_27 : decode cX6_alters 27 = .ok (.invokestatic 50, 3) := by decide +kernel
theorem dX6_alters_30 : decode cX6_alters 30 = .ok (.goto 37, 3) := by decide +kernel
theorem dX6_alters_33 : decode cX6_alters 33 = .ok (.iload_n 2, 1) := by decide +kernel
theorem dX6_alters_34 : decode cX6_alters 34 = .ok (.iconst 2, 1) := by decide +kernel
theorem dX6_alters_35 : decode cX6_alters 35 = .ok (.if_icmp .ne 10, 3) := by decide +kernel
theorem dX6_alters_38 : decode cX6_alters 38 = .ok (.iload_n 3, 1) := by decide +kernel
theorem dX6_alters_39 : decode cX6_alters 39 = .ok (.invokestatic 160, 3) := by decide +kernel
theorem dX6_alters_42 : decode cX6_alters 42 = .ok (.goto 25, 3) := by decide +kernel
theorem dX6_alters_45 : decode cX6_alters 45 = .ok (.iload_n 2, 1) := by decide +kernel
theorem dX6_alters_46 : decode cX6_alters 46 = .ok (.iconst 3, 1) := by decide +kernel
theorem dX6_alters_47 : decode cX6_alters 47 = .ok (.if_icmp .ne 19, 3) := by decide +kernel
theorem dX6_alters_50 : decode cX6_alters 50 = .ok (.iload_n 3, 1) := by decide +kernel
theorem dX6_alters_51 : decode cX6_alters 51 = .ok (.i2l, 1) := by decide +kernel
theorem dX6_alters_52 : decode cX6_alters 52 = .ok (.lconst 0, 1) := by decide +kernel
theorem dX6_alters_53 : decode cX6_alters 53 = .ok (.ldc2_w 163, 3) := by decide +kernel
theorem dX6_alters_56 : decode cX6_alters 56 = .ok (.invokestatic 50, 3) := by decide +kernel
theorem dX6_alters_59 : decode cX6_alters 59 = .ok (.ifCond .eq 7, 3) := by decide +kernel
theorem dX6_alters_62 : decode cX6_alters 62 = .ok (.iconst 1, 1) := by decide +kernel
theorem dX6_alters_63 : decode cX6_alters 63 = .ok (.goto 4, 3) := by decide +kernel
theorem dX6_alters_66 : decode cX6_alters 66 = .ok (.iconst 0, 1) := by decide +kernel
theorem dX6_alters_67 : decode cX6_alters 67 = .ok (.istore 4, 2) := by decide +kernel
theorem dX6_alters_69 : decode cX6_alters 69 = .ok (.aload_n 0, 1) := by decide +kernel
theorem dX6_alters_70 : decode cX6_alters 70 = .ok (.aload_n 0, 1) := by decide +kernel
theorem dX6_alters_71 : decode cX6_alters 71 = .ok (.iload_n 1, 1) := by decide +kernel
theorem dX6_alters_72 : decode cX6_alters 72 = .ok (.invokevirtual 153, 3) := by decide +kernel
theorem dX6_alters_75 : decode cX6_alters 75 = .ok (.ifCond .eq 12, 3) := by decide +kernel
theorem dX6_alters_78 : decode cX6_alters 78 = .ok (.iload 4, 2) := by decide +kernel
theorem dX6_alters_80 : decode cX6_alters 80 = .ok (.ifCond .eq 7, 3) := by decide +kernel
theorem dX6_alters_83 : decode cX6_alters 83 = .ok (.iconst 1, 1) := by decide +kernel
theorem dX6_alters_84 : decode cX6_alters 84 = .ok (.goto 4, 3) := by decide +kernel
theorem dX6_alters_87 : decode cX6_alters 87 = .ok (.iconst 0, 1) := by decide +kernel
theorem dX6_alters_88 : decode cX6_alters 88 = .ok (.iconst 5, 1) := by decide +kernel
theorem dX6_alters_89 : decode cX6_alters 89 = .ok (.iload_n 2, 1) := by decide +kernel
theorem dX6_alters_90 : decode cX6_alters 90 = .ok (.imul, 1) := by decide +kernel
theorem dX6_alters_91 : decode cX6_alters 91 = .ok (.iload_n 1, 1) := by decide +kernel
theorem dX6_alters_92 : decode cX6_alters 92 = .ok (.iadd, 1) := by decide +kernel
theorem dX6_alters_93 : decode cX6_alters 93 = .ok (.iload_n 3, 1) := by decide +kernel
theorem dX6_alters_94 : decode cX6_alters 94 = .ok (.iconst 0, 1) := by decide +kernel
theorem dX6_alters_95 : decode cX6_alters 95 = .ok (.invokevirtual 165, 3) := by decide +kernel
theorem dX6_alters_98 : decode cX6_alters 98 = .ok (.ireturn, 1) := by decide +kernel
set_option maxRecDepth 20000 in
theorem ggX6_alter_X6_alters : GoodIn wsX6_alter wsX6_alters := goodIn_r _ [5, 6, 7, 8, 9, 10, 4, 11, 12, 13, 14, 15, 16, 17, 18, 19, 20, 21, 22, 23, 24, 25, 26, 27, 28, 29, 30, 31, 32, 33, 34, 35, 36, 37, 38, 39, 40, 41, 42, 43, 44, 45, 46, 47, 48, 49, 50] (by decide +kernel) (by decide +kernel)
set_option maxRecDepth 20000 in
theorem gX6_alter_X6_alters : GoodIn wsX6_alter (wsV RX6 169 RX6 yX6_alters wsX6_alters) := goodIn_app (goodIn_of _ (by decide +kernel)) ggX6_alter_X6_alters
theorem dX6_alter_0 : decode cX6_alter 0 = .ok (.aload_n 0, 1) := by decide +kernel
theorem dX6_alter_1 : decode cX6_alter 1 = .ok (.iload_n 1, 1) := by decide +kernel
theorem dX6_alter_2 : decode cX6_alter 2 = .ok (.iload_n 2, 1) := by decide +kernel
theorem dX6_alter_3 : decode cX6_alter 3 = .ok (.iload_n 3, 1) := by decide +kernel
theorem dX6_alter_4 : decode cX6_alter 4 = .ok (.invokevirtual 169, 3) := by decide +kernel
theorem dX6_alter_7 : decode cX6_alter 7 = .ok (.ireturn, 1) := by decide +kernel
set_option maxRecDepth 20000 in
theorem ggX6_stiff_X6_in : GoodIn wsX6_stiff wsX6_in := goodIn_r _ [5] (by decide +kernel) (by decide +kernel)
set_option maxRecDepth 20000 in
theorem gX6_stiff_X6_in : GoodIn wsX6_stiff (va_wsS RX6 50 yX6_in wsX6_in) := goodIn_app (goodIn_of _ (by decide +kernel)) ggX6_stiff_X6_in
set_option maxRecDepth 20000 in
theorem ggX6_stiff_X6_puts : GoodIn wsX6_stiff wsX6_puts := goodIn_r _ [9, 10, 11, 12, 13, 14, 15, 16, 17, 18, 19, 20, 21, 22, 23, 24, 25, 26, 27, 28, 29, 30, 31, 32, 33, 34, 35, 36] (by decide +kernel) (by decide +kernel)
set_option maxRecDepth 20000 in
theorem gX6_stiff_X6_puts : GoodIn wsX6_stiff (wsV RX6 165 RX6 yX6_puts wsX6_puts) := goodIn_app (goodIn_of _ (by decide +kernel)) ggX6_stiff_X6_puts
theorem dX6_stiff_0 : decode cX6_stiff 0 = .ok (.aload_n 0, 1) := by decide +kernel
theorem dX6_stiff_1 : decode cX6_stiff 1 = .ok (.iload_n 1, 1) := by decide +kernel
theorem dX6_stiff_2 : decode cX6_stiff 2 = .ok (.i2l, 1) := by decide +kernel
theorem dX6_stiff_3 : decode cX6_stiff 3 = .ok (.lconst 0, 1) := by decide +kernel
theorem dX6_stiff_4 : decode cX6_stiff 4 = .ok (.ldc2_w 158, 3) := by decide +kernel
theorem dX6_stiff_7 : decode cX6_stiff 7 = .ok (.invokestatic 50, 3) := by decide +kernel
theorem dX6_stiff_10 : decode cX6_stiff 10 = .ok (.bipush 23, 2) := by decide +kernel
theorem dX6_stiff_12 : decode cX6_stiff 12 = .ok (.iload_n 1, 1) := by decide +kernel
theorem dX6_stiff_13 : decode cX6_stiff 13 = .ok (.iconst 2, 1) := by decide +kernel
theorem dX6_stiff_14 : decode cX6_stiff 14 = .ok (.invokevirtual 165, 3) := by decide +kernel
theorem dX6_stiff_17 : decode cX6_stiff 17 = .ok (.ireturn, 1) := by decide +kernel
set_option maxRecDepth 20000 in
theorem ggX6_bears_X6_in : GoodIn wsX6_bears wsX6_in := goodIn_r _ [5] (by decide +kernel) (by decide +kernel)
set_option maxRecDepth 20000 in
theorem gX6_bears_X6_in : GoodIn wsX6_bears (va_wsS RX6 50 yX6_in wsX6_in) := goodIn_app (goodIn_of _ (by decide +kernel)) ggX6_bears_X6_in
set_option maxRecDepth 20000 in
theorem ggX6_bears_X6_puts : GoodIn wsX6_bears wsX6_puts := goodIn_r _ [9, 10, 11, 12, 13, 14, 15, 16, 17, 18, 19, 20, 21, 22, 23, 24, 25, 26, 27, 28, 29, 30, 31, 32, 33, 34, 35, 36] (by decide +kernel) (by decide +kernel)
set_option maxRecDepth 20000 in
theorem gX6_bears_X6_puts : GoodIn wsX6_bears (wsV RX6 165 RX6 yX6_puts wsX6_puts) := goodIn_app (goodIn_of _ (by decide +kernel)) ggX6_bears_X6_puts
theorem dX6_bears_0 : decode cX6_bears 0 = .ok (.aload_n 0, 1) := by decide +kernel
theorem dX6_bears_1 : decode cX6_bears 1 = .ok (.iload_n 1, 1) := by decide +kernel
theorem dX6_bears_2 : decode cX6_bears 2 = .ok (.i2l, 1) := by decide +kernel
theorem dX6_bears_3 : decode cX6_bears 3 = .ok (.lconst 0, 1) := by decide +kernel
theorem dX6_bears_4 : decode cX6_bears 4 = .ok (.ldc2_w 173, 3) := by decide +kernel
theorem dX6_bears_7 : decode cX6_bears 7 = .ok (.invokestatic 50, 3) := by decide +kernel
theorem dX6_bears_10 : decode cX6_bears 10 = .ok (.bipush 24, 2) := by decide +kernel
theorem dX6_bears_12 : decode cX6_bears 12 = .ok (.iload_n 1, 1) := by decide +kernel
theorem dX6_bears_13 : decode cX6_bears 13 = .ok (.bipush 9, 2) := by decide +kernel
theorem dX6_bears_15 : decode cX6_bears 15 = .ok (.invokevirtual 165, 3) := by decide +kernel
theorem dX6_bears_18 : decode cX6_bears 18 = .ok (.ireturn, 1) := by decide +kernel
set_option maxRecDepth 20000 in
theorem ggX6_bend_X6_isCell : GoodIn wsX6_bend wsX6_isCell := goodIn_r _ [4, 5, 6, 7, 3, 8] (by decide +kernel) (by decide +kernel)
set_option maxRecDepth 20000 in
theorem gX6_bend_X6_isCell : GoodIn wsX6_bend (va_wsS RX6 160 yX6_isCell wsX6_isCell) := goodIn_app (goodIn_of _ (by decide +kernel)) ggX6_bend_X6_isCell
set_option maxRecDepth 20000 in
theorem ggX6_bend_X6_puts : GoodIn wsX6_bend wsX6_puts := goodIn_r _ [12, 13, 14, 15, 16, 17, 18, 19, 20, 21, 22, 23, 24, 25, 26, 27, 28, 29, 30, 31, 32, 33, 34, 35, 36, 37, 38, 39] (by decide +kernel) (by decide +kernel)
set_option maxRecDepth 20000 in
theorem gX6_bend_X6_puts : GoodIn wsX6_bend (wsV RX6 165 RX6 yX6_puts wsX6_puts) := goodIn_app (goodIn_of _ (by decide +kernel)) ggX6_bend_X6_puts
theorem dX6_bend_0 : decode cX6_bend 0 = .ok (.aload_n 0, 1) := by decide +kernel
theorem dX6_bend_1 : decode cX6_bend 1 = .ok (.iload_n 1, 1) := by decide +kernel
theorem dX6_bend_2 : decode cX6_bend 2 = .ok (.invokestatic 160, 3) := by decide +kernel
theorem dX6_bend_5 : decode cX6_bend 5 = .ok (.bipush 22, 2) := by decide +kernel
theorem dX6_bend_7 : decode cX6_bend 7 = .ok (.iload_n 1, 1) := by decide +kernel
theorem dX6_bend_8 : decode cX6_bend 8 = .ok (.bipush 44, 2) := by decide +kernel
theorem dX6_bend_10 : decode cX6_bend 10 = .ok (.invokevirtual 165, 3) := by decide +kernel
theorem dX6_bend_13 : decode cX6_bend 13 = .ok (.ireturn, 1) := by decide +kernel
set_option maxRecDepth 20000 in
theorem ggX6_isPut_X6_in : GoodIn wsX6_isPut wsX6_in := goodIn_r _ [6] (by decide +kernel) (by decide +kernel)
set_option maxRecDepth 20000 in
theorem gX6_isPut_X6_in : GoodIn wsX6_isPut (va_wsS RX6 50 yX6_in wsX6_in) := goodIn_app (goodIn_of _ (by decide +kernel)) ggX6_isPut_X6_in
set_option maxRecDepth 20000 in
theorem ggX6_isPut_X6_isCell : GoodIn wsX6_isPut wsX6_isCell := goodIn_r _ [9, 10, 3, 4, 5, 6] (by decide +kernel) (by decide +kernel)
set_option maxRecDepth 20000 in
theorem gX6_isPut_X6_isCell : GoodIn wsX6_isPut (va_wsS RX6 160 yX6_isCell wsX6_isCell) := goodIn_app (goodIn_of _ (by decide +kernel)) ggX6_isPut_X6_isCell
theorem dX6_isPut_0 : decode cX6_isPut 0 = .ok (.iload_n 0, 1) := by decide +kernel
theorem dX6_isPut_1 : decode cX6_isPut 1 = .ok (.i2l, 1) := by decide +kernel
theorem dX6_isPut_2 : decode cX6_isPut 2 = .ok (.lconst 0, 1) := by decide +kernel
theorem dX6_isPut_3 : decode cX6_isPut 3 = .ok (.ldc2_w 156, 3) := by decide +kernel
theorem dX6_isPut_6 : decode cX6_isPut 6 = .ok (.invokestatic 50, 3) := by decide +kernel
theorem dX6_isPut_9 : decode cX6_isPut 9 = .ok (.ifCond .eq 26, 3) := by decide +kernel
theorem dX6_isPut_12 : decode cX6_isPut 12 = .ok (.iload_n 1, 1) := by decide +kernel
theorem dX6_isPut_13 : decode cX6_isPut 13 = .ok (.i2l, 1) := by decide +kernel
theorem dX6_isPut_14 : decode cX6_isPut 14 = .ok (.lconst 1, 1) := by decide +kernel
theorem dX6_isPut_15 : decode cX6_isPut 15 = .ok (.ldc2_w 158, 3) := by decide +kernel
theorem dX6_isPut_18 : decode cX6_isPut 18 = .ok (.invokestatic 50, 3) := by decide +kernel
theorem dX6_isPut_21 : decode cX6_isPut 21 = .ok (.ifCond .eq 14, 3) := by decide +kernel
theorem dX6_isPut_24 : decode cX6_isPut 24 = .ok (.iload_n 2, 1) := by decide +kernel
theorem dX6_isPut_25 : decode cX6_isPut 25 = .ok (.invokestatic 160, 3) := by decide +kernel
theorem dX6_isPut_28 : decode cX6_isPut 28 = .ok (.ifCond .eq 7, 3) := by decide +kernel
theorem dX6_isPut_31 : decode cX6_isPut 31 = .ok (.iconst 1, 1) := by decide +kernel
theorem dX6_isPut_32 : decode cX6_isPut 32 = .ok (.goto 4, 3) := by decide +kernel
theorem dX6_isPut_35 : decode cX6_isPut 35 = .ok (.iconst 0, 1) := by decide +kernel
theorem dX6_isPut_36 : decode cX6_isPut 36 = .ok (.ireturn, 1) := by decide +kernel
theorem dX6_putsOn_0 : decode cX6_putsOn 0 = .ok (.aload_n 0, 1) := by decide +kernel
theorem dX6_putsOn_1 : decode cX6_putsOn 1 = .ok (.getfield 7, 3) := by decide +kernel
theorem dX6_putsOn_4 : decode cX6_putsOn 4 = .ok (.iload_n 1, 1) := by decide +kernel
theorem dX6_putsOn_5 : decode cX6_putsOn 5 = .ok (.bipush 20, 2) := by decide +kernel
theorem dX6_putsOn_7 : decode cX6_putsOn 7 = .ok (.iadd, 1) := by decide +kernel
theorem dX6_putsOn_8 : decode cX6_putsOn 8 = .ok (.iaload, 1) := by decide +kernel
theorem dX6_putsOn_9 : decode cX6_putsOn 9 = .ok (.istore 5, 2) := by decide +kernel
theorem dX6_putsOn_11 : decode cX6_putsOn 11 = .ok (.aload_n 0, 1) := by decide +kernel
theorem dX6_putsOn_12 : decode cX6_putsOn 12 = .ok (.getfield 7, 3) := by decide +kernel
theorem dX6_putsOn_15 : decode cX6_putsOn 15 = .ok (.iload_n 1, 1) := by decide +kernel
theorem dX6_putsOn_16 : decode cX6_putsOn 16 = .ok (.iload 5, 2) := by decide +kernel
theorem dX6_putsOn_18 : decode cX6_putsOn 18 = .ok (.iadd, 1) := by decide +kernel
theorem dX6_putsOn_19 : decode cX6_putsOn 19 = .ok (.iload_n 2, 1) := by decide +kernel
theorem dX6_putsOn_20 : decode cX6_putsOn 20 = .ok (.iastore, 1) := by decide +kernel
theorem dX6_putsOn_21 : decode cX6_putsOn 21 = .ok (.aload_n 0, 1) := by decide +kernel
theorem dX6_putsOn_22 : decode cX6_putsOn 22 = .ok (.getfield 7, 3) := by decide +kernel
theorem dX6_putsOn_25 : decode cX6_putsOn 25 = .ok (.iload_n 1, 1) := by decide +kernel
theorem dX6_putsOn_26 : decode cX6_putsOn 26 = .ok (.iconst 5, 1) := by decide +kernel
theorem dX6_putsOn_27 : decode cX6_putsOn 27 = .ok (.iadd, 1) := by decide +kernel
theorem dX6_putsOn_28 : decode cX6_putsOn 28 = .ok (.iload 5, 2) := by decide +kernel
theorem dX6_putsOn_30 : decode cX6_putsOn 30 = .ok (.iadd, 1) := by decide +kernel
theorem dX6_putsOn_31 : decode cX6_putsOn 31 = .ok (.iload_n 3, 1) := by decide +kernel
theorem dX6_putsOn_32 : decode cX6_putsOn 32 = .ok (.iastore, 1) := by decide +kernel
theorem dX6_putsOn_33 : decode cX6_putsOn 33 = .ok (.aload_n 0, 1) := by decide +kernel
theorem dX6_putsOn_34 : decode cX6_putsOn 34 = .ok (.getfield 7, 3) := by decide +kernel
theorem dX6_putsOn_37 : decode cX6_putsOn 37 = .ok (.iload_n 1, 1) := by decide +kernel
theorem dX6_putsOn_38 : decode cX6_putsOn 38 = .ok (.bipush 10, 2) := by decide +kernel
theorem dX6_putsOn_40 : decode cX6_putsOn 40 = .ok (.iadd, 1) := by decide +kernel
theorem dX6_putsOn_41 : decode cX6_putsOn 41 = .ok (.iload 5, 2) := by decide +kernel
theorem dX6_putsOn_43 : decode cX6_putsOn 43 = .ok (.iadd, 1) := by decide +kernel
theorem dX6_putsOn_44 : decode cX6_putsOn 44 = .ok (.iload 4, 2) := by decide +kernel
theorem dX6_putsOn_46 : decode cX6_putsOn 46 = .ok (.iastore, 1) := by decide +kernel
theorem dX6_putsOn_47 : decode cX6_putsOn 47 = .ok (.aload_n 0, 1) := by decide +kernel
theorem dX6_putsOn_48 : decode cX6_putsOn 48 = .ok (.getfield 7, 3) := by decide +kernel
theorem dX6_putsOn_51 : decode cX6_putsOn 51 = .ok (.iload_n 1, 1) := by decide +kernel
theorem dX6_putsOn_52 : decode cX6_putsOn 52 = .ok (.bipush 15, 2) := by decide +kernel
theorem dX6_putsOn_54 : decode cX6_putsOn 54 = .ok (.iadd, 1) := by decide +kernel
theorem dX6_putsOn_55 : decode cX6_putsOn 55 = .ok (.iload 5, 2) := by decide +kernel
theorem dX6_putsOn_57 : decode cX6_putsOn 57 = .ok (.iadd, 1) := by decide +kernel
theorem dX6_putsOn_58 : decode cX6_putsOn 58 = .ok (.iconst 0, 1) := by decide +kernel
theorem dX6_putsOn_59 : decode cX6_putsOn 59 = .ok (.iastore, 1) := by decide +kernel
theorem dX6_putsOn_60 : decode cX6_putsOn 60 = .ok (.aload_n 0, 1) := by decide +kernel
theorem dX6_putsOn_61 : decode cX6_putsOn 61 = .ok (.getfield 7, 3) := by decide +kernel
theorem dX6_putsOn_64 : decode cX6_putsOn 64 = .ok (.iload_n 1, 1) := by decide +kernel
theorem dX6_putsOn_65 : decode cX6_putsOn 65 = .ok (.bipush 20, 2) := by decide +kernel
theorem dX6_putsOn_67 : decode cX6_putsOn 67 = .ok (.iadd, 1) := by decide +kernel
theorem dX6_putsOn_68 : decode cX6_putsOn 68 = .ok (.dup2, 1) := by decide +kernel
theorem dX6_putsOn_69 : decode cX6_putsOn 69 = .ok (.iaload, 1) := by decide +kernel
theorem dX6_putsOn_70 : decode cX6_putsOn 70 = .ok (.iconst 1, 1) := by decide +kernel
theorem dX6_putsOn_71 : decode cX6_putsOn 71 = .ok (.iadd, 1) := by decide +kernel
theorem dX6_putsOn_72 : decode cX6_putsOn 72 = .ok (.iastore, 1) := by decide +kernel
theorem dX6_putsOn_73 : decode cX6_putsOn 73 = .ok (.return_, 1) := by decide +kernel
set_option maxRecDepth 20000 in
theorem ggX6_put_X6_isPut : GoodIn wsX6_put wsX6_isPut := goodIn_r _ [5, 6, 7, 8, 9, 4, 10, 11, 12, 13, 14] (by decide +kernel) (by decide +kernel)
set_option maxRecDepth 20000 in
theorem gX6_put_X6_isPut : GoodIn wsX6_put (va_wsS RX6 175 yX6_isPut wsX6_isPut) := goodIn_app (goodIn_of _ (by decide +kernel)) ggX6_put_X6_isPut
set_option maxRecDepth 20000 in
theorem ggX6_put_X6_putsOn : GoodIn wsX6_put wsX6_putsOn := goodIn_r _ [18, 1, 19, 20, 21, 22, 23, 24, 25, 26, 27, 28, 29, 30, 31, 32, 33, 34, 35, 36, 37, 38, 39, 40, 41, 42, 43, 44] (by decide +kernel) (by decide +kernel)
set_option maxRecDepth 20000 in
theorem gX6_put_X6_putsOn : GoodIn wsX6_put (wsV RX6 179 RX6 yX6_putsOn wsX6_putsOn) := goodIn_app (goodIn_of _ (by decide +kernel)) ggX6_put_X6_putsOn
theorem dX6_put_0 : decode cX6_put 0 = .ok (.iload_n 1, 1) := by decide +kernel
theorem dX6_put_1 : decode cX6_put 1 = .ok (.iload_n 2, 1) := by decide +kernel
theorem dX6_put_2 : decode cX6_put 2 = .ok (.iload_n 3, 1) := by decide +kernel
theorem dX6_put_3 : decode cX6_put 3 = .ok (.invokestatic 175, 3) := by decide +kernel
theorem dX6_put_6 : decode cX6_put 6 = .ok (.ifCond .ne 5, 3) := by decide +kernel
theorem dX6_put_9 : decode cX6_put 9 = .ok (.iconst (-1), 1) := by decide +kernel
theorem dX6_put_10 : decode cX6_put 10 = .ok (.ireturn, 1) := by decide +kernel
theorem dX6_put_11 : decode cX6_put 11 = .ok (.aload_n 0, 1) := by decide +kernel
theorem dX6_put_12 : decode cX6_put 12 = .ok (.getfield 7, 3) := by decide +kernel
theorem dX6_put_15 : decode cX6_put 15 = .ok (.bipush 20, 2) := by decide +kernel
theorem dX6_put_17 : decode cX6_put 17 = .ok (.iaload, 1) := by decide +kernel
theorem dX6_put_18 : decode cX6_put 18 = .ok (.iconst 5, 1) := by decide +kernel
theorem dX6_put_19 : decode cX6_put 19 = .ok (.if_icmp .ne 6, 3) := by decide +kernel
theorem dX6_put_22 : decode cX6_put 22 = .ok (.bipush (-3), 2) := by decide +kernel
theorem dX6_put_24 : decode cX6_put 24 = .ok (.ireturn, 1) := by decide +kernel
theorem dX6_put_25 : decode cX6_put 25 = .ok (.aload_n 0, 1) := by decide +kernel
theorem dX6_put_26 : decode cX6_put 26 = .ok (.iconst 0, 1) := by decide +kernel
theorem dX6_put_27 : decode cX6_put 27 = .ok (.iload_n 1, 1) := by decide +kernel
theorem dX6_put_28 : decode cX6_put 28 = .ok (.iload_n 2, 1) := by decide +kernel
theorem dX6_put_29 : decode cX6_put 29 = .ok (.iload_n 3, 1) := by decide +kernel
theorem dX6_put_30 : decode cX6_put 30 = .ok (.invokevirtual 179, 3) := by decide +kernel
theorem dX6_put_33 : decode cX6_put 33 = .ok (.aload_n 0, 1) := by decide +kernel
theorem dX6_put_34 : decode cX6_put 34 = .ok (.getfield 7, 3) := by decide +kernel
theorem dX6_put_37 : decode cX6_put 37 = .ok (.bipush 20, 2) := by decide +kernel
theorem dX6_put_39 : decode cX6_put 39 = .ok (.iaload, 1) := by decide +kernel
theorem dX6_put_40 : decode cX6_put 40 = .ok (.ireturn, 1) := by decide +kernel
set_option maxRecDepth 20000 in
theorem ggX6_raze_X6_in : GoodIn wsX6_raze wsX6_in := goodIn_r _ [5] (by decide +kernel) (by decide +kernel)
set_option maxRecDepth 20000 in
theorem gX6_raze_X6_in : GoodIn wsX6_raze (va_wsS RX6 50 yX6_in wsX6_in) := goodIn_app (goodIn_of _ (by decide +kernel)) ggX6_raze_X6_in
set_option maxRecDepth 20000 in
theorem ggX6_raze_X6_puts : GoodIn wsX6_raze wsX6_puts := goodIn_r _ [9, 1, 10, 11, 12, 13, 14, 15, 16, 17, 18, 19, 20, 21, 22, 23, 24, 25, 26, 27, 28, 29, 30, 31, 32, 33, 34, 35] (by decide +kernel) (by decide +kernel)
set_option maxRecDepth 20000 in
theorem gX6_raze_X6_puts : GoodIn wsX6_raze (wsV RX6 165 RX6 yX6_puts wsX6_puts) := goodIn_app (goodIn_of _ (by decide +kernel)) ggX6_raze_X6_puts
theorem dX6_raze_0 : decode cX6_raze 0 = .ok (.aload_n 0, 1) := by decide +kernel
theorem dX6_raze_1 : decode cX6_raze 1 = .ok (.iload_n 1, 1) := by decide +kernel
theorem dX6_raze_2 : decode cX6_raze 2 = .ok (.i2l, 1) := by decide +kernel
theorem dX6_raze_3 : decode cX6_raze 3 = .ok (.lconst 0, 1) := by decide +kernel
theorem dX6_raze_4 : decode cX6_raze 4 = .ok (.aload_n 0, 1) := by decide +kernel
theorem dX6_raze_5 : decode cX6_raze 5 = .ok (.getfield 7, 3) := by decide +kernel
theorem dX6_raze_8 : decode cX6_raze 8 = .ok (.bipush 20, 2) := by decide +kernel
theorem dX6_raze_10 : decode cX6_raze 10 = .ok (.iaload, 1) := by decide +kernel
theorem dX6_raze_11 : decode cX6_raze 11 = .ok (.i2l, 1) := by decide +kernel
theorem dX6_raze_12 : decode cX6_raze 12 = .ok (.invokestatic 50, 3) := by decide +kernel
theorem dX6_raze_15 : decode cX6_raze 15 = .ok (.bipush 20, 2) := by decide +kernel
theorem dX6_raze_17 : decode cX6_raze 17 = .ok (.iload_n 1, 1) := by decide +kernel
theorem dX6_raze_18 : decode cX6_raze 18 = .ok (.iconst 0, 1) := by decide +kernel
theorem dX6_raze_19 : decode cX6_raze 19 = .ok (.invokevirtual 165, 3) := by decide +kernel
theorem dX6_raze_22 : decode cX6_raze 22 = .ok (.ireturn, 1) := by decide +kernel
set_option maxRecDepth 20000 in
theorem ggX6_years_X6_in : GoodIn wsX6_years wsX6_in := goodIn_r _ [6] (by decide +kernel) (by decide +kernel)
set_option maxRecDepth 20000 in
theorem gX6_years_X6_in : GoodIn wsX6_years (va_wsS RX6 50 yX6_in wsX6_in) := goodIn_app (goodIn_of _ (by decide +kernel)) ggX6_years_X6_in
set_option maxRecDepth 20000 in
theorem ggX6_years_X6_yearOn : GoodIn wsX6_years wsX6_yearOn := goodIn_r _ [10, 2, 11, 12, 13, 5, 14, 15, 16, 17, 18, 19, 20, 21, 22, 23, 24, 25, 26, 27, 28, 29, 30, 31, 32, 33, 34, 35, 36, 37, 38, 39, 40, 41, 42, 43, 44, 45, 46, 47, 48, 49, 50, 51, 52, 53, 54, 55, 56, 57, 58, 59, 60, 61, 62, 63, 64, 65, 66, 67, 68, 69, 70, 71, 72, 73, 74, 75] (by decide +kernel) (by decide +kernel)
set_option maxRecDepth 20000 in
theorem gX6_years_X6_yearOn : GoodIn wsX6_years (wsV RX6 185 RX6 yX6_yearOn wsX6_yearOn) := goodIn_app (goodIn_of _ (by decide +kernel)) ggX6_years_X6_yearOn
set_option maxRecDepth 20000 in
theorem ggX6_years_X6_pointOn : GoodIn wsX6_years wsX6_pointOn := goodIn_r _ [26, 2, 50, 51, 52, 53, 54, 55, 56, 57, 58, 59, 60, 61, 62, 63, 64, 65, 66, 67, 68, 69, 70, 71, 72, 73, 74, 75] (by decide +kernel) (by decide +kernel)
set_option maxRecDepth 20000 in
theorem gX6_years_X6_pointOn : GoodIn wsX6_years (wsV RX6 124 RX6 yX6_pointOn wsX6_pointOn) := goodIn_app (goodIn_of _ (by decide +kernel)) ggX6_years_X6_pointOn
theorem dX6_years_0 : decode cX6_years 0 = .ok (.iload_n 1, 1) := by decide +kernel
theorem dX6_years_1 : decode cX6_years 1 = .ok (.i2l, 1) := by decide +kernel
theorem dX6_years_2 : decode cX6_years 2 = .ok (.lconst 0, 1) := by decide +kernel
theorem dX6_years_3 : decode cX6_years 3 = .ok (.ldc2_w 183, 3) := by decide +kernel
theorem dX6_years_6 : decode cX6_years 6 = .ok (.invokestatic 50, 3) := by decide +kernel
theorem dX6_years_9 : decode cX6_years 9 = .ok (.ifCond .ne 5, 3) := by decide +kernel
theorem dX6_years_12 : decode cX6_years 12 = .ok (.iconst (-1), 1) := by decide +kernel
theorem dX6_years_13 : decode cX6_years 13 = .ok (.ireturn, 1) := by decide +kernel
theorem dX6_years_14 : decode cX6_years 14 = .ok (.aload_n 0, 1) := by decide +kernel
theorem dX6_years_15 : decode cX6_years 15 = .ok (.getfield 7, 3) := by decide +kernel
theorem dX6_years_18 : decode cX6_years 18 = .ok (.bipush 25, 2) := by decide +kernel
theorem dX6_years_20 : decode cX6_years 20 = .ok (.iaload, 1) := by decide +kernel
theorem dX6_years_21 : decode cX6_years 21 = .ok (.iload_n 1, 1) := by decide +kernel
theorem dX6_years_22 : decode cX6_years 22 = .ok (.iadd, 1) := by decide +kernel
theorem dX6_years_23 : decode cX6_years 23 = .ok (.sipush 999, 3) := by decide +kernel
theorem dX6_years_26 : decode cX6_years 26 = .ok (.if_icmp .le 6, 3) := by decide +kernel
theorem dX6_years_29 : decode cX6_years 29 = .ok (.bipush (-3), 2) := by decide +kernel
theorem dX6_years_31 : decode cX6_years 31 = .ok (.ireturn, 1) := by decide +kernel
theorem dX6_years_32 : decode cX6_years 32 = .ok (.iconst 0, 1) := by decide +kernel
theorem dX6_years_33 : decode cX6_years 33 = .ok (.istore_n 2, 1) := by decide +kernel
theorem dX6_years_34 : decode cX6_years 34 = .ok (.iload_n 2, 1) := by decide +kernel
theorem dX6_years_35 : decode cX6_years 35 = .ok (.iload_n 1, 1) := by decide +kernel
theorem dX6_years_36 : decode cX6_years 36 = .ok (.if_icmp .ge 14, 3) := by decide +kernel
theorem dX6_years_39 : decode cX6_years 39 = .ok (.aload_n 0, 1) := by decide +kernel
theorem dX6_years_40 : decode cX6_years 40 = .ok (.iconst 0, 1) := by decide +kernel
theorem dX6_years_41 : decode cX6_years 41 = .ok (.invokevirtual 185, 3) := by decide +kernel
theorem dX6_years_44 : decode cX6_years 44 = .ok (.iinc 2 1, 3) := by decide +kernel
theorem dX6_years_47 : decode cX6_years 47 = .ok (.goto (-13), 3) := by decide +kernel
theorem dX6_years_50 : decode cX6_years 50 = .ok (.aload_n 0, 1) := by decide +kernel
theorem dX6_years_51 : decode cX6_years 51 = .ok (.iconst 0, 1) := by decide +kernel
theorem dX6_years_52 : decode cX6_years 52 = .ok (.invokevirtual 124, 3) := by decide +kernel
theorem dX6_years_55 : decode cX6_years 55 = .ok (.ireturn, 1) := by decide +kernel
theorem dX6_copies_0 : decode cX6_copies 0 = .ok (.iconst 0, 1) := by decide +kernel
theorem dX6_copies_1 : decode cX6_copies 1 = .ok (.istore_n 3, 1) := by decide +kernel
theorem dX6_copies_2 : decode cX6_copies 2 = .ok (.iload_n 3, 1) := by decide +kernel
theorem dX6_copies_3 : decode cX6_copies 3 = .ok (.bipush 26, 2) := by decide +kernel
theorem dX6_copies_5 : decode cX6_copies 5 = .ok (.if_icmp .ge 25, 3) := by decide +kernel
theorem dX6_copies_8 : decode cX6_copies 8 = .ok (.aload_n 0, 1) := by decide +kernel
theorem dX6_copies_9 : decode cX6_copies 9 = .ok (.getfield 7, 3) := by decide +kernel
theorem dX6_copies_12 : decode cX6_copies 12 = .ok (.iload_n 2, 1) := by decide +kernel
theorem dX6_copies_13 : decode cX6_copies 13 = .ok (.iload_n 3, 1) := by decide +kernel
theorem dX6_copies_14 : decode cX6_copies 14 = .ok (.iadd, 1) := by decide +kernel
theorem dX6_copies_15 : decode cX6_copies 15 = .ok (.aload_n 0, 1) := by decide +kernel
theorem dX6_copies_16 : decode cX6_copies 16 = .ok (.getfield 7, 3) := by decide +kernel
theorem dX6_copies_19 : decode cX6_copies 19 = .ok (.iload_n 1, 1) := by decide +kernel
theorem dX6_copies_20 : decode cX6_copies 20 = .ok (.iload_n 3, 1) := by decide +kernel
theorem dX6_copies_21 : decode cX6_copies 21 = .ok (.iadd, 1) := by decide +kernel
theorem dX6_copies_22 : decode cX6_copies 22 = .ok (.iaload, 1) := by decide +kernel
theorem dX6_copies_23 : decode cX6_copies 23 = .ok (.iastore, 1) := by decide +kernel
theorem dX6_copies_24 : decode cX6_copies 24 = .ok (.iinc 3 1, 3) := by decide +kernel
theorem dX6_copies_27 : decode cX6_copies 27 = .ok (.goto (-25), 3) := by decide +kernel
theorem dX6_copies_30 : decode cX6_copies 30 = .ok (.return_, 1) := by decide +kernel
set_option maxRecDepth 20000 in
theorem ggX6_yearsGo_X6_copies : GoodIn wsX6_yearsGo wsX6_copies := goodIn_r _ [8, 9, 53, 54, 55, 56, 57, 58, 59, 60, 61, 62, 63, 64, 65, 66, 67, 68, 69, 70, 71, 72, 73, 74, 75, 76, 77, 78] (by decide +kernel) (by decide +kernel)
set_option maxRecDepth 20000 in
theorem gX6_yearsGo_X6_copies : GoodIn wsX6_yearsGo (wsV RX6 188 RX6 yX6_copies wsX6_copies) := goodIn_app (goodIn_of _ (by decide +kernel)) ggX6_yearsGo_X6_copies
set_option maxRecDepth 20000 in
theorem ggX6_yearsGo_X6_leanOn : GoodIn wsX6_yearsGo wsX6_leanOn := goodIn_r _ [13, 9, 14, 15, 16, 7, 17, 18, 19, 20, 21, 22, 23, 53, 54, 55, 56, 57, 58, 59, 60, 61, 62, 63, 64, 65, 66, 67, 68, 69, 70, 71, 72, 73, 74, 75, 76, 77, 78] (by decide +kernel) (by decide +kernel)
set_option maxRecDepth 20000 in
theorem gX6_yearsGo_X6_leanOn : GoodIn wsX6_yearsGo (wsV RX6 130 RX6 yX6_leanOn wsX6_leanOn) := goodIn_app (goodIn_of _ (by decide +kernel)) ggX6_yearsGo_X6_leanOn
set_option maxRecDepth 20000 in
theorem ggX6_yearsGo_X6_pointOn : GoodIn wsX6_yearsGo wsX6_pointOn := goodIn_r _ [17, 9, 53, 54, 55, 56, 57, 58, 59, 60, 61, 62, 63, 64, 65, 66, 67, 68, 69, 70, 71, 72, 73, 74, 75, 76, 77, 78] (by decide +kernel) (by decide +kernel)
set_option maxRecDepth 20000 in
theorem gX6_yearsGo_X6_pointOn : GoodIn wsX6_yearsGo (wsV RX6 124 RX6 yX6_pointOn wsX6_pointOn) := goodIn_app (goodIn_of _ (by decide +kernel)) ggX6_yearsGo_X6_pointOn
set_option maxRecDepth 20000 in
theorem ggX6_yearsGo_X6_holderOn : GoodIn wsX6_yearsGo wsX6_holderOn := goodIn_r _ [27, 9, 28, 29, 30, 7, 31, 10, 11, 12, 13, 14, 15, 16, 17, 18, 19, 20, 21, 22, 23, 32, 33, 34, 35, 36, 37, 38, 39, 40, 41, 42, 43, 44, 53, 54, 55, 56, 57, 58, 59, 60, 61, 62, 63, 64, 65, 66, 67, 68, 69, 70, 71, 72, 73, 74, 75, 76, 77, 78] (by decide +kernel) (by decide +kernel)
set_option maxRecDepth 20000 in
theorem gX6_yearsGo_X6_holderOn : GoodIn wsX6_yearsGo (wsV RX6 146 RX6 yX6_holderOn wsX6_holderOn) := goodIn_app (goodIn_of _ (by decide +kernel)) ggX6_yearsGo_X6_holderOn
set_option maxRecDepth 20000 in
theorem ggX6_yearsGo_X6_yearOn : GoodIn wsX6_yearsGo wsX6_yearOn := goodIn_r _ [48, 9, 24, 25, 26, 7, 27, 28, 29, 30, 31, 10, 11, 12, 13, 14, 15, 16, 17, 18, 19, 20, 21, 22, 23, 32, 33, 34, 35, 36, 37, 38, 39, 40, 41, 42, 43, 44, 49, 50, 51, 52, 53, 54, 55, 56, 57, 58, 59, 60, 61, 62, 63, 64, 65, 66, 67, 68, 69, 70, 71, 72, 73, 74, 75, 76, 77, 78] (by decide +kernel) (by decide +kernel)
set_option maxRecDepth 20000 in
theorem gX6_yearsGo_X6_yearOn : GoodIn wsX6_yearsGo (wsV RX6 185 RX6 yX6_yearOn wsX6_yearOn) := goodIn_app (goodIn_of _ (by decide +kernel)) ggX6_yearsGo_X6_yearOn
theorem dX6_yearsGo_0 : decode cX6_yearsGo 0 = .ok (.aload_n 0, 1) := by decide +kernel
theorem dX6_yearsGo_1 : decode cX6_yearsGo 1 = .ok (.iload_n 1, 1) := by decide +kernel
theorem dX6_yearsGo_2 : decode cX6_yearsGo 2 = .ok (.bipush 104, 2) := by decide +kernel
theorem dX6_yearsGo_4 : decode cX6_yearsGo 4 = .ok (.invokevirtual 188, 3) := by decide +kernel
theorem dX6_yearsGo_7 : decode cX6_yearsGo 7 = .ok (.aload_n 0, 1) := by decide +kernel
theorem dX6_yearsGo_8 : decode cX6_yearsGo 8 = .ok (.aload_n 0, 1) := by decide +kernel
theorem dX6_yearsGo_9 : decode cX6_yearsGo 9 = .ok (.bipush 104, 2) := by decide +kernel
theorem dX6_yearsGo_11 : decode cX6_yearsGo 11 = .ok (.invokevirtual 130, 3) := by decide +kernel
theorem dX6_yearsGo_14 : decode cX6_yearsGo 14 = .ok (.putfield 191, 3) := by decide +kernel
theorem dX6_yearsGo_17 : decode cX6_yearsGo 17 = .ok (.aload_n 0, 1) := by decide +kernel
theorem dX6_yearsGo_18 : decode cX6_yearsGo 18 = .ok (.iconst 0, 1) := by decide +kernel
theorem dX6_yearsGo_19 : decode cX6_yearsGo 19 = .ok (.putfield 194, 3) := by decide +kernel
theorem dX6_yearsGo_22 : decode cX6_yearsGo 22 = .ok (.aload_n 0, 1) := by decide +kernel
theorem dX6_yearsGo_23 : decode cX6_yearsGo 23 = .ok (.iconst 0, 1) := by decide +kernel
theorem dX6_yearsGo_24 : decode cX6_yearsGo 24 = .ok (.putfield 197, 3) := by decide +kernel
theorem dX6_yearsGo_27 : decode cX6_yearsGo 27 = .ok (.iconst 0, 1) := by decide +kernel
theorem dX6_yearsGo_28 : decode cX6_yearsGo 28 = .ok (.istore_n 3, 1) := by decide +kernel
theorem dX6_yearsGo_29 : decode cX6_yearsGo 29 = .ok (.iload_n 3, 1) := by decide +kernel
theorem dX6_yearsGo_30 : decode cX6_yearsGo 30 = .ok (.iload_n 2, 1) := by decide +kernel
theorem dX6_yearsGo_31 : decode cX6_yearsGo 31 = .ok (.if_icmp .ge 110, 3) := by decide +kernel
theorem dX6_yearsGo_34 : decode cX6_yearsGo 34 = .ok (.aload_n 0, 1) := by decide +kernel
theorem dX6_yearsGo_35 : decode cX6_yearsGo 35 = .ok (.bipush 104, 2) := by decide +kernel
theorem dX6_yearsGo_37 : decode cX6_yearsGo 37 = .ok (.invokevirtual 124, 3) := by decide +kernel
theorem dX6_yearsGo_40 : decode cX6_yearsGo 40 = .ok (.istore 4, 2) := by decide +kernel
theorem dX6_yearsGo_42 : decode cX6_yearsGo 42 = .ok (.aload_n 0, 1) := by decide +kernel
theorem dX6_yearsGo_43 : decode cX6_yearsGo 43 = .ok (.bipush 104, 2) := by decide +kernel
theorem dX6_yearsGo_45 : decode cX6_yearsGo 45 = .ok (.invokevirtual 146, 3) := by decide +kernel
theorem dX6_yearsGo_48 : decode cX6_yearsGo 48 = .ok (.istore 5, 2) := by decide +kernel
theorem dX6_yearsGo_50 : decode cX6_yearsGo 50 = .ok (.aload_n 0, 1) := by decide +kernel
theorem dX6_yearsGo_51 : decode cX6_yearsGo 51 = .ok (.dup, 1) := by decide +kernel
theorem dX6_yearsGo_52 : decode cX6_yearsGo 52 = .ok (.getfield 197, 3) := by decide +kernel
theorem dX6_yearsGo_55 : decode cX6_yearsGo 55 = .ok (.iload 5, 2) := by decide +kernel
theorem dX6_yearsGo_57 : decode cX6_yearsGo 57 = .ok (.bipush (-4), 2) := by decide +kernel
theorem dX6_yearsGo_59 : decode cX6_yearsGo 59 = .ok (.if_icmp .ne 7, 3) := by decide +kernel
theorem dX6_yearsGo_62 : decode cX6_yearsGo 62 = .ok (.iconst 0, 1) := by decide +kernel
theorem dX6_yearsGo_63 : decode cX6_yearsGo 63 = .ok (.goto 7, 3) := by decide +kernel
theorem dX6_yearsGo_66 : decode cX6_yearsGo 66 = .ok (.iconst 1, 1) := by decide +kernel
theorem dX6_yearsGo_67 : decode cX6_yearsGo 67 = .ok (.iload 5, 2) := by decide +kernel
theorem dX6_yearsGo_69 : decode cX6_yearsGo 69 = .ok (.ishl, 1) := by decide +kernel
theorem dX6_yearsGo_70 : decode cX6_yearsGo 70 = .ok (.ior, 1) := by decide +kernel
theorem dX6_yearsGo_71 : decode cX6_yearsGo 71 = .ok (.putfield 197, 3) := by decide +kernel
theorem dX6_yearsGo_74 : decode cX6_yearsGo 74 = .ok (.aload_n 0, 1) := by decide +kernel
theorem dX6_yearsGo_75 : decode cX6_yearsGo 75 = .ok (.bipush 104, 2) := by decide +kernel
theorem dX6_yearsGo_77 : decode cX6_yearsGo 77 = .ok (.invokevirtual 185, 3) := by decide +kernel
theorem dX6_yearsGo_80 : decode cX6_yearsGo 80 = .ok (.aload_n 0, 1) := by decide +kernel
theorem dX6_yearsGo_81 : decode cX6_yearsGo 81 = .ok (.dup, 1) := by decide +kernel
theorem dX6_yearsGo_82 : decode cX6_yearsGo 82 = .ok (.getfield 194, 3) := by decide +kernel
theorem dX6_yearsGo_85 : decode cX6_yearsGo 85 = .ok (.aload_n 0, 1) := by decide +kernel
theorem dX6_yearsGo_86 : decode cX6_yearsGo 86 = .ok (.bipush 104, 2) := by decide +kernel
theorem dX6_yearsGo_88 : decode cX6_yearsGo 88 = .ok (.invokevirtual 124, 3) := by decide +kernel
theorem dX6_yearsGo_91 : decode cX6_yearsGo 91 = .ok (.iload 4, 2) := by decide +kernel
theorem dX6_yearsGo_93 : decode cX6_yearsGo 93 = .ok (.if_icmp .ne 7, 3) := by decide +kernel
theorem dX6_yearsGo_96 : decode cX6_yearsGo 96 = .ok (.iconst 0, 1) := by decide +kernel
theorem dX6_yearsGo_97 : decode cX6_yearsGo 97 = .ok (.goto 4, 3) := by decide +kernel
theorem dX6_yearsGo_100 : decode cX6_yearsGo 100 = .ok (.iconst 1, 1) := by decide +kernel
theorem dX6_yearsGo_101 : decode cX6_yearsGo 101 = .ok (.iadd, 1) := by decide +kernel
theorem dX6_yearsGo_102 : decode cX6_yearsGo 102 = .ok (.putfield 194, 3) := by decide +kernel
theorem dX6_yearsGo_105 : decode cX6_yearsGo 105 = .ok (.aload_n 0, 1) := by decide +kernel
theorem dX6_yearsGo_106 : decode cX6_yearsGo 106 = .ok (.aload_n 0, 1) := by decide +kernel
theorem dX6_yearsGo_107 : decode cX6_yearsGo 107 = .ok (.bipush 104, 2) := by decide +kernel
theorem dX6_yearsGo_109 : decode cX6_yearsGo 109 = .ok (.invokevirtual 130, 3) := by decide +kernel
theorem dX6_yearsGo_112 : decode cX6_yearsGo 112 = .ok (.aload_n 0, 1) := by decide +kernel
theorem dX6_yearsGo_113 : decode cX6_yearsGo 113 = .ok (.getfield 191, 3) := by decide +kernel
theorem dX6_yearsGo_116 : decode cX6_yearsGo 116 = .ok (.if_icmp .le 12, 3) := by decide +kernel
theorem dX6_yearsGo_119 : decode cX6_yearsGo 119 = .ok (.aload_n 0, 1) := by decide +kernel
theorem dX6_yearsGo_120 : decode cX6_yearsGo 120 = .ok (.bipush 104, 2) := by decide +kernel
theorem dX6_yearsGo_122 : decode cX6_yearsGo 122 = .ok (.invokevirtual 130, 3) := by decide +kernel
theorem dX6_yearsGo_125 : decode cX6_yearsGo 125 = .ok (.goto 7, 3) := by decide +kernel
theorem dX6_yearsGo_128 : decode cX6_yearsGo 128 = .ok (.aload_n 0, 1) := by decide +kernel
theorem dX6_yearsGo_129 : decode cX6_yearsGo 129 = .ok (.getfield 191, 3) := by decide +kernel
theorem dX6_yearsGo_132 : decode cX6_yearsGo 132 = .ok (.putfield 191, 3) := by decide +kernel
theorem dX6_yearsGo_135 : decode cX6_yearsGo 135 = .ok (.iinc 3 1, 3) := by decide +kernel
theorem dX6_yearsGo_138 : decode cX6_yearsGo 138 = .ok (.goto (-109), 3) := by decide +kernel
theorem dX6_yearsGo_141 : decode cX6_yearsGo 141 = .ok (.return_, 1) := by decide +kernel
set_option maxRecDepth 20000 in
theorem ggX6_runs_X6_in : GoodIn wsX6_runs wsX6_in := goodIn_r _ [9] (by decide +kernel) (by decide +kernel)
set_option maxRecDepth 20000 in
theorem gX6_runs_X6_in : GoodIn wsX6_runs (va_wsS RX6 50 yX6_in wsX6_in) := goodIn_app (goodIn_of _ (by decide +kernel)) ggX6_runs_X6_in
set_option maxRecDepth 20000 in
theorem ggX6_runs_X6_yearsGo : GoodIn wsX6_runs wsX6_yearsGo := goodIn_r _ [13, 3, 4, 5, 14, 15, 16, 8, 17, 18, 19, 20, 21, 22, 23, 24, 25, 26, 27, 28, 29, 30, 31, 32, 33, 34, 35, 36, 37, 38, 39, 40, 41, 42, 43, 44, 45, 46, 47, 48, 49, 50, 51, 52, 53, 54, 55, 56, 57, 58, 59, 60, 61, 62, 63, 64, 65, 66, 67, 68, 69, 70, 71, 72, 73, 74, 75, 76, 77, 78, 79, 80, 81, 82, 83, 84, 85, 86, 87] (by decide +kernel) (by decide +kernel)
set_option maxRecDepth 20000 in
theorem gX6_runs_X6_yearsGo : GoodIn wsX6_runs (wsV RX6 202 RX6 yX6_yearsGo wsX6_yearsGo) := goodIn_app (goodIn_of _ (by decide +kernel)) ggX6_runs_X6_yearsGo
set_option maxRecDepth 20000 in
theorem ggX6_runs_X6_pointOn : GoodIn wsX6_runs wsX6_pointOn := goodIn_r _ [26, 18, 62, 63, 64, 65, 66, 67, 68, 69, 70, 71, 72, 73, 74, 75, 76, 77, 78, 79, 80, 81, 82, 83, 84, 85, 86, 87] (by decide +kernel) (by decide +kernel)
set_option maxRecDepth 20000 in
theorem gX6_runs_X6_pointOn : GoodIn wsX6_runs (wsV RX6 124 RX6 yX6_pointOn wsX6_pointOn) := goodIn_app (goodIn_of _ (by decide +kernel)) ggX6_runs_X6_pointOn
set_option maxRecDepth 20000 in
theorem ggX6_runs_X6_leanOn : GoodIn wsX6_runs wsX6_leanOn := goodIn_r _ [22, 18, 23, 24, 25, 8, 26, 27, 28, 29, 30, 31, 32, 62, 63, 64, 65, 66, 67, 68, 69, 70, 71, 72, 73, 74, 75, 76, 77, 78, 79, 80, 81, 82, 83, 84, 85, 86, 87] (by decide +kernel) (by decide +kernel)
set_option maxRecDepth 20000 in
theorem gX6_runs_X6_leanOn : GoodIn wsX6_runs (wsV RX6 130 RX6 yX6_leanOn wsX6_leanOn) := goodIn_app (goodIn_of _ (by decide +kernel)) ggX6_runs_X6_leanOn
theorem dX6_runs_0 : decode cX6_runs 0 = .ok (.iload_n 1, 1) := by decide +kernel
theorem dX6_runs_1 : decode cX6_runs 1 = .ok (.i2l, 1) := by decide +kernel
theorem dX6_runs_2 : decode cX6_runs 2 = .ok (.lconst 0, 1) := by decide +kernel
theorem dX6_runs_3 : decode cX6_runs 3 = .ok (.ldc2_w 163, 3) := by decide +kernel
theorem dX6_runs_6 : decode cX6_runs 6 = .ok (.invokestatic 50, 3) := by decide +kernel
theorem dX6_runs_9 : decode cX6_runs 9 = .ok (.ifCond .eq 15, 3) := by decide +kernel
theorem dX6_runs_12 : decode cX6_runs 12 = .ok (.iload_n 2, 1) := by decide +kernel
theorem dX6_runs_13 : decode cX6_runs 13 = .ok (.i2l, 1) := by decide +kernel
theorem dX6_runs_14 : decode cX6_runs 14 = .ok (.lconst 0, 1) := by decide +kernel
theorem dX6_runs_15 : decode cX6_runs 15 = .ok (.ldc2_w 200, 3) := by decide +kernel
theorem dX6_runs_18 : decode cX6_runs 18 = .ok (.invokestatic 50, 3) := by decide +kernel
theorem dX6_runs_21 : decode cX6_runs 21 = .ok (.ifCond .ne 5, 3) := by decide +kernel
theorem dX6_runs_24 : decode cX6_runs 24 = .ok (.iconst (-1), 1) := by decide +kernel
theorem dX6_runs_25 : decode cX6_runs 25 = .ok (.ireturn, 1) := by decide +kernel
theorem dX6_runs_26 : decode cX6_runs 26 = .ok (.aload_n 0, 1) := by decide +kernel
theorem dX6_runs_27 : decode cX6_runs 27 = .ok (.iconst 0, 1) := by decide +kernel
theorem dX6_runs_28 : decode cX6_runs 28 = .ok (.iload_n 1, 1) := by decide +kernel
theorem dX6_runs_29 : decode cX6_runs 29 = .ok (.invokevirtual 202, 3) := by decide +kernel
theorem dX6_runs_32 : decode cX6_runs 32 = .ok (.iload_n 2, 1) := by decide +kernel
theorem dX6_runs_33 : decode cX6_runs 33 = .ok (.ifCond .ne 12, 3) := by decide +kernel
theorem dX6_runs_36 : decode cX6_runs 36 = .ok (.aload_n 0, 1) := by decide +kernel
theorem dX6_runs_37 : decode cX6_runs 37 = .ok (.bipush 104, 2) := by decide +kernel
theorem dX6_runs_39 : decode cX6_runs 39 = .ok (.invokevirtual 124, 3) := by decide +kernel
theorem dX6_runs_42 : decode cX6_runs 42 = .ok (.goto 45, 3) := by decide +kernel
theorem dX6_runs_45 : decode cX6_runs 45 = .ok (.iload_n 2, 1) := by decide +kernel
theorem dX6_runs_46 : decode cX6_runs 46 = .ok (.iconst 1, 1) := by decide +kernel
theorem dX6_runs_47 : decode cX6_runs 47 = .ok (.if_icmp .ne 12, 3) := by decide +kernel
theorem dX6_runs_50 : decode cX6_runs 50 = .ok (.aload_n 0, 1) := by decide +kernel
theorem dX6_runs_51 : decode cX6_runs 51 = .ok (.bipush 104, 2) := by decide +kernel
theorem dX6_runs_53 : decode cX6_runs 53 = .ok (.invokevirtual 130, 3) := by decide +kernel
theorem dX6_runs_56 : decode cX6_runs 56 = .ok (.goto 31, 3) := by decide +kernel
theorem dX6_runs_59 : decode cX6_runs 59 = .ok (.iload_n 2, 1) := by decide +kernel
theorem dX6_runs_60 : decode cX6_runs 60 = .ok (.iconst 2, 1) := by decide +kernel
theorem dX6_runs_61 : decode cX6_runs 61 = .ok (.if_icmp .ne 10, 3) := by decide +kernel
theorem dX6_runs_64 : decode cX6_runs 64 = .ok (.aload_n 0, 1) := by decide +kernel
theorem dX6_runs_65 : decode cX6_runs 65 = .ok (.getfield 191, 3) := by decide +kernel
theorem dX6_runs_68 : decode cX6_runs 68 = .ok (.goto 19, 3) := by decide +kernel
theorem dX6_runs_71 : decode cX6_runs 71 = .ok (.iload_n 2, 1) := by decide +kernel
theorem dX6_runs_72 : decode cX6_runs 72 = .ok (.iconst 3, 1) := by decide +kernel
theorem dX6_runs_73 : decode cX6_runs 73 = .ok (.if_icmp .ne 10, 3) := by decide +kernel
theorem dX6_runs_76 : decode cX6_runs 76 = .ok (.aload_n 0, 1) := by decide +kernel
theorem dX6_runs_77 : decode cX6_runs 77 = .ok (.getfield 194, 3) := by decide +kernel
theorem dX6_runs_80 : decode cX6_runs 80 = .ok (.goto 7, 3) := by decide +kernel
theorem dX6_runs_83 : decode cX6_runs 83 = .ok (.aload_n 0, 1) := by decide +kernel
theorem dX6_runs_84 : decode cX6_runs 84 = .ok (.getfield 197, 3) := by decide +kernel
theorem dX6_runs_87 : decode cX6_runs 87 = .ok (.ireturn, 1) := by decide +kernel
set_option maxRecDepth 20000 in
theorem ggX6_falls_X6_copies : GoodIn wsX6_falls wsX6_copies := goodIn_r _ [5, 6, 50, 51, 52, 53, 54, 55, 56, 57, 58, 59, 60, 61, 62, 63, 64, 65, 66, 67, 68, 69, 70, 71, 72, 73, 74, 75] (by decide +kernel) (by decide +kernel)
set_option maxRecDepth 20000 in
theorem gX6_falls_X6_copies : GoodIn wsX6_falls (wsV RX6 188 RX6 yX6_copies wsX6_copies) := goodIn_app (goodIn_of _ (by decide +kernel)) ggX6_falls_X6_copies
set_option maxRecDepth 20000 in
theorem ggX6_falls_X6_isFallenOn : GoodIn wsX6_falls wsX6_isFallenOn := goodIn_r _ [10, 6, 11, 12, 13, 4, 14, 15, 16, 17, 18, 19, 20, 21, 22, 23, 24, 50, 51, 52, 53, 54, 55, 56, 57, 58, 59, 60, 61, 62, 63, 64, 65, 66, 67, 68, 69, 70, 71, 72, 73, 74, 75] (by decide +kernel) (by decide +kernel)
set_option maxRecDepth 20000 in
theorem gX6_falls_X6_isFallenOn : GoodIn wsX6_falls (wsV RX6 139 RX6 yX6_isFallenOn wsX6_isFallenOn) := goodIn_app (goodIn_of _ (by decide +kernel)) ggX6_falls_X6_isFallenOn
set_option maxRecDepth 20000 in
theorem ggX6_falls_X6_yearOn : GoodIn wsX6_falls wsX6_yearOn := goodIn_r _ [28, 6, 29, 30, 31, 4, 32, 33, 34, 35, 36, 11, 12, 13, 14, 15, 16, 17, 18, 19, 20, 21, 22, 23, 24, 7, 8, 9, 10, 37, 38, 39, 40, 41, 42, 43, 44, 45, 46, 47, 48, 49, 50, 51, 52, 53, 54, 55, 56, 57, 58, 59, 60, 61, 62, 63, 64, 65, 66, 67, 68, 69, 70, 71, 72, 73, 74, 75] (by decide +kernel) (by decide +kernel)
set_option maxRecDepth 20000 in
theorem gX6_falls_X6_yearOn : GoodIn wsX6_falls (wsV RX6 185 RX6 yX6_yearOn wsX6_yearOn) := goodIn_app (goodIn_of _ (by decide +kernel)) ggX6_falls_X6_yearOn
theorem dX6_falls_0 : decode cX6_falls 0 = .ok (.aload_n 0, 1) := by decide +kernel
theorem dX6_falls_1 : decode cX6_falls 1 = .ok (.iconst 0, 1) := by decide +kernel
theorem dX6_falls_2 : decode cX6_falls 2 = .ok (.bipush 104, 2) := by decide +kernel
theorem dX6_falls_4 : decode cX6_falls 4 = .ok (.invokevirtual 188, 3) := by decide +kernel
theorem dX6_falls_7 : decode cX6_falls 7 = .ok (.iconst 0, 1) := by decide +kernel
theorem dX6_falls_8 : decode cX6_falls 8 = .ok (.istore_n 1, 1) := by decide +kernel
theorem dX6_falls_9 : decode cX6_falls 9 = .ok (.iload_n 1, 1) := by decide +kernel
theorem dX6_falls_10 : decode cX6_falls 10 = .ok (.bipush 60, 2) := by decide +kernel
theorem dX6_falls_12 : decode cX6_falls 12 = .ok (.if_icmp .gt 26, 3) := by decide +kernel
theorem dX6_falls_15 : decode cX6_falls 15 = .ok (.aload_n 0, 1) := by decide +kernel
theorem dX6_falls_16 : decode cX6_falls 16 = .ok (.bipush 104, 2) := by decide +kernel
theorem dX6_falls_18 : decode cX6_falls 18 = .ok (.invokevirtual 139, 3) := by decide +kernel
theorem dX6_falls_21 : decode cX6_falls 21 = .ok (.ifCond .eq 5, 3) := by decide +kernel
theorem dX6_falls_24 : decode cX6_falls 24 = .ok (.iload_n 1, 1) := by decide +kernel
theorem dX6_falls_25 : decode cX6_falls 25 = .ok (.ireturn, 1) := by decide +kernel
theorem dX6_falls_26 : decode cX6_falls 26 = .ok (.aload_n 0, 1) := by decide +kernel
theorem dX6_falls_27 : decode cX6_falls 27 = .ok (.bipush 104, 2) := by decide +kernel
theorem dX6_falls_29 : decode cX6_falls 29 = .ok (.invokevirtual 185, 3) := by decide +kernel
theorem dX6_falls_32 : decode cX6_falls 32 = .ok (.iinc 1 1, 3) := by decide +kernel
theorem dX6_falls_35 : decode cX6_falls 35 = .ok (.goto (-26), 3) := by decide +kernel
theorem dX6_falls_38 : decode cX6_falls 38 = .ok (.bipush (-4), 2) := by decide +kernel
theorem dX6_falls_40 : decode cX6_falls 40 = .ok (.ireturn, 1) := by decide +kernel
set_option maxRecDepth 20000 in
theorem ggX6_comesOn_X6_copies : GoodIn wsX6_comesOn wsX6_copies := goodIn_r _ [5, 6, 50, 51, 52, 53, 54, 55, 56, 57, 58, 59, 60, 61, 62, 63, 64, 65, 66, 67, 68, 69, 70, 71, 72, 73, 74, 75] (by decide +kernel) (by decide +kernel)
set_option maxRecDepth 20000 in
theorem gX6_comesOn_X6_copies : GoodIn wsX6_comesOn (wsV RX6 188 RX6 yX6_copies wsX6_copies) := goodIn_app (goodIn_of _ (by decide +kernel)) ggX6_comesOn_X6_copies
set_option maxRecDepth 20000 in
theorem ggX6_comesOn_X6_pointOn : GoodIn wsX6_comesOn wsX6_pointOn := goodIn_r _ [10, 6, 50, 51, 52, 53, 54, 55, 56, 57, 58, 59, 60, 61, 62, 63, 64, 65, 66, 67, 68, 69, 70, 71, 72, 73, 74, 75] (by decide +kernel) (by decide +kernel)
set_option maxRecDepth 20000 in
theorem gX6_comesOn_X6_pointOn : GoodIn wsX6_comesOn (wsV RX6 124 RX6 yX6_pointOn wsX6_pointOn) := goodIn_app (goodIn_of _ (by decide +kernel)) ggX6_comesOn_X6_pointOn
set_option maxRecDepth 20000 in
theorem ggX6_comesOn_X6_yearOn : GoodIn wsX6_comesOn wsX6_yearOn := goodIn_r _ [14, 6, 15, 16, 17, 4, 18, 19, 20, 21, 22, 23, 24, 25, 26, 7, 8, 9, 10, 27, 28, 29, 30, 31, 32, 33, 34, 35, 36, 37, 38, 39, 40, 41, 42, 43, 44, 45, 46, 47, 48, 49, 50, 51, 52, 53, 54, 55, 56, 57, 58, 59, 60, 61, 62, 63, 64, 65, 66, 67, 68, 69, 70, 71, 72, 73, 74, 75] (by decide +kernel) (by decide +kernel)
set_option maxRecDepth 20000 in
theorem gX6_comesOn_X6_yearOn : GoodIn wsX6_comesOn (wsV RX6 185 RX6 yX6_yearOn wsX6_yearOn) := goodIn_app (goodIn_of _ (by decide +kernel)) ggX6_comesOn_X6_yearOn
theorem dX6_comesOn_0 : decode cX6_comesOn 0 = .ok (.aload_n 0, 1) := by decide +kernel
theorem dX6_comesOn_1 : decode cX6_comesOn 1 = .ok (.iload_n 1, 1) := by decide +kernel
theorem dX6_comesOn_2 : decode cX6_comesOn 2 = .ok (.bipush 104, 2) := by decide +kernel
theorem dX6_comesOn_4 : decode cX6_comesOn 4 = .ok (.invokevirtual 188, 3) := by decide +kernel
theorem dX6_comesOn_7 : decode cX6_comesOn 7 = .ok (.iconst 0, 1) := by decide +kernel
theorem dX6_comesOn_8 : decode cX6_comesOn 8 = .ok (.istore_n 3, 1) := by decide +kernel
theorem dX6_comesOn_9 : decode cX6_comesOn 9 = .ok (.iload_n 3, 1) := by decide +kernel
theorem dX6_comesOn_10 : decode cX6_comesOn 10 = .ok (.bipush 60, 2) := by decide +kernel
theorem dX6_comesOn_12 : decode cX6_comesOn 12 = .ok (.if_icmp .gt 27, 3) := by decide +kernel
theorem dX6_comesOn_15 : decode cX6_comesOn 15 = .ok (.aload_n 0, 1) := by decide +kernel
theorem dX6_comesOn_16 : decode cX6_comesOn 16 = .ok (.bipush 104, 2) := by decide +kernel
theorem dX6_comesOn_18 : decode cX6_comesOn 18 = .ok (.invokevirtual 124, 3) := by decide +kernel
theorem dX6_comesOn_21 : decode cX6_comesOn 21 = .ok (.iload_n 2, 1) := by decide +kernel
theorem dX6_comesOn_22 : decode cX6_comesOn 22 = .ok (.if_icmp .ne 5, 3) := by decide +kernel
theorem dX6_comesOn_25 : decode cX6_comesOn 25 = .ok (.iload_n 3, 1) := by decide +kernel
theorem dX6_comesOn_26 : decode cX6_comesOn 26 = .ok (.ireturn, 1) := by decide +kernel
theorem dX6_comesOn_27 : decode cX6_comesOn 27 = .ok (.aload_n 0, 1) := by decide +kernel
theorem dX6_comesOn_28 : decode cX6_comesOn 28 = .ok (.bipush 104, 2) := by decide +kernel
theorem dX6_comesOn_30 : decode cX6_comesOn 30 = .ok (.invokevirtual 185, 3) := by decide +kernel
theorem dX6_comesOn_33 : decode cX6_comesOn 33 = .ok (.iinc 3 1, 3) := by decide +kernel
theorem dX6_comesOn_36 : decode cX6_comesOn 36 = .ok (.goto (-27), 3) := by decide +kernel
theorem dX6_comesOn_39 : decode cX6_comesOn 39 = .ok (.bipush (-4), 2) := by decide +kernel
theorem dX6_comesOn_41 : decode cX6_comesOn 41 = .ok (.ireturn, 1) := by decide +kernel
set_option maxRecDepth 20000 in
theorem ggX6_comes_X6_isCell : GoodIn wsX6_comes wsX6_isCell := goodIn_r _ [4, 5, 6, 7, 3, 8] (by decide +kernel) (by decide +kernel)
set_option maxRecDepth 20000 in
theorem gX6_comes_X6_isCell : GoodIn wsX6_comes (va_wsS RX6 160 yX6_isCell wsX6_isCell) := goodIn_app (goodIn_of _ (by decide +kernel)) ggX6_comes_X6_isCell
set_option maxRecDepth 20000 in
theorem ggX6_comes_X6_comesOn : GoodIn wsX6_comes wsX6_comesOn := goodIn_r _ [12, 13, 14, 15, 3, 16, 17, 18, 19, 20, 21, 22, 23, 24, 25, 26, 27, 28, 29, 30, 31, 32, 33, 34, 35, 36, 37, 38, 39, 40, 41, 42, 43, 44, 45, 46, 47, 48, 49, 50, 51, 52, 53, 54, 55, 56, 57, 58, 59, 60, 61, 62, 63, 64, 65, 66, 67, 68, 69, 70, 71, 72, 73, 74, 75, 76, 77, 78, 79, 80, 81, 82, 83, 84, 85, 86] (by decide +kernel) (by decide +kernel)
set_option maxRecDepth 20000 in
theorem gX6_comes_X6_comesOn : GoodIn wsX6_comes (wsV RX6 205 RX6 yX6_comesOn wsX6_comesOn) := goodIn_app (goodIn_of _ (by decide +kernel)) ggX6_comes_X6_comesOn
theorem dX6_comes_0 : decode cX6_comes 0 = .ok (.iload_n 1, 1) := by decide +kernel
theorem dX6_comes_1 : decode cX6_comes 1 = .ok (.invokestatic 160, 3) := by decide +kernel
theorem dX6_comes_4 : decode cX6_comes 4 = .ok (.ifCond .eq 12, 3) := by decide +kernel
theorem dX6_comes_7 : decode cX6_comes 7 = .ok (.aload_n 0, 1) := by decide +kernel
theorem dX6_comes_8 : decode cX6_comes 8 = .ok (.iconst 0, 1) := by decide +kernel
theorem dX6_comes_9 : decode cX6_comes 9 = .ok (.iload_n 1, 1) := by decide +kernel
theorem dX6_comes_10 : decode cX6_comes 10 = .ok (.invokevirtual 205, 3) := by decide +kernel
theorem dX6_comes_13 : decode cX6_comes 13 = .ok (.goto 4, 3) := by decide +kernel
theorem dX6_comes_16 : decode cX6_comes 16 = .ok (.iconst (-1), 1) := by decide +kernel
theorem dX6_comes_17 : decode cX6_comes 17 = .ok (.ireturn, 1) := by decide +kernel
theorem dX6_lowest_0 : decode cX6_lowest 0 = .ok (.lload_n 0, 1) := by decide +kernel
theorem dX6_lowest_1 : decode cX6_lowest 1 = .ok (.lstore 5, 2) := by decide +kernel
theorem dX6_lowest_3 : decode cX6_lowest 3 = .ok (.lload_n 2, 1) := by decide +kernel
theorem dX6_lowest_4 : decode cX6_lowest 4 = .ok (.lstore 7, 2) := by decide +kernel
theorem dX6_lowest_6 : decode cX6_lowest 6 = .ok (.lload 7, 2) := by decide +kernel
theorem dX6_lowest_8 : decode cX6_lowest 8 = .ok (.lconst 0, 1) := by decide +kernel
theorem dX6_lowest_9 : decode cX6_lowest 9 = .ok (.lcmp, 1) := by decide +kernel
theorem dX6_lowest_10 : decode cX6_lowest 10 = .ok (.ifCond .eq 21, 3) := by decide +kernel
theorem dX6_lowest_13 : decode cX6_lowest 13 = .ok (.lload 5, 2) := by decide +kernel
theorem dX6_lowest_15 : decode cX6_lowest 15 = .ok (.lload 7, 2) := by decide +kernel
theorem dX6_lowest_17 : decode cX6_lowest 17 = .ok (.lrem, 1) := by decide +kernel
theorem dX6_lowest_18 : decode cX6_lowest 18 = .ok (.lstore 9, 2) := by decide +kernel
theorem dX6_lowest_20 : decode cX6_lowest 20 = .ok (.lload 7, 2) := by decide +kernel
theorem dX6_lowest_22 : decode cX6_lowest 22 = .ok (.lstore 5, 2) := by decide +kernel
theorem dX6_lowest_24 : decode cX6_lowest 24 = .ok (.lload 9, 2) := by decide +kernel
theorem dX6_lowest_26 : decode cX6_lowest 26 = .ok (.lstore 7, 2) := by decide +kernel
theorem dX6_lowest_28 : decode cX6_lowest 28 = .ok (.goto (-22), 3) := by decide +kernel
theorem dX6_lowest_31 : decode cX6_lowest 31 = .ok (.iload 4, 2) := by decide +kernel
theorem dX6_lowest_33 : decode cX6_lowest 33 = .ok (.ifCond .ne 7, 3) := by decide +kernel
theorem dX6_lowest_36 : decode cX6_lowest 36 = .ok (.lload_n 0, 1) := by decide +kernel
theorem dX6_lowest_37 : decode cX6_lowest 37 = .ok (.goto 4, 3) := by decide +kernel
theorem dX6_lowest_40 : decode cX6_lowest 40 = .ok (.lload_n 2, 1) := by decide +kernel
theorem dX6_lowest_41 : decode cX6_lowest 41 = .ok (.lload 5, 2) := by decide +kernel
theorem dX6_lowest_43 : decode cX6_lowest 43 = .ok (.ldiv, 1) := by decide +kernel
theorem dX6_lowest_44 : decode cX6_lowest 44 = .ok (.lreturn, 1) := by decide +kernel
set_option maxRecDepth 20000 in
theorem ggX6_share_X6_isDraw : GoodIn wsX6_share wsX6_isDraw := goodIn_r _ [7, 8, 9, 10, 6, 11, 62, 63, 64, 65, 66, 67, 68, 69, 70, 71, 72, 73, 74, 75, 76, 77, 78, 79, 80, 81, 82, 83, 84, 85, 86, 87] (by decide +kernel) (by decide +kernel)
set_option maxRecDepth 20000 in
theorem gX6_share_X6_isDraw : GoodIn wsX6_share (wsV RX6 153 RX6 yX6_isDraw wsX6_isDraw) := goodIn_app (goodIn_of _ (by decide +kernel)) ggX6_share_X6_isDraw
set_option maxRecDepth 20000 in
theorem ggX6_share_X6_in : GoodIn wsX6_share wsX6_in := goodIn_r _ [11] (by decide +kernel) (by decide +kernel)
set_option maxRecDepth 20000 in
theorem gX6_share_X6_in : GoodIn wsX6_share (va_wsS RX6 50 yX6_in wsX6_in) := goodIn_app (goodIn_of _ (by decide +kernel)) ggX6_share_X6_in
set_option maxRecDepth 20000 in
theorem ggX6_share_X6_copies : GoodIn wsX6_share wsX6_copies := goodIn_r _ [15, 8, 62, 63, 64, 65, 66, 67, 68, 69, 70, 71, 72, 73, 74, 75, 76, 77, 78, 79, 80, 81, 82, 83, 84, 85, 86, 87] (by decide +kernel) (by decide +kernel)
set_option maxRecDepth 20000 in
theorem gX6_share_X6_copies : GoodIn wsX6_share (wsV RX6 188 RX6 yX6_copies wsX6_copies) := goodIn_app (goodIn_of _ (by decide +kernel)) ggX6_share_X6_copies
set_option maxRecDepth 20000 in
theorem ggX6_share_X6_holderOn : GoodIn wsX6_share wsX6_holderOn := goodIn_r _ [19, 8, 20, 21, 22, 6, 23, 24, 25, 26, 27, 28, 29, 30, 31, 32, 33, 34, 35, 36, 37, 38, 39, 40, 41, 42, 43, 44, 45, 46, 47, 48, 49, 50, 62, 63, 64, 65, 66, 67, 68, 69, 70, 71, 72, 73, 74, 75, 76, 77, 78, 79, 80, 81, 82, 83, 84, 85, 86, 87] (by decide +kernel) (by decide +kernel)
set_option maxRecDepth 20000 in
theorem gX6_share_X6_holderOn : GoodIn wsX6_share (wsV RX6 146 RX6 yX6_holderOn wsX6_holderOn) := goodIn_app (goodIn_of _ (by decide +kernel)) ggX6_share_X6_holderOn
set_option maxRecDepth 20000 in
theorem ggX6_share_X6_yearOn : GoodIn wsX6_share wsX6_yearOn := goodIn_r _ [54, 8, 16, 17, 18, 6, 19, 20, 21, 22, 23, 24, 25, 26, 27, 28, 29, 30, 31, 32, 33, 34, 35, 36, 37, 38, 39, 40, 41, 42, 43, 44, 45, 46, 47, 48, 49, 50, 55, 56, 57, 58, 62, 63, 64, 65, 66, 67, 68, 69, 70, 71, 72, 73, 74, 75, 76, 77, 78, 79, 80, 81, 82, 83, 84, 85, 86, 87] (by decide +kernel) (by decide +kernel)
set_option maxRecDepth 20000 in
theorem gX6_share_X6_yearOn : GoodIn wsX6_share (wsV RX6 185 RX6 yX6_yearOn wsX6_yearOn) := goodIn_app (goodIn_of _ (by decide +kernel)) ggX6_share_X6_yearOn
set_option maxRecDepth 20000 in
theorem ggX6_share_X6_lowest : GoodIn wsX6_share wsX6_lowest := goodIn_r _ [61] (by decide +kernel) (by decide +kernel)
set_option maxRecDepth 20000 in
theorem gX6_share_X6_lowest : GoodIn wsX6_share (va_wsS RX6 210 yX6_lowest wsX6_lowest) := goodIn_app (goodIn_of _ (by decide +kernel)) ggX6_share_X6_lowest
theorem dX6_share_0 : decode cX6_share 0 = .ok (.aload_n 0, 1) := by decide +kernel
theorem dX6_share_1 : decode cX6_share 1 = .ok (.iload_n 1, 1) := by decide +kernel
theorem dX6_share_2 : decode cX6_share 2 = .ok (.invokevirtual 153, 3) := by decide +kernel
theorem dX6_share_5 : decode cX6_share 5 = .ok (.ifCond .eq 25, 3) := by decide +kernel
theorem dX6_share_8 : decode cX6_share 8 = .ok (.iload_n 2, 1) := by decide +kernel
theorem dX6_share_9 : decode cX6_share 9 = .ok (.i2l, 1) := by decide +kernel
theorem dX6_share_10 : decode cX6_share 10 = .ok (.lconst 1, 1) := by decide +kernel
theorem dX6_share_11 : decode cX6_share 11 = .ok (.ldc2_w 163, 3) := by decide +kernel
theorem dX6_share_14 : decode cX6_share 14 = .ok (.invokestatic 50, 3) := by decide +kernel
theorem dX6_share_17 : decode cX6_share 17 = .ok (.ifCond .eq 13, 3) := by decide +kernel
theorem dX6_share_20 : decode cX6_share 20 = .ok (.iload_n 3, 1) := by decide +kernel
theorem dX6_share_21 : decode cX6_share 21 = .ok (.i2l, 1) := by decide +kernel
theorem dX6_share_22 : decode cX6_share 22 = .ok (.lconst 0, 1) := by decide +kernel
theorem dX6_share_23 : decode cX6_share 23 = .ok (.lconst 1, 1) := by decide +kernel
theorem dX6_share_24 : decode cX6_share 24 = .ok (.invokestatic 50, 3) := by decide +kernel
theorem dX6_share_27 : decode cX6_share 27 = .ok (.ifCond .ne 7, 3) := by decide +kernel
theorem dX6_share_30 : decode cX6_share 30 = .ok (.ldc2_w 208, 3) := by decide +kernel
theorem dX6_share_33 : decode cX6_share 33 = .ok (.lreturn, 1) := by decide +kernel
theorem dX6_share_34 : decode cX6_share 34 = .ok (.aload_n 0, 1) := by decide +kernel
theorem dX6_share_35 : decode cX6_share 35 = .ok (.iconst 0, 1) := by decide +kernel
theorem dX6_share_36 : decode cX6_share 36 = .ok (.bipush 104, 2) := by decide +kernel
theorem dX6_share_38 : decode cX6_share 38 = .ok (.invokevirtual 188, 3) := by decide +kernel
theorem dX6_share_41 : decode cX6_share 41 = .ok (.iconst 0, 1) := by decide +kernel
theorem dX6_share_42 : decode cX6_share 42 = .ok (.istore 4, 2) := by decide +kernel
theorem dX6_share_44 : decode cX6_share 44 = .ok (.iconst 0, 1) := by decide +kernel
theorem dX6_share_45 : decode cX6_share 45 = .ok (.istore 5, 2) := by decide +kernel
theorem dX6_share_47 : decode cX6_share 47 = .ok (.iload 5, 2) := by decide +kernel
theorem dX6_share_49 : decode cX6_share 49 = .ok (.iload_n 2, 1) := by decide +kernel
theorem dX6_share_50 : decode cX6_share 50 = .ok (.if_icmp .ge 35, 3) := by decide +kernel
theorem dX6_share_53 : decode cX6_share 53 = .ok (.iload 4, 2) := by decide +kernel
theorem dX6_share_55 : decode cX6_share 55 = .ok (.aload_n 0, 1) := by decide +kernel
theorem dX6_share_56 : decode cX6_share 56 = .ok (.bipush 104, 2) := by decide +kernel
theorem dX6_share_58 : decode cX6_share 58 = .ok (.invokevirtual 146, 3) := by decide +kernel
theorem dX6_share_61 : decode cX6_share 61 = .ok (.iload_n 1, 1) := by decide +kernel
theorem dX6_share_62 : decode cX6_share 62 = .ok (.if_icmp .ne 7, 3) := by decide +kernel
theorem dX6_share_65 : decode cX6_share 65 = .ok (.iconst 1, 1) := by decide +kernel
theorem dX6_share_66 : decode cX6_share 66 = .ok (.goto 4, 3) := by decide +kernel
theorem dX6_share_69 : decode cX6_share 69 = .ok (.iconst 0, 1) := by decide +kernel
theorem dX6_share_70 : decode cX6_share 70 = .ok (.iadd, 1) := by decide +kernel
theorem dX6_share_71 : decode cX6_share 71 = .ok (.istore 4, 2) := by decide +kernel
theorem dX6_share_73 : decode cX6_share 73 = .ok (.aload_n 0, 1) := by decide +kernel
theorem dX6_share_74 : decode cX6_share 74 = .ok (.bipush 104, 2) := by decide +kernel
theorem dX6_share_76 : decode cX6_share 76 = .ok (.invokevirtual 185, 3) := by decide +kernel
theorem dX6_share_79 : decode cX6_share 79 = .ok (.iinc 5 1, 3) := by decide +kernel
theorem dX6_share_82 : decode cX6_share 82 = .ok (.goto (-35), 3) := by decide +kernel
theorem dX6_share_85 : decode cX6_share 85 = .ok (.iload 4, 2) := by decide +kernel
theorem dX6_share_87 : decode cX6_share 87 = .ok (.i2l, 1) := by decide +kernel
theorem dX6_share_88 : decode cX6_share 88 = .ok (.iload_n 2, 1) := by decide +kernel
theorem dX6_share_89 : decode cX6_share 89 = .ok (.i2l, 1) := by decide +kernel
theorem dX6_share_90 : decode cX6_share 90 = .ok (.iload_n 3, 1) := by decide +kernel
theorem dX6_share_91 : decode cX6_share 91 = .ok (.invokestatic 210, 3) := by decide +kernel
theorem dX6_share_94 : decode cX6_share 94 = .ok (.lreturn, 1) := by decide +kernel
set_option maxRecDepth 20000 in
theorem ggX6_turn_X6_holderOn : GoodIn wsX6_turn wsX6_holderOn := goodIn_r _ [5, 6, 7, 8, 9, 4, 10, 11, 12, 13, 14, 15, 16, 17, 18, 19, 20, 21, 22, 23, 24, 25, 26, 27, 28, 29, 30, 31, 32, 33, 34, 35, 36, 37, 50, 51, 52, 53, 54, 55, 56, 57, 58, 59, 60, 61, 62, 63, 64, 65, 66, 67, 68, 69, 70, 71, 72, 73, 74, 75] (by decide +kernel) (by decide +kernel)
set_option maxRecDepth 20000 in
theorem gX6_turn_X6_holderOn : GoodIn wsX6_turn (wsV RX6 146 RX6 yX6_holderOn wsX6_holderOn) := goodIn_app (goodIn_of _ (by decide +kernel)) ggX6_turn_X6_holderOn
set_option maxRecDepth 20000 in
theorem ggX6_turn_X6_copies : GoodIn wsX6_turn wsX6_copies := goodIn_r _ [41, 6, 50, 51, 52, 53, 54, 55, 56, 57, 58, 59, 60, 61, 62, 63, 64, 65, 66, 67, 68, 69, 70, 71, 72, 73, 74, 75] (by decide +kernel) (by decide +kernel)
set_option maxRecDepth 20000 in
theorem gX6_turn_X6_copies : GoodIn wsX6_turn (wsV RX6 188 RX6 yX6_copies wsX6_copies) := goodIn_app (goodIn_of _ (by decide +kernel)) ggX6_turn_X6_copies
set_option maxRecDepth 20000 in
theorem ggX6_turn_X6_yearOn : GoodIn wsX6_turn wsX6_yearOn := goodIn_r _ [45, 6, 1, 2, 3, 4, 5, 7, 8, 9, 10, 11, 12, 13, 14, 15, 16, 17, 18, 19, 20, 21, 22, 23, 24, 25, 26, 27, 28, 29, 30, 31, 32, 33, 34, 35, 36, 37, 46, 47, 48, 49, 50, 51, 52, 53, 54, 55, 56, 57, 58, 59, 60, 61, 62, 63, 64, 65, 66, 67, 68, 69, 70, 71, 72, 73, 74, 75] (by decide +kernel) (by decide +kernel)
set_option maxRecDepth 20000 in
theorem gX6_turn_X6_yearOn : GoodIn wsX6_turn (wsV RX6 185 RX6 yX6_yearOn wsX6_yearOn) := goodIn_app (goodIn_of _ (by decide +kernel)) ggX6_turn_X6_yearOn
theorem dX6_turn_0 : decode cX6_turn 0 = .ok (.aload_n 0, 1) := by decide +kernel
theorem dX6_turn_1 : decode cX6_turn 1 = .ok (.iconst 0, 1) := by decide +kernel
theorem dX6_turn_2 : decode cX6_turn 2 = .ok (.invokevirtual 146, 3) := by decide +kernel
theorem dX6_turn_5 : decode cX6_turn 5 = .ok (.istore_n 1, 1) := by decide +kernel
theorem dX6_turn_6 : decode cX6_turn 6 = .ok (.aload_n 0, 1) := by decide +kernel
theorem dX6_turn_7 : decode cX6_turn 7 = .ok (.iconst 0, 1) := by decide +kernel
theorem dX6_turn_8 : decode cX6_turn 8 = .ok (.bipush 104, 2) := by decide +kernel
theorem dX6_turn_10 : decode cX6_turn 10 = .ok (.invokevirtual 188, 3) := by decide +kernel
theorem dX6_turn_13 : decode cX6_turn 13 = .ok (.iconst 1, 1) := by decide +kernel
theorem dX6_turn_14 : decode cX6_turn 14 = .ok (.istore_n 2, 1) := by decide +kernel
theorem dX6_turn_15 : decode cX6_turn 15 = .ok (.iload_n 2, 1) := by decide +kernel
theorem dX6_turn_16 : decode cX6_turn 16 = .ok (.bipush 60, 2) := by decide +kernel
theorem dX6_turn_18 : decode cX6_turn 18 = .ok (.if_icmp .gt 27, 3) := by decide +kernel
theorem dX6_turn_21 : decode cX6_turn 21 = .ok (.aload_n 0, 1) := by decide +kernel
theorem dX6_turn_22 : decode cX6_turn 22 = .ok (.bipush 104, 2) := by decide +kernel
theorem dX6_turn_24 : decode cX6_turn 24 = .ok (.invokevirtual 185, 3) := by decide +kernel
theorem dX6_turn_27 : decode cX6_turn 27 = .ok (.aload_n 0, 1) := by decide +kernel
theorem dX6_turn_28 : decode cX6_turn 28 = .ok (.bipush 104, 2) := by decide +kernel
theorem dX6_turn_30 : decode cX6_turn 30 = .ok (.invokevirtual 146, 3) := by decide +kernel
theorem dX6_turn_33 : decode cX6_turn 33 = .ok (.iload_n 1, 1) := by decide +kernel
theorem dX6_turn_34 : decode cX6_turn 34 = .ok (.if_icmp .eq 5, 3) := by decide +kernel
theorem dX6_turn_37 : decode cX6_turn 37 = .ok (.iload_n 2, 1) := by decide +kernel
theorem dX6_turn_38 : decode cX6_turn 38 = .ok (.ireturn, 1) := by decide +kernel
theorem dX6_turn_39 : decode cX6_turn 39 = .ok (.iinc 2 1, 3) := by decide +kernel
theorem dX6_turn_42 : decode cX6_turn 42 = .ok (.goto (-27), 3) := by decide +kernel
theorem dX6_turn_45 : decode cX6_turn 45 = .ok (.bipush (-4), 2) := by decide +kernel
theorem dX6_turn_47 : decode cX6_turn 47 = .ok (.ireturn, 1) := by decide +kernel
set_option maxRecDepth 20000 in
theorem ggX6_isFallenBehind_X6_yearsGo : GoodIn wsX6_isFallenBehind wsX6_yearsGo := goodIn_r _ [7, 1, 8, 9, 10, 11, 12, 6, 13, 2, 14, 15, 16, 17, 18, 19, 20, 21, 22, 23, 24, 25, 26, 27, 28, 29, 30, 31, 32, 33, 34, 35, 36, 37, 38, 39, 40, 41, 42, 43, 44, 45, 46, 47, 48, 49, 50, 51, 52, 53, 54, 55, 56, 57, 58, 59, 60, 61, 62, 63, 64, 65, 66, 67, 68, 69, 70, 71, 72, 73, 74, 75, 76, 77, 78, 79, 80, 81, 82] (by decide +kernel) (by decide +kernel)
set_option maxRecDepth 20000 in
theorem gX6_isFallenBehind_X6_yearsGo : GoodIn wsX6_isFallenBehind (wsV RX6 202 RX6 yX6_yearsGo wsX6_yearsGo) := goodIn_app (goodIn_of _ (by decide +kernel)) ggX6_isFallenBehind_X6_yearsGo
theorem dX6_isFallenBehind_0 : decode cX6_isFallenBehind 0 = .ok (.aload_n 0, 1) := by decide +kernel
theorem dX6_isFallenBehind_1 : decode cX6_isFallenBehind 1 = .ok (.iload_n 1, 1) := by decide +kernel
theorem dX6_isFallenBehind_2 : decode cX6_isFallenBehind 2 = .ok (.bipush 60, 2) := by decide +kernel
theorem dX6_isFallenBehind_4 : decode cX6_isFallenBehind 4 = .ok (.invokevirtual 202, 3) := by decide +kernel
theorem dX6_isFallenBehind_7 : decode cX6_isFallenBehind 7 = .ok (.aload_n 0, 1) := by decide +kernel
theorem dX6_isFallenBehind_8 : decode cX6_isFallenBehind 8 = .ok (.getfield 191, 3) := by decide +kernel
theorem dX6_isFallenBehind_11 : decode cX6_isFallenBehind 11 = .ok (.aload_n 0, 1) := by decide +kernel
theorem dX6_isFallenBehind_12 : decode cX6_isFallenBehind 12 = .ok (.getfield 7, 3) := by decide +kernel
theorem dX6_isFallenBehind_15 : decode cX6_isFallenBehind 15 = .ok (.iload_n 1, 1) := by decide +kernel
theorem dX6_isFallenBehind_16 : decode cX6_isFallenBehind 16 = .ok (.bipush 24, 2) := by decide +kernel
theorem dX6_isFallenBehind_18 : decode cX6_isFallenBehind 18 = .ok (.iadd, 1) := by decide +kernel
theorem dX6_isFallenBehind_19 : decode cX6_isFallenBehind 19 = .ok (.iaload, 1) := by decide +kernel
theorem dX6_isFallenBehind_20 : decode cX6_isFallenBehind 20 = .ok (.bipush 9, 2) := by decide +kernel
theorem dX6_isFallenBehind_22 : decode cX6_isFallenBehind 22 = .ok (.iadd, 1) := by decide +kernel
theorem dX6_isFallenBehind_23 : decode cX6_isFallenBehind 23 = .ok (.if_icmp .le 7, 3) := by decide +kernel
theorem dX6_isFallenBehind_26 : decode cX6_isFallenBehind 26 = .ok (.iconst 1, 1) := by decide +kernel
theorem dX6_isFallenBehind_27 : decode cX6_isFallenBehind 27 = .ok (.goto 4, 3) := by decide +kernel
theorem dX6_isFallenBehind_30 : decode cX6_isFallenBehind 30 = .ok (.iconst 0, 1) := by decide +kernel
theorem dX6_isFallenBehind_31 : decode cX6_isFallenBehind 31 = .ok (.ireturn, 1) := by decide +kernel
set_option maxRecDepth 20000 in
theorem ggX6_need_X6_copies : GoodIn wsX6_need wsX6_copies := goodIn_r _ [6, 1, 61, 62, 63, 64, 65, 66, 67, 68, 69, 70, 71, 72, 73, 74, 75, 76, 77, 78, 79, 80, 81, 82, 83, 84, 85, 86] (by decide +kernel) (by decide +kernel)
set_option maxRecDepth 20000 in
theorem gX6_need_X6_copies : GoodIn wsX6_need (wsV RX6 188 RX6 yX6_copies wsX6_copies) := goodIn_app (goodIn_of _ (by decide +kernel)) ggX6_need_X6_copies
set_option maxRecDepth 20000 in
theorem ggX6_need_X6_isFallenBehind : GoodIn wsX6_need wsX6_isFallenBehind := goodIn_r _ [10, 11, 1, 12, 13, 14, 5, 15, 16, 17, 2, 3, 4, 6, 18, 19, 20, 21, 22, 23, 24, 25, 26, 27, 28, 29, 30, 31, 32, 33, 34, 35, 36, 37, 38, 39, 40, 41, 42, 43, 44, 45, 46, 47, 48, 49, 50, 51, 52, 53, 54, 55, 56, 57, 58, 59, 60, 61, 62, 63, 64, 65, 66, 67, 68, 69, 70, 71, 72, 73, 74, 75, 76, 77, 78, 79, 80, 81, 82, 83, 84, 85, 86] (by decide +kernel) (by decide +kernel)
set_option maxRecDepth 20000 in
theorem gX6_need_X6_isFallenBehind : GoodIn wsX6_need (wsV RX6 214 RX6 yX6_isFallenBehind wsX6_isFallenBehind) := goodIn_app (goodIn_of _ (by decide +kernel)) ggX6_need_X6_isFallenBehind
theorem dX6_need_0 : decode cX6_need 0 = .ok (.iconst 0, 1) := by decide +kernel
theorem dX6_need_1 : decode cX6_need 1 = .ok (.istore_n 1, 1) := by decide +kernel
theorem dX6_need_2 : decode cX6_need 2 = .ok (.iload_n 1, 1) := by decide +kernel
theorem dX6_need_3 : decode cX6_need 3 = .ok (.bipush 18, 2) := by decide +kernel
theorem dX6_need_5 : decode cX6_need 5 = .ok (.if_icmp .gt 41, 3) := by decide +kernel
theorem dX6_need_8 : decode cX6_need 8 = .ok (.aload_n 0, 1) := by decide +kernel
theorem dX6_need_9 : decode cX6_need 9 = .ok (.iconst 0, 1) := by decide +kernel
theorem dX6_need_10 : decode cX6_need 10 = .ok (.sipush 130, 3) := by decide +kernel
theorem dX6_need_13 : decode cX6_need 13 = .ok (.invokevirtual 188, 3) := by decide +kernel
theorem dX6_need_16 : decode cX6_need 16 = .ok (.aload_n 0, 1) := by decide +kernel
theorem dX6_need_17 : decode cX6_need 17 = .ok (.getfield 7, 3) := by decide +kernel
theorem dX6_need_20 : decode cX6_need 20 = .ok (.sipush 154, 3) := by decide +kernel
theorem dX6_need_23 : decode cX6_need 23 = .ok (.iload_n 1, 1) := by decide +kernel
theorem dX6_need_24 : decode cX6_need 24 = .ok (.bipush 9, 2) := by decide +kernel
theorem dX6_need_26 : decode cX6_need 26 = .ok (.isub, 1) := by decide +kernel
theorem dX6_need_27 : decode cX6_need 27 = .ok (.iastore, 1) := by decide +kernel
theorem dX6_need_28 : decode cX6_need 28 = .ok (.aload_n 0, 1) := by decide +kernel
theorem dX6_need_29 : decode cX6_need 29 = .ok (.sipush 130, 3) := by decide +kernel
theorem dX6_need_32 : decode cX6_need 32 = .ok (.invokevirtual 214, 3) := by decide +kernel
theorem dX6_need_35 : decode cX6_need 35 = .ok (.ifCond .ne 5, 3) := by decide +kernel
theorem dX6_need_38 : decode cX6_need 38 = .ok (.iload_n 1, 1) := by decide +kernel
theorem dX6_need_39 : decode cX6_need 39 = .ok (.ireturn, 1) := by decide +kernel
theorem dX6_need_40 : decode cX6_need 40 = .ok (.iinc 1 1, 3) := by decide +kernel
theorem dX6_need_43 : decode cX6_need 43 = .ok (.goto (-41), 3) := by decide +kernel
theorem dX6_need_46 : decode cX6_need 46 = .ok (.bipush (-4), 2) := by decide +kernel
theorem dX6_need_48 : decode cX6_need 48 = .ok (.ireturn, 1) := by decide +kernel
set_option maxRecDepth 20000 in
theorem ggX6_brace_X6_copies : GoodIn wsX6_brace wsX6_copies := goodIn_r _ [6, 1, 61, 62, 63, 64, 65, 66, 67, 68, 69, 70, 71, 72, 73, 74, 75, 76, 77, 78, 79, 80, 81, 82, 83, 84, 85, 86] (by decide +kernel) (by decide +kernel)
set_option maxRecDepth 20000 in
theorem gX6_brace_X6_copies : GoodIn wsX6_brace (wsV RX6 188 RX6 yX6_copies wsX6_copies) := goodIn_app (goodIn_of _ (by decide +kernel)) ggX6_brace_X6_copies
set_option maxRecDepth 20000 in
theorem ggX6_brace_X6_isFallenBehind : GoodIn wsX6_brace wsX6_isFallenBehind := goodIn_r _ [10, 11, 1, 12, 13, 14, 5, 15, 16, 17, 2, 3, 4, 6, 18, 19, 20, 21, 22, 23, 24, 25, 26, 27, 28, 29, 30, 31, 32, 33, 34, 35, 36, 37, 38, 39, 40, 41, 42, 43, 44, 45, 46, 47, 48, 49, 50, 51, 52, 53, 54, 55, 56, 57, 58, 59, 60, 61, 62, 63, 64, 65, 66, 67, 68, 69, 70, 71, 72, 73, 74, 75, 76, 77, 78, 79, 80, 81, 82, 83, 84, 85, 86] (by decide +kernel) (by decide +kernel)
set_option maxRecDepth 20000 in
theorem gX6_brace_X6_isFallenBehind : GoodIn wsX6_brace (wsV RX6 214 RX6 yX6_isFallenBehind wsX6_isFallenBehind) := goodIn_app (goodIn_of _ (by decide +kernel)) ggX6_brace_X6_isFallenBehind
theorem dX6_brace_0 : decode cX6_brace 0 = .ok (.iconst 0, 1) := by decide +kernel
theorem dX6_brace_1 : decode cX6_brace 1 = .ok (.istore_n 1, 1) := by decide +kernel
theorem dX6_brace_2 : decode cX6_brace 2 = .ok (.iload_n 1, 1) := by decide +kernel
theorem dX6_brace_3 : decode cX6_brace 3 = .ok (.bipush 20, 2) := by decide +kernel
theorem dX6_brace_5 : decode cX6_brace 5 = .ok (.if_icmp .gt 40, 3) := by decide +kernel
theorem dX6_brace_8 : decode cX6_brace 8 = .ok (.aload_n 0, 1) := by decide +kernel
theorem dX6_brace_9 : decode cX6_brace 9 = .ok (.iconst 0, 1) := by decide +kernel
theorem dX6_brace_10 : decode cX6_brace 10 = .ok (.sipush 130, 3) := by decide +kernel
theorem dX6_brace_13 : decode cX6_brace 13 = .ok (.invokevirtual 188, 3) := by decide +kernel
theorem dX6_brace_16 : decode cX6_brace 16 = .ok (.aload_n 0, 1) := by decide +kernel
theorem dX6_brace_17 : decode cX6_brace 17 = .ok (.getfield 7, 3) := by decide +kernel
theorem dX6_brace_20 : decode cX6_brace 20 = .ok (.sipush 153, 3) := by decide +kernel
theorem dX6_brace_23 : decode cX6_brace 23 = .ok (.iload_n 1, 1) := by decide +kernel
theorem dX6_brace_24 : decode cX6_brace 24 = .ok (.iconst 2, 1) := by decide +kernel
theorem dX6_brace_25 : decode cX6_brace 25 = .ok (.isub, 1) := by decide +kernel
theorem dX6_brace_26 : decode cX6_brace 26 = .ok (.iastore, 1) := by decide +kernel
theorem dX6_brace_27 : decode cX6_brace 27 = .ok (.aload_n 0, 1) := by decide +kernel
theorem dX6_brace_28 : decode cX6_brace 28 = .ok (.sipush 130, 3) := by decide +kernel
theorem dX6_brace_31 : decode cX6_brace 31 = .ok (.invokevirtual 214, 3) := by decide +kernel
theorem dX6_brace_34 : decode cX6_brace 34 = .ok (.ifCond .ne 5, 3) := by decide +kernel
theorem dX6_brace_37 : decode cX6_brace 37 = .ok (.iload_n 1, 1) := by decide +kernel
theorem dX6_brace_38 : decode cX6_brace 38 = .ok (.ireturn, 1) := by decide +kernel
theorem dX6_brace_39 : decode cX6_brace 39 = .ok (.iinc 1 1, 3) := by decide +kernel
theorem dX6_brace_42 : decode cX6_brace 42 = .ok (.goto (-40), 3) := by decide +kernel
theorem dX6_brace_45 : decode cX6_brace 45 = .ok (.bipush (-4), 2) := by decide +kernel
theorem dX6_brace_47 : decode cX6_brace 47 = .ok (.ireturn, 1) := by decide +kernel
set_option maxRecDepth 20000 in
theorem ggX6_lure_X6_isDraw : GoodIn wsX6_lure wsX6_isDraw := goodIn_r _ [6, 1, 7, 8, 5, 9, 65, 66, 67, 68, 69, 70, 71, 72, 73, 74, 75, 76, 77, 78, 79, 80, 81, 82, 83, 84, 85, 86, 87, 88, 89, 90] (by decide +kernel) (by decide +kernel)
set_option maxRecDepth 20000 in
theorem gX6_lure_X6_isDraw : GoodIn wsX6_lure (wsV RX6 153 RX6 yX6_isDraw wsX6_isDraw) := goodIn_app (goodIn_of _ (by decide +kernel)) ggX6_lure_X6_isDraw
set_option maxRecDepth 20000 in
theorem ggX6_lure_X6_isCell : GoodIn wsX6_lure wsX6_isCell := goodIn_r _ [12, 13, 7, 8, 5, 9] (by decide +kernel) (by decide +kernel)
set_option maxRecDepth 20000 in
theorem gX6_lure_X6_isCell : GoodIn wsX6_lure (va_wsS RX6 160 yX6_isCell wsX6_isCell) := goodIn_app (goodIn_of _ (by decide +kernel)) ggX6_lure_X6_isCell
set_option maxRecDepth 20000 in
theorem ggX6_lure_X6_copies : GoodIn wsX6_lure wsX6_copies := goodIn_r _ [17, 1, 65, 66, 67, 68, 69, 70, 71, 72, 73, 74, 75, 76, 77, 78, 79, 80, 81, 82, 83, 84, 85, 86, 87, 88, 89, 90] (by decide +kernel) (by decide +kernel)
set_option maxRecDepth 20000 in
theorem gX6_lure_X6_copies : GoodIn wsX6_lure (wsV RX6 188 RX6 yX6_copies wsX6_copies) := goodIn_app (goodIn_of _ (by decide +kernel)) ggX6_lure_X6_copies
set_option maxRecDepth 20000 in
theorem ggX6_lure_X6_comesOn : GoodIn wsX6_lure wsX6_comesOn := goodIn_r _ [21, 14, 15, 16, 5, 17, 1, 22, 23, 24, 25, 26, 27, 28, 29, 30, 31, 32, 33, 34, 35, 36, 37, 38, 39, 40, 41, 42, 43, 44, 45, 46, 47, 48, 49, 50, 51, 52, 53, 54, 55, 56, 57, 58, 59, 60, 61, 62, 63, 64, 65, 66, 67, 68, 69, 70, 71, 72, 73, 74, 75, 76, 77, 78, 79, 80, 81, 82, 83, 84, 85, 86, 87, 88, 89, 90] (by decide +kernel) (by decide +kernel)
set_option maxRecDepth 20000 in
theorem gX6_lure_X6_comesOn : GoodIn wsX6_lure (wsV RX6 205 RX6 yX6_comesOn wsX6_comesOn) := goodIn_app (goodIn_of _ (by decide +kernel)) ggX6_lure_X6_comesOn
theorem dX6_lure_0 : decode cX6_lure 0 = .ok (.aload_n 0, 1) := by decide +kernel
theorem dX6_lure_1 : decode cX6_lure 1 = .ok (.iload_n 1, 1) := by decide +kernel
theorem dX6_lure_2 : decode cX6_lure 2 = .ok (.invokevirtual 153, 3) := by decide +kernel
theorem dX6_lure_5 : decode cX6_lure 5 = .ok (.ifCond .eq 10, 3) := by decide +kernel
theorem dX6_lure_8 : decode cX6_lure 8 = .ok (.iload_n 2, 1) := by decide +kernel
theorem dX6_lure_9 : decode cX6_lure 9 = .ok (.invokestatic 160, 3) := by decide +kernel
theorem dX6_lure_12 : decode cX6_lure 12 = .ok (.ifCond .ne 5, 3) := by decide +kernel
theorem dX6_lure_15 : decode cX6_lure 15 = .ok (.iconst (-1), 1) := by decide +kernel
theorem dX6_lure_16 : decode cX6_lure 16 = .ok (.ireturn, 1) := by decide +kernel
theorem dX6_lure_17 : decode cX6_lure 17 = .ok (.iconst 1, 1) := by decide +kernel
theorem dX6_lure_18 : decode cX6_lure 18 = .ok (.istore_n 3, 1) := by decide +kernel
theorem dX6_lure_19 : decode cX6_lure 19 = .ok (.iload_n 3, 1) := by decide +kernel
theorem dX6_lure_20 : decode cX6_lure 20 = .ok (.bipush 20, 2) := by decide +kernel
theorem dX6_lure_22 : decode cX6_lure 22 = .ok (.if_icmp .gt 43, 3) := by decide +kernel
theorem dX6_lure_25 : decode cX6_lure 25 = .ok (.aload_n 0, 1) := by decide +kernel
theorem dX6_lure_26 : decode cX6_lure 26 = .ok (.iconst 0, 1) := by decide +kernel
theorem dX6_lure_27 : decode cX6_lure 27 = .ok (.sipush 130, 3) := by decide +kernel
theorem dX6_lure_30 : decode cX6_lure 30 = .ok (.invokevirtual 188, 3) := by decide +kernel
theorem dX6_lure_33 : decode cX6_lure 33 = .ok (.aload_n 0, 1) := by decide +kernel
theorem dX6_lure_34 : decode cX6_lure 34 = .ok (.getfield 7, 3) := by decide +kernel
theorem dX6_lure_37 : decode cX6_lure 37 = .ok (.sipush 135, 3) := by decide +kernel
theorem dX6_lure_40 : decode cX6_lure 40 = .ok (.iload_n 1, 1) := by decide +kernel
theorem dX6_lure_41 : decode cX6_lure 41 = .ok (.iadd, 1) := by decide +kernel
theorem dX6_lure_42 : decode cX6_lure 42 = .ok (.iload_n 3, 1) := by decide +kernel
theorem dX6_lure_43 : decode cX6_lure 43 = .ok (.iastore, 1) := by decide +kernel
theorem dX6_lure_44 : decode cX6_lure 44 = .ok (.aload_n 0, 1) := by decide +kernel
theorem dX6_lure_45 : decode cX6_lure 45 = .ok (.sipush 130, 3) := by decide +kernel
theorem dX6_lure_48 : decode cX6_lure 48 = .ok (.iload_n 2, 1) := by decide +kernel
theorem dX6_lure_49 : decode cX6_lure 49 = .ok (.invokevirtual 205, 3) := by decide +kernel
theorem dX6_lure_52 : decode cX6_lure 52 = .ok (.bipush (-4), 2) := by decide +kernel
theorem dX6_lure_54 : decode cX6_lure 54 = .ok (.if_icmp .eq 5, 3) := by decide +kernel
theorem dX6_lure_57 : decode cX6_lure 57 = .ok (.iload_n 3, 1) := by decide +kernel
theorem dX6_lure_58 : decode cX6_lure 58 = .ok (.ireturn, 1) := by decide +kernel
theorem dX6_lure_59 : decode cX6_lure 59 = .ok (.iinc 3 1, 3) := by decide +kernel
theorem dX6_lure_62 : decode cX6_lure 62 = .ok (.goto (-43), 3) := by decide +kernel
theorem dX6_lure_65 : decode cX6_lure 65 = .ok (.bipush (-4), 2) := by decide +kernel
theorem dX6_lure_67 : decode cX6_lure 67 = .ok (.ireturn, 1) := by decide +kernel
set_option maxRecDepth 20000 in
theorem ggX6_site_X6_isPut : GoodIn wsX6_site wsX6_isPut := goodIn_r _ [5, 6, 7, 8, 9, 4, 10, 11, 12, 13, 14] (by decide +kernel) (by decide +kernel)
set_option maxRecDepth 20000 in
theorem gX6_site_X6_isPut : GoodIn wsX6_site (va_wsS RX6 175 yX6_isPut wsX6_isPut) := goodIn_app (goodIn_of _ (by decide +kernel)) ggX6_site_X6_isPut
set_option maxRecDepth 20000 in
theorem ggX6_site_X6_in : GoodIn wsX6_site wsX6_in := goodIn_r _ [10] (by decide +kernel) (by decide +kernel)
set_option maxRecDepth 20000 in
theorem gX6_site_X6_in : GoodIn wsX6_site (va_wsS RX6 50 yX6_in wsX6_in) := goodIn_app (goodIn_of _ (by decide +kernel)) ggX6_site_X6_in
set_option maxRecDepth 20000 in
theorem ggX6_site_X6_copies : GoodIn wsX6_site wsX6_copies := goodIn_r _ [18, 1, 70, 71, 72, 73, 74, 75, 76, 77, 78, 79, 80, 81, 82, 83, 84, 85, 86, 87, 88, 89, 90, 91, 92, 93, 94, 95] (by decide +kernel) (by decide +kernel)
set_option maxRecDepth 20000 in
theorem gX6_site_X6_copies : GoodIn wsX6_site (wsV RX6 188 RX6 yX6_copies wsX6_copies) := goodIn_app (goodIn_of _ (by decide +kernel)) ggX6_site_X6_copies
set_option maxRecDepth 20000 in
theorem ggX6_site_X6_putsOn : GoodIn wsX6_site wsX6_putsOn := goodIn_r _ [22, 1, 70, 71, 72, 73, 74, 75, 76, 77, 78, 79, 80, 81, 82, 83, 84, 85, 86, 87, 88, 89, 90, 91, 92, 93, 94, 95] (by decide +kernel) (by decide +kernel)
set_option maxRecDepth 20000 in
theorem gX6_site_X6_putsOn : GoodIn wsX6_site (wsV RX6 179 RX6 yX6_putsOn wsX6_putsOn) := goodIn_app (goodIn_of _ (by decide +kernel)) ggX6_site_X6_putsOn
set_option maxRecDepth 20000 in
theorem ggX6_site_X6_comesOn : GoodIn wsX6_site wsX6_comesOn := goodIn_r _ [26, 15, 16, 17, 4, 18, 1, 27, 28, 29, 30, 31, 32, 33, 34, 35, 36, 37, 38, 39, 40, 41, 42, 43, 44, 45, 46, 47, 48, 49, 50, 51, 52, 53, 54, 55, 56, 57, 58, 59, 60, 61, 62, 63, 64, 65, 66, 67, 68, 69, 70, 71, 72, 73, 74, 75, 76, 77, 78, 79, 80, 81, 82, 83, 84, 85, 86, 87, 88, 89, 90, 91, 92, 93, 94, 95] (by decide +kernel) (by decide +kernel)
set_option maxRecDepth 20000 in
theorem gX6_site_X6_comesOn : GoodIn wsX6_site (wsV RX6 205 RX6 yX6_comesOn wsX6_comesOn) := goodIn_app (goodIn_of _ (by decide +kernel)) ggX6_site_X6_comesOn
theorem dX6_site_0 : decode cX6_site 0 = .ok (.iload_n 1, 1) := by decide +kernel
theorem dX6_site_1 : decode cX6_site 1 = .ok (.iload_n 2, 1) := by decide +kernel
theorem dX6_site_2 : decode cX6_site 2 = .ok (.iload_n 3, 1) := by decide +kernel
theorem dX6_site_3 : decode cX6_site 3 = .ok (.invokestatic 175, 3) := by decide +kernel
theorem dX6_site_6 : decode cX6_site 6 = .ok (.ifCond .eq 14, 3) := by decide +kernel
theorem dX6_site_9 : decode cX6_site 9 = .ok (.iload 4, 2) := by decide +kernel
theorem dX6_site_11 : decode cX6_site 11 = .ok (.i2l, 1) := by decide +kernel
theorem dX6_site_12 : decode cX6_site 12 = .ok (.lconst 0, 1) := by decide +kernel
theorem dX6_site_13 : decode cX6_site 13 = .ok (.lconst 1, 1) := by decide +kernel
theorem dX6_site_14 : decode cX6_site 14 = .ok (.invokestatic 50, 3) := by decide +kernel
theorem dX6_site_17 : decode cX6_site 17 = .ok (.ifCond .ne 5, 3) := by decide +kernel
theorem dX6_site_20 : decode cX6_site 20 = .ok (.iconst (-1), 1) := by decide +kernel
theorem dX6_site_21 : decode cX6_site 21 = .ok (.ireturn, 1) := by decide +kernel
theorem dX6_site_22 : decode cX6_site 22 = .ok (.aload_n 0, 1) := by decide +kernel
theorem dX6_site_23 : decode cX6_site 23 = .ok (.getfield 7, 3) := by decide +kernel
theorem dX6_site_26 : decode cX6_site 26 = .ok (.bipush 20, 2) := by decide +kernel
theorem dX6_site_28 : decode cX6_site 28 = .ok (.iaload, 1) := by decide +kernel
theorem dX6_site_29 : decode cX6_site 29 = .ok (.iconst 5, 1) := by decide +kernel
theorem dX6_site_30 : decode cX6_site 30 = .ok (.if_icmp .ne 6, 3) := by decide +kernel
theorem dX6_site_33 : decode cX6_site 33 = .ok (.bipush (-3), 2) := by decide +kernel
