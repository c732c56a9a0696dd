theorem dX5_drift_23 : decode cX5_drift 23 = .ok (.getfield 97, 3) := by decide +kernel
theorem dX5_drift_26 : decode cX5_drift 26 = .ok (.istore 4, 2) := by decide +kernel
theorem dX5_drift_28 : decode cX5_drift 28 = .ok (.iload 4, 2) := by decide +kernel
theorem dX5_drift_30 : decode cX5_drift 30 = .ok (.ifCond .gt 6, 3) := by decide +kernel
theorem dX5_drift_33 : decode cX5_drift 33 = .ok (.bipush (-2), 2) := by decide +kernel
theorem dX5_drift_35 : decode cX5_drift 35 = .ok (.ireturn, 1) := by decide +kernel
theorem dX5_drift_36 : decode cX5_drift 36 = .ok (.aload_n 0, 1) := by decide +kernel
theorem dX5_drift_37 : decode cX5_drift 37 = .ok (.getfield 16, 3) := by decide +kernel
theorem dX5_drift_40 : decode cX5_drift 40 = .ok (.aload_n 0, 1) := by decide +kernel
theorem dX5_drift_41 : decode cX5_drift 41 = .ok (.getfield 10, 3) := by decide +kernel
theorem dX5_drift_44 : decode cX5_drift 44 = .ok (.invokevirtual 90, 3) := by decide +kernel
theorem dX5_drift_47 : decode cX5_drift 47 = .ok (.aload_n 0, 1) := by decide +kernel
theorem dX5_drift_48 : decode cX5_drift 48 = .ok (.getfield 16, 3) := by decide +kernel
theorem dX5_drift_51 : decode cX5_drift 51 = .ok (.invokevirtual 109, 3) := by decide +kernel
theorem dX5_drift_54 : decode cX5_drift 54 = .ok (.istore 5, 2) := by decide +kernel
theorem dX5_drift_56 : decode cX5_drift 56 = .ok (.iload_n 1, 1) := by decide +kernel
theorem dX5_drift_57 : decode cX5_drift 57 = .ok (.istore 6, 2) := by decide +kernel
theorem dX5_drift_59 : decode cX5_drift 59 = .ok (.iconst 0, 1) := by decide +kernel
theorem dX5_drift_60 : decode cX5_drift 60 = .ok (.istore 7, 2) := by decide +kernel
theorem dX5_drift_62 : decode cX5_drift 62 = .ok (.iload 7, 2) := by decide +kernel
theorem dX5_drift_64 : decode cX5_drift 64 = .ok (.iload_n 2, 1) := by decide +kernel
theorem dX5_drift_65 : decode cX5_drift 65 = .ok (.if_icmp .ge 75, 3) := by decide +kernel
theorem dX5_drift_68 : decode cX5_drift 68 = .ok (.iload 6, 2) := by decide +kernel
theorem dX5_drift_70 : decode cX5_drift 70 = .ok (.ldc_w 256, 3) := by decide +kernel
theorem dX5_drift_73 : decode cX5_drift 73 = .ok (.imul, 1) := by decide +kernel
theorem dX5_drift_74 : decode cX5_drift 74 = .ok (.sipush 12345, 3) := by decide +kernel
theorem dX5_drift_77 : decode cX5_drift 77 = .ok (.iadd, 1) := by decide +kernel
theorem dX5_drift_78 : decode cX5_drift 78 = .ok (.istore 6, 2) := by decide +kernel
theorem dX5_drift_80 : decode cX5_drift 80 = .ok (.iload 6, 2) := by decide +kernel
theorem dX5_drift_82 : decode cX5_drift 82 = .ok (.bipush 16, 2) := by decide +kernel
theorem dX5_drift_84 : decode cX5_drift 84 = .ok (.iushr, 1) := by decide +kernel
theorem dX5_drift_85 : decode cX5_drift 85 = .ok (.sipush 32767, 3) := by decide +kernel
theorem dX5_drift_88 : decode cX5_drift 88 = .ok (.iand, 1) := by decide +kernel
theorem dX5_drift_89 : decode cX5_drift 89 = .ok (.istore 8, 2) := by decide +kernel
theorem dX5_drift_91 : decode cX5_drift 91 = .ok (.aload_n 0, 1) := by decide +kernel
theorem dX5_drift_92 : decode cX5_drift 92 = .ok (.getfield 16, 3) := by decide +kernel
theorem dX5_drift_95 : decode cX5_drift 95 = .ok (.iload 8, 2) := by decide +kernel
theorem dX5_drift_97 : decode cX5_drift 97 = .ok (.iload 4, 2) := by decide +kernel
theorem dX5_drift_99 : decode cX5_drift 99 = .ok (.irem, 1) := by decide +kernel
theorem dX5_drift_100 : decode cX5_drift 100 = .ok (.iconst 2, 1) := by decide +kernel
theorem dX5_drift_101 : decode cX5_drift 101 = .ok (.iload 8, 2) := by decide +kernel
theorem dX5_drift_103 : decode cX5_drift 103 = .ok (.bipush 8, 2) := by decide +kernel
theorem dX5_drift_105 : decode cX5_drift 105 = .ok (.idiv, 1) := by decide +kernel
theorem dX5_drift_106 : decode cX5_drift 106 = .ok (.bipush 100, 2) := by decide +kernel
theorem dX5_drift_108 : decode cX5_drift 108 = .ok (.irem, 1) := by decide +kernel
theorem dX5_drift_109 : decode cX5_drift 109 = .ok (.invokevirtual 150, 3) := by decide +kernel
theorem dX5_drift_112 : decode cX5_drift 112 = .ok (.aload_n 0, 1) := by decide +kernel
theorem dX5_drift_113 : decode cX5_drift 113 = .ok (.getfield 16, 3) := by decide +kernel
theorem dX5_drift_116 : decode cX5_drift 116 = .ok (.invokevirtual 195, 3) := by decide +kernel
theorem dX5_drift_119 : decode cX5_drift 119 = .ok (.pop, 1) := by decide +kernel
theorem dX5_drift_120 : decode cX5_drift 120 = .ok (.iload 5, 2) := by decide +kernel
theorem dX5_drift_122 : decode cX5_drift 122 = .ok (.aload_n 0, 1) := by decide +kernel
theorem dX5_drift_123 : decode cX5_drift 123 = .ok (.getfield 16, 3) := by decide +kernel
theorem dX5_drift_126 : decode cX5_drift 126 = .ok (.invokevirtual 109, 3) := by decide +kernel
theorem dX5_drift_129 : decode cX5_drift 129 = .ok (.invokestatic 257, 3) := by decide +kernel
theorem dX5_drift_132 : decode cX5_drift 132 = .ok (.istore 5, 2) := by decide +kernel
theorem dX5_drift_134 : decode cX5_drift 134 = .ok (.iinc 7 1, 3) := by decide +kernel
theorem dX5_drift_137 : decode cX5_drift 137 = .ok (.goto (-75), 3) := by decide +kernel
theorem dX5_drift_140 : decode cX5_drift 140 = .ok (.iload_n 3, 1) := by decide +kernel
theorem dX5_drift_141 : decode cX5_drift 141 = .ok (.ifCond .ne 13, 3) := by decide +kernel
theorem dX5_drift_144 : decode cX5_drift 144 = .ok (.aload_n 0, 1) := by decide +kernel
theorem dX5_drift_145 : decode cX5_drift 145 = .ok (.getfield 16, 3) := by decide +kernel
theorem dX5_drift_148 : decode cX5_drift 148 = .ok (.getfield 106, 3) := by decide +kernel
theorem dX5_drift_151 : decode cX5_drift 151 = .ok (.goto 5, 3) := by decide +kernel
theorem dX5_drift_154 : decode cX5_drift 154 = .ok (.iload 5, 2) := by decide +kernel
theorem dX5_drift_156 : decode cX5_drift 156 = .ok (.ireturn, 1) := by decide +kernel
set_option maxRecDepth 20000 in
theorem ggX5_keep_X5_within : GoodIn wsX5_keep wsX5_within := goodIn_r _ [7] (by decide +kernel) (by decide +kernel)
set_option maxRecDepth 20000 in
theorem gX5_keep_X5_within : GoodIn wsX5_keep (va_wsS RX5 62 yX5_within wsX5_within) := goodIn_app (goodIn_of _ (by decide +kernel)) ggX5_keep_X5_within
set_option maxRecDepth 20000 in
theorem ggX5_keep_X4_copyFrom : GoodIn wsX5_keep wsX4_copyFrom := goodIn_r _ [11, 12, 13, 14, 15, 16, 17, 18, 19, 20, 21, 22, 35, 36, 37, 38, 39, 40, 41] (by decide +kernel) (by decide +kernel)
set_option maxRecDepth 20000 in
theorem gX5_keep_X4_copyFrom_n90 : GoodIn wsX5_keep (wsX4_copyFrom) := ggX5_keep_X4_copyFrom
theorem dX5_keep_0 : decode cX5_keep 0 = .ok (.iload_n 1, 1) := by decide +kernel
theorem dX5_keep_1 : decode cX5_keep 1 = .ok (.iconst 0, 1) := by decide +kernel
theorem dX5_keep_2 : decode cX5_keep 2 = .ok (.iconst 1, 1) := by decide +kernel
theorem dX5_keep_3 : decode cX5_keep 3 = .ok (.invokestatic 62, 3) := by decide +kernel
theorem dX5_keep_6 : decode cX5_keep 6 = .ok (.ifCond .ne 5, 3) := by decide +kernel
theorem dX5_keep_9 : decode cX5_keep 9 = .ok (.iconst (-1), 1) := by decide +kernel
theorem dX5_keep_10 : decode cX5_keep 10 = .ok (.ireturn, 1) := by decide +kernel
theorem dX5_keep_11 : decode cX5_keep 11 = .ok (.aload_n 0, 1) := by decide +kernel
theorem dX5_keep_12 : decode cX5_keep 12 = .ok (.getfield 23, 3) := by decide +kernel
theorem dX5_keep_15 : decode cX5_keep 15 = .ok (.iload_n 1, 1) := by decide +kernel
theorem dX5_keep_16 : decode cX5_keep 16 = .ok (.baload, 1) := by decide +kernel
theorem dX5_keep_17 : decode cX5_keep 17 = .ok (.ifCond .eq 7, 3) := by decide +kernel
theorem dX5_keep_20 : decode cX5_keep 20 = .ok (.iconst 1, 1) := by decide +kernel
theorem dX5_keep_21 : decode cX5_keep 21 = .ok (.goto 4, 3) := by decide +kernel
theorem dX5_keep_24 : decode cX5_keep 24 = .ok (.iconst 0, 1) := by decide +kernel
theorem dX5_keep_25 : decode cX5_keep 25 = .ok (.istore_n 2, 1) := by decide +kernel
theorem dX5_keep_26 : decode cX5_keep 26 = .ok (.aload_n 0, 1) := by decide +kernel
theorem dX5_keep_27 : decode cX5_keep 27 = .ok (.getfield 19, 3) := by decide +kernel
theorem dX5_keep_30 : decode cX5_keep 30 = .ok (.iload_n 1, 1) := by decide +kernel
theorem dX5_keep_31 : decode cX5_keep 31 = .ok (.aaload, 1) := by decide +kernel
theorem dX5_keep_32 : decode cX5_keep 32 = .ok (.aload_n 0, 1) := by decide +kernel
theorem dX5_keep_33 : decode cX5_keep 33 = .ok (.getfield 10, 3) := by decide +kernel
theorem dX5_keep_36 : decode cX5_keep 36 = .ok (.invokevirtual 90, 3) := by decide +kernel
theorem dX5_keep_39 : decode cX5_keep 39 = .ok (.aload_n 0, 1) := by decide +kernel
theorem dX5_keep_40 : decode cX5_keep 40 = .ok (.getfield 23, 3) := by decide +kernel
theorem dX5_keep_43 : decode cX5_keep 43 = .ok (.iload_n 1, 1) := by decide +kernel
theorem dX5_keep_44 : decode cX5_keep 44 = .ok (.iconst 1, 1) := by decide +kernel
theorem dX5_keep_45 : decode cX5_keep 45 = .ok (.bastore, 1) := by decide +kernel
theorem dX5_keep_46 : decode cX5_keep 46 = .ok (.iload_n 2, 1) := by decide +kernel
theorem dX5_keep_47 : decode cX5_keep 47 = .ok (.ireturn, 1) := by decide +kernel
set_option maxRecDepth 20000 in
theorem ggX5_back_X5_within : GoodIn wsX5_back wsX5_within := goodIn_r _ [7] (by decide +kernel) (by decide +kernel)
set_option maxRecDepth 20000 in
theorem gX5_back_X5_within : GoodIn wsX5_back (va_wsS RX5 62 yX5_within wsX5_within) := goodIn_app (goodIn_of _ (by decide +kernel)) ggX5_back_X5_within
set_option maxRecDepth 20000 in
theorem ggX5_back_X4_copyFrom : GoodIn wsX5_back wsX4_copyFrom := goodIn_r _ [11, 12, 13, 14, 15, 16, 17, 18, 19, 20, 21, 22, 35, 36, 37, 38, 39, 40, 41] (by decide +kernel) (by decide +kernel)
set_option maxRecDepth 20000 in
theorem gX5_back_X4_copyFrom_n90 : GoodIn wsX5_back (wsX4_copyFrom) := ggX5_back_X4_copyFrom
theorem dX5_back_0 : decode cX5_back 0 = .ok (.iload_n 1, 1) := by decide +kernel
theorem dX5_back_1 : decode cX5_back 1 = .ok (.iconst 0, 1) := by decide +kernel
theorem dX5_back_2 : decode cX5_back 2 = .ok (.iconst 1, 1) := by decide +kernel
theorem dX5_back_3 : decode cX5_back 3 = .ok (.invokestatic 62, 3) := by decide +kernel
theorem dX5_back_6 : decode cX5_back 6 = .ok (.ifCond .ne 5, 3) := by decide +kernel
theorem dX5_back_9 : decode cX5_back 9 = .ok (.iconst (-1), 1) := by decide +kernel
theorem dX5_back_10 : decode cX5_back 10 = .ok (.ireturn, 1) := by decide +kernel
theorem dX5_back_11 : decode cX5_back 11 = .ok (.aload_n 0, 1) := by decide +kernel
theorem dX5_back_12 : decode cX5_back 12 = .ok (.getfield 23, 3) := by decide +kernel
theorem dX5_back_15 : decode cX5_back 15 = .ok (.iload_n 1, 1) := by decide +kernel
theorem dX5_back_16 : decode cX5_back 16 = .ok (.baload, 1) := by decide +kernel
theorem dX5_back_17 : decode cX5_back 17 = .ok (.ifCond .ne 6, 3) := by decide +kernel
theorem dX5_back_20 : decode cX5_back 20 = .ok (.bipush (-2), 2) := by decide +kernel
theorem dX5_back_22 : decode cX5_back 22 = .ok (.ireturn, 1) := by decide +kernel
theorem dX5_back_23 : decode cX5_back 23 = .ok (.aload_n 0, 1) := by decide +kernel
theorem dX5_back_24 : decode cX5_back 24 = .ok (.getfield 10, 3) := by decide +kernel
theorem dX5_back_27 : decode cX5_back 27 = .ok (.aload_n 0, 1) := by decide +kernel
theorem dX5_back_28 : decode cX5_back 28 = .ok (.getfield 19, 3) := by decide +kernel
theorem dX5_back_31 : decode cX5_back 31 = .ok (.iload_n 1, 1) := by decide +kernel
theorem dX5_back_32 : decode cX5_back 32 = .ok (.aaload, 1) := by decide +kernel
theorem dX5_back_33 : decode cX5_back 33 = .ok (.invokevirtual 90, 3) := by decide +kernel
theorem dX5_back_36 : decode cX5_back 36 = .ok (.aload_n 0, 1) := by decide +kernel
theorem dX5_back_37 : decode cX5_back 37 = .ok (.getfield 10, 3) := by decide +kernel
theorem dX5_back_40 : decode cX5_back 40 = .ok (.getfield 100, 3) := by decide +kernel
theorem dX5_back_43 : decode cX5_back 43 = .ok (.ireturn, 1) := by decide +kernel
set_option maxRecDepth 20000 in
theorem ggX5_sheet_X5_isSheet : GoodIn wsX5_sheet wsX5_isSheet := goodIn_r _ [5, 6, 7, 4, 8] (by decide +kernel) (by decide +kernel)
set_option maxRecDepth 20000 in
theorem gX5_sheet_X5_isSheet : GoodIn wsX5_sheet (va_wsS RX5 262 yX5_isSheet wsX5_isSheet) := goodIn_app (goodIn_of _ (by decide +kernel)) ggX5_sheet_X5_isSheet
set_option maxRecDepth 20000 in
theorem ggX5_sheet_X5_isLane : GoodIn wsX5_sheet wsX5_isLane := goodIn_r _ [11, 6, 7, 4, 8] (by decide +kernel) (by decide +kernel)
set_option maxRecDepth 20000 in
theorem gX5_sheet_X5_isLane : GoodIn wsX5_sheet (va_wsS RX5 265 yX5_isLane wsX5_isLane) := goodIn_app (goodIn_of _ (by decide +kernel)) ggX5_sheet_X5_isLane
set_option maxRecDepth 20000 in
theorem ggX5_sheet_X1_renew : GoodIn wsX5_sheet wsX1_renew := goodIn_r _ [15, 16, 17, 18, 31, 32, 33] (by decide +kernel) (by decide +kernel)
set_option maxRecDepth 20000 in
theorem gX5_sheet_X1_renew_n268 : GoodIn wsX5_sheet (wsX1_renew) := ggX5_sheet_X1_renew
theorem dX5_sheet_0 : decode cX5_sheet 0 = .ok (.iload_n 1, 1) := by decide +kernel
theorem dX5_sheet_1 : decode cX5_sheet 1 = .ok (.invokestatic 262, 3) := by decide +kernel
theorem dX5_sheet_4 : decode cX5_sheet 4 = .ok (.ifCond .eq 16, 3) := by decide +kernel
theorem dX5_sheet_7 : decode cX5_sheet 7 = .ok (.iload_n 2, 1) := by decide +kernel
theorem dX5_sheet_8 : decode cX5_sheet 8 = .ok (.invokestatic 265, 3) := by decide +kernel
theorem dX5_sheet_11 : decode cX5_sheet 11 = .ok (.ifCond .eq 9, 3) := by decide +kernel
theorem dX5_sheet_14 : decode cX5_sheet 14 = .ok (.iload_n 3, 1) := by decide +kernel
theorem dX5_sheet_15 : decode cX5_sheet 15 = .ok (.bipush 40, 2) := by decide +kernel
theorem dX5_sheet_17 : decode cX5_sheet 17 = .ok (.if_icmp .le 5, 3) := by decide +kernel
theorem dX5_sheet_20 : decode cX5_sheet 20 = .ok (.iconst (-1), 1) := by decide +kernel
theorem dX5_sheet_21 : decode cX5_sheet 21 = .ok (.ireturn, 1) := by decide +kernel
theorem dX5_sheet_22 : decode cX5_sheet 22 = .ok (.iload_n 3, 1) := by decide +kernel
theorem dX5_sheet_23 : decode cX5_sheet 23 = .ok (.ifCond .ge 6, 3) := by decide +kernel
theorem dX5_sheet_26 : decode cX5_sheet 26 = .ok (.bipush (-14), 2) := by decide +kernel
theorem dX5_sheet_28 : decode cX5_sheet 28 = .ok (.ireturn, 1) := by decide +kernel
theorem dX5_sheet_29 : decode cX5_sheet 29 = .ok (.aload_n 0, 1) := by decide +kernel
theorem dX5_sheet_30 : decode cX5_sheet 30 = .ok (.getfield 50, 3) := by decide +kernel
theorem dX5_sheet_33 : decode cX5_sheet 33 = .ok (.iload_n 1, 1) := by decide +kernel
theorem dX5_sheet_34 : decode cX5_sheet 34 = .ok (.aaload, 1) := by decide +kernel
theorem dX5_sheet_35 : decode cX5_sheet 35 = .ok (.iload_n 2, 1) := by decide +kernel
theorem dX5_sheet_36 : decode cX5_sheet 36 = .ok (.iload_n 3, 1) := by decide +kernel
theorem dX5_sheet_37 : decode cX5_sheet 37 = .ok (.invokevirtual 268, 3) := by decide +kernel
theorem dX5_sheet_40 : decode cX5_sheet 40 = .ok (.iconst 1, 1) := by decide +kernel
theorem dX5_sheet_41 : decode cX5_sheet 41 = .ok (.ireturn, 1) := by decide +kernel
set_option maxRecDepth 20000 in
theorem ggX5_lay_X5_isSheet : GoodIn wsX5_lay wsX5_isSheet := goodIn_r _ [5, 6, 7, 4, 8] (by decide +kernel) (by decide +kernel)
set_option maxRecDepth 20000 in
theorem gX5_lay_X5_isSheet : GoodIn wsX5_lay (va_wsS RX5 262 yX5_isSheet wsX5_isSheet) := goodIn_app (goodIn_of _ (by decide +kernel)) ggX5_lay_X5_isSheet
set_option maxRecDepth 20000 in
theorem ggX5_lay_X1_faultOf : GoodIn wsX5_lay wsX1_faultOf := goodIn_r _ [12, 13, 14, 15, 16, 17, 10, 18, 35, 36, 37] (by decide +kernel) (by decide +kernel)
set_option maxRecDepth 20000 in
theorem gX5_lay_X1_faultOf_n274 : GoodIn wsX5_lay (wsX1_faultOf) := ggX5_lay_X1_faultOf
set_option maxRecDepth 20000 in
theorem ggX5_lay_X1_write : GoodIn wsX5_lay wsX1_write := goodIn_r _ [21, 13, 22, 35, 36, 37] (by decide +kernel) (by decide +kernel)
set_option maxRecDepth 20000 in
theorem gX5_lay_X1_write_n277 : GoodIn wsX5_lay (wsX1_write) := ggX5_lay_X1_write
theorem dX5_lay_0 : decode cX5_lay 0 = .ok (.iload_n 1, 1) := by decide +kernel
theorem dX5_lay_1 : decode cX5_lay 1 = .ok (.invokestatic 262, 3) := by decide +kernel
theorem dX5_lay_4 : decode cX5_lay 4 = .ok (.ifCond .ne 5, 3) := by decide +kernel
theorem dX5_lay_7 : decode cX5_lay 7 = .ok (.iconst (-1), 1) := by decide +kernel
theorem dX5_lay_8 : decode cX5_lay 8 = .ok (.ireturn, 1) := by decide +kernel
theorem dX5_lay_9 : decode cX5_lay 9 = .ok (.aload_n 0, 1) := by decide +kernel
theorem dX5_lay_10 : decode cX5_lay 10 = .ok (.getfield 50, 3) := by decide +kernel
theorem dX5_lay_13 : decode cX5_lay 13 = .ok (.iload_n 1, 1) := by decide +kernel
theorem dX5_lay_14 : decode cX5_lay 14 = .ok (.aaload, 1) := by decide +kernel
theorem dX5_lay_15 : decode cX5_lay 15 = .ok (.astore 4, 2) := by decide +kernel
theorem dX5_lay_17 : decode cX5_lay 17 = .ok (.aload 4, 2) := by decide +kernel
theorem dX5_lay_19 : decode cX5_lay 19 = .ok (.aload 4, 2) := by decide +kernel
theorem dX5_lay_21 : decode cX5_lay 21 = .ok (.getfield 271, 3) := by decide +kernel
theorem dX5_lay_24 : decode cX5_lay 24 = .ok (.iload_n 2, 1) := by decide +kernel
theorem dX5_lay_25 : decode cX5_lay 25 = .ok (.invokevirtual 274, 3) := by decide +kernel
theorem dX5_lay_28 : decode cX5_lay 28 = .ok (.istore 5, 2) := by decide +kernel
theorem dX5_lay_30 : decode cX5_lay 30 = .ok (.iload 5, 2) := by decide +kernel
theorem dX5_lay_32 : decode cX5_lay 32 = .ok (.ifCond .eq 9, 3) := by decide +kernel
theorem dX5_lay_35 : decode cX5_lay 35 = .ok (.bipush (-10), 2) := by decide +kernel
theorem dX5_lay_37 : decode cX5_lay 37 = .ok (.iload 5, 2) := by decide +kernel
theorem dX5_lay_39 : decode cX5_lay 39 = .ok (.isub, 1) := by decide +kernel
theorem dX5_lay_40 : decode cX5_lay 40 = .ok (.ireturn, 1) := by decide +kernel
theorem dX5_lay_41 : decode cX5_lay 41 = .ok (.aload 4, 2) := by decide +kernel
theorem dX5_lay_43 : decode cX5_lay 43 = .ok (.iload_n 2, 1) := by decide +kernel
theorem dX5_lay_44 : decode cX5_lay 44 = .ok (.iload_n 3, 1) := by decide +kernel
theorem dX5_lay_45 : decode cX5_lay 45 = .ok (.invokevirtual 277, 3) := by decide +kernel
theorem dX5_lay_48 : decode cX5_lay 48 = .ok (.iconst 1, 1) := by decide +kernel
theorem dX5_lay_49 : decode cX5_lay 49 = .ok (.ireturn, 1) := by decide +kernel
set_option maxRecDepth 20000 in
theorem ggX5_read_X5_isSheet : GoodIn wsX5_read wsX5_isSheet := goodIn_r _ [8, 9, 10, 7, 11] (by decide +kernel) (by decide +kernel)
set_option maxRecDepth 20000 in
theorem gX5_read_X5_isSheet : GoodIn wsX5_read (va_wsS RX5 262 yX5_isSheet wsX5_isSheet) := goodIn_app (goodIn_of _ (by decide +kernel)) ggX5_read_X5_isSheet
set_option maxRecDepth 20000 in
theorem ggX5_read_X5_isLane : GoodIn wsX5_read wsX5_isLane := goodIn_r _ [14, 9, 10, 7, 11] (by decide +kernel) (by decide +kernel)
set_option maxRecDepth 20000 in
theorem gX5_read_X5_isLane : GoodIn wsX5_read (va_wsS RX5 265 yX5_isLane wsX5_isLane) := goodIn_app (goodIn_of _ (by decide +kernel)) ggX5_read_X5_isLane
set_option maxRecDepth 20000 in
theorem ggX5_read_X5_within : GoodIn wsX5_read wsX5_within := goodIn_r _ [11] (by decide +kernel) (by decide +kernel)
set_option maxRecDepth 20000 in
theorem gX5_read_X5_within : GoodIn wsX5_read (va_wsS RX5 62 yX5_within wsX5_within) := goodIn_app (goodIn_of _ (by decide +kernel)) ggX5_read_X5_within
set_option maxRecDepth 20000 in
theorem ggX5_read_X4_copyFrom : GoodIn wsX5_read wsX4_copyFrom := goodIn_r _ [18, 19, 20, 21, 22, 23, 24, 25, 26, 27, 28, 29, 114, 115, 116, 117, 118, 119, 120] (by decide +kernel) (by decide +kernel)
set_option maxRecDepth 20000 in
theorem gX5_read_X4_copyFrom_n90 : GoodIn wsX5_read (wsX4_copyFrom) := ggX5_read_X4_copyFrom
set_option maxRecDepth 20000 in
theorem ggX5_read_X1_faultOfPair : GoodIn wsX5_read wsX1_faultOfPair := goodIn_r _ [33, 34, 35, 36, 31, 37, 38, 39, 40, 41, 42, 43, 111, 112, 113] (by decide +kernel) (by decide +kernel)
set_option maxRecDepth 20000 in
theorem gX5_read_X1_faultOfPair_n280 : GoodIn wsX5_read (wsX1_faultOfPair) := ggX5_read_X1_faultOfPair
set_option maxRecDepth 20000 in
theorem ggX5_read_X5_removeDraw : GoodIn wsX5_read wsX5_removeDraw := goodIn_r _ [47, 2, 48, 16, 49, 50, 24, 51, 52, 7, 53, 9, 10, 11, 54, 55, 56, 19, 57, 58, 59, 26, 29, 60, 61, 62, 63, 28, 27, 64, 65, 66, 67, 25, 68, 69, 70, 71, 72, 73, 74, 75, 76, 77, 78, 79, 80, 81, 82, 83, 84, 85, 86, 87, 88, 89, 90, 91, 92, 93, 94, 95, 96, 97, 98, 99, 100, 101, 102, 103, 104, 105, 106, 107, 108, 109, 110, 114, 115, 116, 117, 118, 119, 120] (by decide +kernel) (by decide +kernel)
set_option maxRecDepth 20000 in
theorem gX5_read_X5_removeDraw : GoodIn wsX5_read (wsV RX5 286 RX5 yX5_removeDraw wsX5_removeDraw) := goodIn_app (goodIn_of _ (by decide +kernel)) ggX5_read_X5_removeDraw
theorem dX5_read_0 : decode cX5_read 0 = .ok (.iload_n 1, 1) := by decide +kernel
theorem dX5_read_1 : decode cX5_read 1 = .ok (.invokestatic 262, 3) := by decide +kernel
theorem dX5_read_4 : decode cX5_read 4 = .ok (.ifCond .eq 21, 3) := by decide +kernel
theorem dX5_read_7 : decode cX5_read 7 = .ok (.iload_n 2, 1) := by decide +kernel
theorem dX5_read_8 : decode cX5_read 8 = .ok (.invokestatic 265, 3) := by decide +kernel
theorem dX5_read_11 : decode cX5_read 11 = .ok (.ifCond .eq 14, 3) := by decide +kernel
theorem dX5_read_14 : decode cX5_read 14 = .ok (.iload 4, 2) := by decide +kernel
theorem dX5_read_16 : decode cX5_read 16 = .ok (.iconst 0, 1) := by decide +kernel
theorem dX5_read_17 : decode cX5_read 17 = .ok (.bipush 20, 2) := by decide +kernel
theorem dX5_read_19 : decode cX5_read 19 = .ok (.invokestatic 62, 3) := by decide +kernel
theorem dX5_read_22 : decode cX5_read 22 = .ok (.ifCond .ne 5, 3) := by decide +kernel
theorem dX5_read_25 : decode cX5_read 25 = .ok (.iconst (-1), 1) := by decide +kernel
theorem dX5_read_26 : decode cX5_read 26 = .ok (.ireturn, 1) := by decide +kernel
theorem dX5_read_27 : decode cX5_read 27 = .ok (.aload_n 0, 1) := by decide +kernel
theorem dX5_read_28 : decode cX5_read 28 = .ok (.getfield 50, 3) := by decide +kernel
theorem dX5_read_31 : decode cX5_read 31 = .ok (.iload_n 1, 1) := by decide +kernel
theorem dX5_read_32 : decode cX5_read 32 = .ok (.aaload, 1) := by decide +kernel
theorem dX5_read_33 : decode cX5_read 33 = .ok (.astore 5, 2) := by decide +kernel
theorem dX5_read_35 : decode cX5_read 35 = .ok (.aload_n 0, 1) := by decide +kernel
theorem dX5_read_36 : decode cX5_read 36 = .ok (.getfield 16, 3) := by decide +kernel
theorem dX5_read_39 : decode cX5_read 39 = .ok (.aload_n 0, 1) := by decide +kernel
theorem dX5_read_40 : decode cX5_read 40 = .ok (.getfield 10, 3) := by decide +kernel
theorem dX5_read_43 : decode cX5_read 43 = .ok (.invokevirtual 90, 3) := by decide +kernel
theorem dX5_read_46 : decode cX5_read 46 = .ok (.iconst 0, 1) := by decide +kernel
theorem dX5_read_47 : decode cX5_read 47 = .ok (.istore 6, 2) := by decide +kernel
theorem dX5_read_49 : decode cX5_read 49 = .ok (.iconst 0, 1) := by decide +kernel
theorem dX5_read_50 : decode cX5_read 50 = .ok (.istore 7, 2) := by decide +kernel
theorem dX5_read_52 : decode cX5_read 52 = .ok (.iload 6, 2) := by decide +kernel
theorem dX5_read_54 : decode cX5_read 54 = .ok (.iload 4, 2) := by decide +kernel
theorem dX5_read_56 : decode cX5_read 56 = .ok (.if_icmp .ge 66, 3) := by decide +kernel
theorem dX5_read_59 : decode cX5_read 59 = .ok (.iload_n 3, 1) := by decide +kernel
theorem dX5_read_60 : decode cX5_read 60 = .ok (.iconst 2, 1) := by decide +kernel
theorem dX5_read_61 : decode cX5_read 61 = .ok (.iload 6, 2) := by decide +kernel
theorem dX5_read_63 : decode cX5_read 63 = .ok (.imul, 1) := by decide +kernel
theorem dX5_read_64 : decode cX5_read 64 = .ok (.iadd, 1) := by decide +kernel
theorem dX5_read_65 : decode cX5_read 65 = .ok (.istore 8, 2) := by decide +kernel
theorem dX5_read_67 : decode cX5_read 67 = .ok (.aload 5, 2) := by decide +kernel
theorem dX5_read_69 : decode cX5_read 69 = .ok (.iload_n 2, 1) := by decide +kernel
theorem dX5_read_70 : decode cX5_read 70 = .ok (.iload 8, 2) := by decide +kernel
theorem dX5_read_72 : decode cX5_read 72 = .ok (.invokevirtual 280, 3) := by decide +kernel
theorem dX5_read_75 : decode cX5_read 75 = .ok (.istore 7, 2) := by decide +kernel
theorem dX5_read_77 : decode cX5_read 77 = .ok (.iload 7, 2) := by decide +kernel
theorem dX5_read_79 : decode cX5_read 79 = .ok (.ifCond .eq 6, 3) := by decide +kernel
theorem dX5_read_82 : decode cX5_read 82 = .ok (.goto 40, 3) := by decide +kernel
theorem dX5_read_85 : decode cX5_read 85 = .ok (.aload_n 0, 1) := by decide +kernel
theorem dX5_read_86 : decode cX5_read 86 = .ok (.aload 5, 2) := by decide +kernel
theorem dX5_read_88 : decode cX5_read 88 = .ok (.getfield 283, 3) := by decide +kernel
theorem dX5_read_91 : decode cX5_read 91 = .ok (.iload 8, 2) := by decide +kernel
theorem dX5_read_93 : decode cX5_read 93 = .ok (.iaload, 1) := by decide +kernel
theorem dX5_read_94 : decode cX5_read 94 = .ok (.aload 5, 2) := by decide +kernel
theorem dX5_read_96 : decode cX5_read 96 = .ok (.getfield 283, 3) := by decide +kernel
theorem dX5_read_99 : decode cX5_read 99 = .ok (.iload 8, 2) := by decide +kernel
theorem dX5_read_101 : decode cX5_read 101 = .ok (.iconst 1, 1) := by decide +kernel
theorem dX5_read_102 : decode cX5_read 102 = .ok (.iadd, 1) := by decide +kernel
theorem dX5_read_103 : decode cX5_read 103 = .ok (.iaload, 1) := by decide +kernel
theorem dX5_read_104 : decode cX5_read 104 = .ok (.invokevirtual 286, 3) := by decide +kernel
theorem dX5_read_107 : decode cX5_read 107 = .ok (.ifCond .ne 9, 3) := by decide +kernel
theorem dX5_read_110 : decode cX5_read 110 = .ok (.bipush (-20), 2) := by decide +kernel
theorem dX5_read_112 : decode cX5_read 112 = .ok (.iload 6, 2) := by decide +kernel
theorem dX5_read_114 : decode cX5_read 114 = .ok (.isub, 1) := by decide +kernel
theorem dX5_read_115 : decode cX5_read 115 = .ok (.ireturn, 1) := by decide +kernel
theorem dX5_read_116 : decode cX5_read 116 = .ok (.iinc 6 1, 3) := by decide +kernel
theorem dX5_read_119 : decode cX5_read 119 = .ok (.goto (-67), 3) := by decide +kernel
theorem dX5_read_122 : decode cX5_read 122 = .ok (.aload_n 0, 1) := by decide +kernel
theorem dX5_read_123 : decode cX5_read 123 = .ok (.getfield 10, 3) := by decide +kernel
theorem dX5_read_126 : decode cX5_read 126 = .ok (.aload_n 0, 1) := by decide +kernel
theorem dX5_read_127 : decode cX5_read 127 = .ok (.getfield 16, 3) := by decide +kernel
theorem dX5_read_130 : decode cX5_read 130 = .ok (.invokevirtual 90, 3) := by decide +kernel
theorem dX5_read_133 : decode cX5_read 133 = .ok (.aload_n 0, 1) := by decide +kernel
theorem dX5_read_134 : decode cX5_read 134 = .ok (.iload 7, 2) := by decide +kernel
theorem dX5_read_136 : decode cX5_read 136 = .ok (.putfield 289, 3) := by decide +kernel
theorem dX5_read_139 : decode cX5_read 139 = .ok (.iload 6, 2) := by decide +kernel
theorem dX5_read_141 : decode cX5_read 141 = .ok (.ireturn, 1) := by decide +kernel
theorem dX5_torn_0 : decode cX5_torn 0 = .ok (.aload_n 0, 1) := by decide +kernel
theorem dX5_torn_1 : decode cX5_torn 1 = .ok (.getfield 289, 3) := by decide +kernel
theorem dX5_torn_4 : decode cX5_torn 4 = .ok (.ireturn, 1) := by decide +kernel
set_option maxRecDepth 20000 in
theorem ggX5_count_X5_imagesKept : GoodIn wsX5_count wsX5_imagesKept := goodIn_r _ [9, 10, 30, 31, 32, 33, 34, 35, 36, 37, 38, 39, 40, 41] (by decide +kernel) (by decide +kernel)
set_option maxRecDepth 20000 in
theorem gX5_count_X5_imagesKept : GoodIn wsX5_count (wsV RX5 292 RX5 yX5_imagesKept wsX5_imagesKept) := goodIn_app (goodIn_of _ (by decide +kernel)) ggX5_count_X5_imagesKept
set_option maxRecDepth 20000 in
theorem ggX5_count_X1_isNothing : GoodIn wsX5_count wsX1_isNothing := goodIn_r _ [14, 15, 54, 55, 56] (by decide +kernel) (by decide +kernel)
set_option maxRecDepth 20000 in
theorem gX5_count_X1_isNothing_n295 : GoodIn wsX5_count (wsX1_isNothing) := ggX5_count_X1_isNothing
set_option maxRecDepth 20000 in
theorem ggX5_count_X4_pullOfAll : GoodIn wsX5_count wsX4_pullOfAll := goodIn_r _ [19, 20, 21, 22, 23, 17, 24, 25, 57, 58, 59, 60, 61, 62, 63] (by decide +kernel) (by decide +kernel)
set_option maxRecDepth 20000 in
theorem gX5_count_X4_pullOfAll_n299 : GoodIn wsX5_count (wsX4_pullOfAll) := ggX5_count_X4_pullOfAll
set_option maxRecDepth 20000 in
theorem ggX5_count_X4_drawing : GoodIn wsX5_count wsX4_drawing := goodIn_r _ [28, 20, 29, 21, 22, 23, 17, 24, 25, 57, 58, 59, 60, 61, 62, 63] (by decide +kernel) (by decide +kernel)
set_option maxRecDepth 20000 in
theorem gX5_count_X4_drawing_n302 : GoodIn wsX5_count (wsX4_drawing) := ggX5_count_X4_drawing
theorem dX5_count_0 : decode cX5_count 0 = .ok (.iload_n 1, 1) := by decide +kernel
theorem dX5_count_1 : decode cX5_count 1 = .ok (.tableswitch 103 0 5 #[39, 47, 52, 60, 87, 95], 39) := by decide +kernel
theorem dX5_count_40 : decode cX5_count 40 = .ok (.aload_n 0, 1) := by decide +kernel
theorem dX5_count_41 : decode cX5_count 41 = .ok (.getfield 37, 3) := by decide +kernel
theorem dX5_count_44 : decode cX5_count 44 = .ok (.getfield 94, 3) := by decide +kernel
theorem dX5_count_47 : decode cX5_count 47 = .ok (.ireturn, 1) := by decide +kernel
theorem dX5_count_48 : decode cX5_count 48 = .ok (.aload_n 0, 1) := by decide +kernel
theorem dX5_count_49 : decode cX5_count 49 = .ok (.invokevirtual 292, 3) := by decide +kernel
theorem dX5_count_52 : decode cX5_count 52 = .ok (.ireturn, 1) := by decide +kernel
theorem dX5_count_53 : decode cX5_count 53 = .ok (.aload_n 0, 1) := by decide +kernel
theorem dX5_count_54 : decode cX5_count 54 = .ok (.getfield 30, 3) := by decide +kernel
theorem dX5_count_57 : decode cX5_count 57 = .ok (.getfield 70, 3) := by decide +kernel
theorem dX5_count_60 : decode cX5_count 60 = .ok (.ireturn, 1) := by decide +kernel
theorem dX5_count_61 : decode cX5_count 61 = .ok (.aload_n 0, 1) := by decide +kernel
theorem dX5_count_62 : decode cX5_count 62 = .ok (.getfield 50, 3) := by decide +kernel
theorem dX5_count_65 : decode cX5_count 65 = .ok (.iconst 0, 1) := by decide +kernel
theorem dX5_count_66 : decode cX5_count 66 = .ok (.aaload, 1) := by decide +kernel
theorem dX5_count_67 : decode cX5_count 67 = .ok (.invokevirtual 295, 3) := by decide +kernel
theorem dX5_count_70 : decode cX5_count 70 = .ok (.ifCond .eq 8, 3) := by decide +kernel
theorem dX5_count_73 : decode cX5_count 73 = .ok (.bipush (-4), 2) := by decide +kernel
theorem dX5_count_75 : decode cX5_count 75 = .ok (.goto 12, 3) := by decide +kernel
theorem dX5_count_78 : decode cX5_count 78 = .ok (.aload_n 0, 1) := by decide +kernel
theorem dX5_count_79 : decode cX5_count 79 = .ok (.getfield 50, 3) := by decide +kernel
theorem dX5_count_82 : decode cX5_count 82 = .ok (.iconst 0, 1) := by decide +kernel
theorem dX5_count_83 : decode cX5_count 83 = .ok (.aaload, 1) := by decide +kernel
theorem dX5_count_84 : decode cX5_count 84 = .ok (.getfield 298, 3) := by decide +kernel
theorem dX5_count_87 : decode cX5_count 87 = .ok (.ireturn, 1) := by decide +kernel
theorem dX5_count_88 : decode cX5_count 88 = .ok (.aload_n 0, 1) := by decide +kernel
theorem dX5_count_89 : decode cX5_count 89 = .ok (.getfield 10, 3) := by decide +kernel
theorem dX5_count_92 : decode cX5_count 92 = .ok (.invokevirtual 299, 3) := by decide +kernel
theorem dX5_count_95 : decode cX5_count 95 = .ok (.ireturn, 1) := by decide +kernel
theorem dX5_count_96 : decode cX5_count 96 = .ok (.aload_n 0, 1) := by decide +kernel
theorem dX5_count_97 : decode cX5_count 97 = .ok (.getfield 10, 3) := by decide +kernel
theorem dX5_count_100 : decode cX5_count 100 = .ok (.invokevirtual 302, 3) := by decide +kernel
theorem dX5_count_103 : decode cX5_count 103 = .ok (.ireturn, 1) := by decide +kernel
theorem dX5_count_104 : decode cX5_count 104 = .ok (.iconst (-1), 1) := by decide +kernel
theorem dX5_count_105 : decode cX5_count 105 = .ok (.ireturn, 1) := by decide +kernel
theorem dX5_within_0 : decode cX5_within 0 = .ok (.iload_n 0, 1) := by decide +kernel
theorem dX5_within_1 : decode cX5_within 1 = .ok (.iload_n 1, 1) := by decide +kernel
theorem dX5_within_2 : decode cX5_within 2 = .ok (.if_icmp .lt 12, 3) := by decide +kernel
theorem dX5_within_5 : decode cX5_within 5 = .ok (.iload_n 0, 1) := by decide +kernel
theorem dX5_within_6 : decode cX5_within 6 = .ok (.iload_n 2, 1) := by decide +kernel
theorem dX5_within_7 : decode cX5_within 7 = .ok (.if_icmp .gt 7, 3) := by decide +kernel
theorem dX5_within_10 : decode cX5_within 10 = .ok (.iconst 1, 1) := by decide +kernel
theorem dX5_within_11 : decode cX5_within 11 = .ok (.goto 4, 3) := by decide +kernel
theorem dX5_within_14 : decode cX5_within 14 = .ok (.iconst 0, 1) := by decide +kernel
theorem dX5_within_15 : decode cX5_within 15 = .ok (.ireturn, 1) := by decide +kernel
set_option maxRecDepth 20000 in
theorem ggX5_isCell_X5_within : GoodIn wsX5_isCell wsX5_within := goodIn_r _ [4] (by decide +kernel) (by decide +kernel)
set_option maxRecDepth 20000 in
theorem gX5_isCell_X5_within : GoodIn wsX5_isCell (va_wsS RX5 62 yX5_within wsX5_within) := goodIn_app (goodIn_of _ (by decide +kernel)) ggX5_isCell_X5_within
theorem dX5_isCell_0 : decode cX5_isCell 0 = .ok (.iload_n 0, 1) := by decide +kernel
theorem dX5_isCell_1 : decode cX5_isCell 1 = .ok (.iconst 0, 1) := by decide +kernel
theorem dX5_isCell_2 : decode cX5_isCell 2 = .ok (.bipush 99, 2) := by decide +kernel
theorem dX5_isCell_4 : decode cX5_isCell 4 = .ok (.invokestatic 62, 3) := by decide +kernel
theorem dX5_isCell_7 : decode cX5_isCell 7 = .ok (.ireturn, 1) := by decide +kernel
set_option maxRecDepth 20000 in
theorem ggX5_isHalf_X5_within : GoodIn wsX5_isHalf wsX5_within := goodIn_r _ [4] (by decide +kernel) (by decide +kernel)
set_option maxRecDepth 20000 in
theorem gX5_isHalf_X5_within : GoodIn wsX5_isHalf (va_wsS RX5 62 yX5_within wsX5_within) := goodIn_app (goodIn_of _ (by decide +kernel)) ggX5_isHalf_X5_within
theorem dX5_isHalf_0 : decode cX5_isHalf 0 = .ok (.iload_n 0, 1) := by decide +kernel
theorem dX5_isHalf_1 : decode cX5_isHalf 1 = .ok (.iconst 0, 1) := by decide +kernel
theorem dX5_isHalf_2 : decode cX5_isHalf 2 = .ok (.iconst 1, 1) := by decide +kernel
theorem dX5_isHalf_3 : decode cX5_isHalf 3 = .ok (.invokestatic 62, 3) := by decide +kernel
theorem dX5_isHalf_6 : decode cX5_isHalf 6 = .ok (.ireturn, 1) := by decide +kernel
set_option maxRecDepth 20000 in
theorem ggX5_isSheet_X5_within : GoodIn wsX5_isSheet wsX5_within := goodIn_r _ [4] (by decide +kernel) (by decide +kernel)
set_option maxRecDepth 20000 in
theorem gX5_isSheet_X5_within : GoodIn wsX5_isSheet (va_wsS RX5 62 yX5_within wsX5_within) := goodIn_app (goodIn_of _ (by decide +kernel)) ggX5_isSheet_X5_within
theorem dX5_isSheet_0 : decode cX5_isSheet 0 = .ok (.iload_n 0, 1) := by decide +kernel
theorem dX5_isSheet_1 : decode cX5_isSheet 1 = .ok (.iconst 0, 1) := by decide +kernel
theorem dX5_isSheet_2 : decode cX5_isSheet 2 = .ok (.iconst 3, 1) := by decide +kernel
theorem dX5_isSheet_3 : decode cX5_isSheet 3 = .ok (.invokestatic 62, 3) := by decide +kernel
theorem dX5_isSheet_6 : decode cX5_isSheet 6 = .ok (.ireturn, 1) := by decide +kernel
set_option maxRecDepth 20000 in
theorem ggX5_isLane_X5_within : GoodIn wsX5_isLane wsX5_within := goodIn_r _ [4] (by decide +kernel) (by decide +kernel)
set_option maxRecDepth 20000 in
theorem gX5_isLane_X5_within : GoodIn wsX5_isLane (va_wsS RX5 62 yX5_within wsX5_within) := goodIn_app (goodIn_of _ (by decide +kernel)) ggX5_isLane_X5_within
theorem dX5_isLane_0 : decode cX5_isLane 0 = .ok (.iload_n 0, 1) := by decide +kernel
theorem dX5_isLane_1 : decode cX5_isLane 1 = .ok (.iconst 0, 1) := by decide +kernel
theorem dX5_isLane_2 : decode cX5_isLane 2 = .ok (.iconst 2, 1) := by decide +kernel
theorem dX5_isLane_3 : decode cX5_isLane 3 = .ok (.invokestatic 62, 3) := by decide +kernel
theorem dX5_isLane_6 : decode cX5_isLane 6 = .ok (.ireturn, 1) := by decide +kernel
set_option maxRecDepth 20000 in
theorem ggX5_fitsTrait_X5_within : GoodIn wsX5_fitsTrait wsX5_within := goodIn_r _ [6] (by decide +kernel) (by decide +kernel)
set_option maxRecDepth 20000 in
theorem gX5_fitsTrait_X5_within : GoodIn wsX5_fitsTrait (va_wsS RX5 62 yX5_within wsX5_within) := goodIn_app (goodIn_of _ (by decide +kernel)) ggX5_fitsTrait_X5_within
theorem dX5_fitsTrait_0 : decode cX5_fitsTrait 0 = .ok (.iload_n 0, 1) := by decide +kernel
theorem dX5_fitsTrait_1 : decode cX5_fitsTrait 1 = .ok (.iconst 0, 1) := by decide +kernel
theorem dX5_fitsTrait_2 : decode cX5_fitsTrait 2 = .ok (.iconst 3, 1) := by decide +kernel
theorem dX5_fitsTrait_3 : decode cX5_fitsTrait 3 = .ok (.invokestatic 62, 3) := by decide +kernel
theorem dX5_fitsTrait_6 : decode cX5_fitsTrait 6 = .ok (.ifCond .eq 24, 3) := by decide +kernel
theorem dX5_fitsTrait_9 : decode cX5_fitsTrait 9 = .ok (.iload_n 1, 1) := by decide +kernel
theorem dX5_fitsTrait_10 : decode cX5_fitsTrait 10 = .ok (.getstatic 198, 3) := by decide +kernel
theorem dX5_fitsTrait_13 : decode cX5_fitsTrait 13 = .ok (.iload_n 0, 1) := by decide +kernel
theorem dX5_fitsTrait_14 : decode cX5_fitsTrait 14 = .ok (.iaload, 1) := by decide +kernel
theorem dX5_fitsTrait_15 : decode cX5_fitsTrait 15 = .ok (.getstatic 201, 3) := by decide +kernel
theorem dX5_fitsTrait_18 : decode cX5_fitsTrait 18 = .ok (.iload_n 0, 1) := by decide +kernel
theorem dX5_fitsTrait_19 : decode cX5_fitsTrait 19 = .ok (.iaload, 1) := by decide +kernel
theorem dX5_fitsTrait_20 : decode cX5_fitsTrait 20 = .ok (.invokestatic 62, 3) := by decide +kernel
theorem dX5_fitsTrait_23 : decode cX5_fitsTrait 23 = .ok (.ifCond .eq 7, 3) := by decide +kernel
theorem dX5_fitsTrait_26 : decode cX5_fitsTrait 26 = .ok (.iconst 1, 1) := by decide +kernel
theorem dX5_fitsTrait_27 : decode cX5_fitsTrait 27 = .ok (.goto 4, 3) := by decide +kernel
theorem dX5_fitsTrait_30 : decode cX5_fitsTrait 30 = .ok (.iconst 0, 1) := by decide +kernel
theorem dX5_fitsTrait_31 : decode cX5_fitsTrait 31 = .ok (.ireturn, 1) := by decide +kernel
theorem dX5_far_0 : decode cX5_far 0 = .ok (.iload_n 0, 1) := by decide +kernel
theorem dX5_far_1 : decode cX5_far 1 = .ok (.bipush 10, 2) := by decide +kernel
theorem dX5_far_3 : decode cX5_far 3 = .ok (.idiv, 1) := by decide +kernel
theorem dX5_far_4 : decode cX5_far 4 = .ok (.iload_n 1, 1) := by decide +kernel
theorem dX5_far_5 : decode cX5_far 5 = .ok (.bipush 10, 2) := by decide +kernel
theorem dX5_far_7 : decode cX5_far 7 = .ok (.idiv, 1) := by decide +kernel
theorem dX5_far_8 : decode cX5_far 8 = .ok (.isub, 1) := by decide +kernel
theorem dX5_far_9 : decode cX5_far 9 = .ok (.istore_n 2, 1) := by decide +kernel
theorem dX5_far_10 : decode cX5_far 10 = .ok (.iload_n 0, 1) := by decide +kernel
theorem dX5_far_11 : decode cX5_far 11 = .ok (.bipush 10, 2) := by decide +kernel
theorem dX5_far_13 : decode cX5_far 13 = .ok (.irem, 1) := by decide +kernel
theorem dX5_far_14 : decode cX5_far 14 = .ok (.iload_n 1, 1) := by decide +kernel
theorem dX5_far_15 : decode cX5_far 15 = .ok (.bipush 10, 2) := by decide +kernel
theorem dX5_far_17 : decode cX5_far 17 = .ok (.irem, 1) := by decide +kernel
theorem dX5_far_18 : decode cX5_far 18 = .ok (.isub, 1) := by decide +kernel
theorem dX5_far_19 : decode cX5_far 19 = .ok (.istore_n 3, 1) := by decide +kernel
theorem dX5_far_20 : decode cX5_far 20 = .ok (.iload_n 2, 1) := by decide +kernel
theorem dX5_far_21 : decode cX5_far 21 = .ok (.ifCond .ge 8, 3) := by decide +kernel
theorem dX5_far_24 : decode cX5_far 24 = .ok (.iload_n 2, 1) := by decide +kernel
theorem dX5_far_25 : decode cX5_far 25 = .ok (.ineg, 1) := by decide +kernel
theorem dX5_far_26 : decode cX5_far 26 = .ok (.goto 4, 3) := by decide +kernel
theorem dX5_far_29 : decode cX5_far 29 = .ok (.iload_n 2, 1) := by decide +kernel
theorem dX5_far_30 : decode cX5_far 30 = .ok (.iload_n 3, 1) := by decide +kernel
theorem dX5_far_31 : decode cX5_far 31 = .ok (.ifCond .ge 8, 3) := by decide +kernel
theorem dX5_far_34 : decode cX5_far 34 = .ok (.iload_n 3, 1) := by decide +kernel
theorem dX5_far_35 : decode cX5_far 35 = .ok (.ineg, 1) := by decide +kernel
theorem dX5_far_36 : decode cX5_far 36 = .ok (.goto 4, 3) := by decide +kernel
theorem dX5_far_39 : decode cX5_far 39 = .ok (.iload_n 3, 1) := by decide +kernel
theorem dX5_far_40 : decode cX5_far 40 = .ok (.iadd, 1) := by decide +kernel
theorem dX5_far_41 : decode cX5_far 41 = .ok (.ireturn, 1) := by decide +kernel
theorem dX5_sign_0 : decode cX5_sign 0 = .ok (.iload_n 0, 1) := by decide +kernel
theorem dX5_sign_1 : decode cX5_sign 1 = .ok (.ifCond .ne 5, 3) := by decide +kernel
theorem dX5_sign_4 : decode cX5_sign 4 = .ok (.iconst 0, 1) := by decide +kernel
theorem dX5_sign_5 : decode cX5_sign 5 = .ok (.ireturn, 1) := by decide +kernel
theorem dX5_sign_6 : decode cX5_sign 6 = .ok (.iload_n 0, 1) := by decide +kernel
theorem dX5_sign_7 : decode cX5_sign 7 = .ok (.ifCond .ge 7, 3) := by decide +kernel
theorem dX5_sign_10 : decode cX5_sign 10 = .ok (.iconst (-1), 1) := by decide +kernel
theorem dX5_sign_11 : decode cX5_sign 11 = .ok (.goto 4, 3) := by decide +kernel
theorem dX5_sign_14 : decode cX5_sign 14 = .ok (.iconst 1, 1) := by decide +kernel
theorem dX5_sign_15 : decode cX5_sign 15 = .ok (.ireturn, 1) := by decide +kernel
theorem dX5_chosen_0 : decode cX5_chosen 0 = .ok (.iload_n 0, 1) := by decide +kernel
theorem dX5_chosen_1 : decode cX5_chosen 1 = .ok (.bipush (-4), 2) := by decide +kernel
theorem dX5_chosen_3 : decode cX5_chosen 3 = .ok (.if_icmp .ne 6, 3) := by decide +kernel
theorem dX5_chosen_6 : decode cX5_chosen 6 = .ok (.bipush (-4), 2) := by decide +kernel
theorem dX5_chosen_8 : decode cX5_chosen 8 = .ok (.ireturn, 1) := by decide +kernel
theorem dX5_chosen_9 : decode cX5_chosen 9 = .ok (.iload_n 2, 1) := by decide +kernel
theorem dX5_chosen_10 : decode cX5_chosen 10 = .ok (.ifCond .ne 7, 3) := by decide +kernel
theorem dX5_chosen_13 : decode cX5_chosen 13 = .ok (.iload_n 0, 1) := by decide +kernel
theorem dX5_chosen_14 : decode cX5_chosen 14 = .ok (.goto 4, 3) := by decide +kernel
theorem dX5_chosen_17 : decode cX5_chosen 17 = .ok (.iload_n 1, 1) := by decide +kernel
theorem dX5_chosen_18 : decode cX5_chosen 18 = .ok (.ireturn, 1) := by decide +kernel
set_option maxRecDepth 20000 in
theorem ggX5_part_X5_commonDivisor : GoodIn wsX5_part wsX5_commonDivisor := goodIn_r _ [4] (by decide +kernel) (by decide +kernel)
set_option maxRecDepth 20000 in
theorem gX5_part_X5_commonDivisor : GoodIn wsX5_part (va_wsS RX5 305 yX5_commonDivisor wsX5_commonDivisor) := goodIn_app (goodIn_of _ (by decide +kernel)) ggX5_part_X5_commonDivisor
theorem dX5_part_0 : decode cX5_part 0 = .ok (.lload_n 0, 1) := by decide +kernel
theorem dX5_part_1 : decode cX5_part 1 = .ok (.lload_n 2, 1) := by decide +kernel
theorem dX5_part_2 : decode cX5_part 2 = .ok (.invokestatic 305, 3) := by decide +kernel
theorem dX5_part_5 : decode cX5_part 5 = .ok (.lstore 5, 2) := by decide +kernel
theorem dX5_part_7 : decode cX5_part 7 = .ok (.lload 5, 2) := by decide +kernel
theorem dX5_part_9 : decode cX5_part 9 = .ok (.lconst 0, 1) := by decide +kernel
theorem dX5_part_10 : decode cX5_part 10 = .ok (.lcmp, 1) := by decide +kernel
theorem dX5_part_11 : decode cX5_part 11 = .ok (.ifCond .ne 5, 3) := by decide +kernel
theorem dX5_part_14 : decode cX5_part 14 = .ok (.lconst 0, 1) := by decide +kernel
theorem dX5_part_15 : decode cX5_part 15 = .ok (.lreturn, 1) := by decide +kernel
theorem dX5_part_16 : decode cX5_part 16 = .ok (.iload 4, 2) := by decide +kernel
theorem dX5_part_18 : decode cX5_part 18 = .ok (.ifCond .ne 10, 3) := by decide +kernel
theorem dX5_part_21 : decode cX5_part 21 = .ok (.lload_n 0, 1) := by decide +kernel
theorem dX5_part_22 : decode cX5_part 22 = .ok (.lload 5, 2) := by decide +kernel
theorem dX5_part_24 : decode cX5_part 24 = .ok (.ldiv, 1) := by decide +kernel
theorem dX5_part_25 : decode cX5_part 25 = .ok (.goto 7, 3) := by decide +kernel
theorem dX5_part_28 : decode cX5_part 28 = .ok (.lload_n 2, 1) := by decide +kernel
theorem dX5_part_29 : decode cX5_part 29 = .ok (.lload 5, 2) := by decide +kernel
theorem dX5_part_31 : decode cX5_part 31 = .ok (.ldiv, 1) := by decide +kernel
theorem dX5_part_32 : decode cX5_part 32 = .ok (.lreturn, 1) := by decide +kernel
theorem dX5_commonDivisor_0 : decode cX5_commonDivisor 0 = .ok (.lload_n 0, 1) := by decide +kernel
theorem dX5_commonDivisor_1 : decode cX5_commonDivisor 1 = .ok (.lstore 4, 2) := by decide +kernel
theorem dX5_commonDivisor_3 : decode cX5_commonDivisor 3 = .ok (.lload_n 2, 1) := by decide +kernel
theorem dX5_commonDivisor_4 : decode cX5_commonDivisor 4 = .ok (.lstore 6, 2) := by decide +kernel
theorem dX5_commonDivisor_6 : decode cX5_commonDivisor 6 = .ok (.iconst 0, 1) := by decide +kernel
theorem dX5_commonDivisor_7 : decode cX5_commonDivisor 7 = .ok (.istore 8, 2) := by decide +kernel
theorem dX5_commonDivisor_9 : decode cX5_commonDivisor 9 = .ok (.iload 8, 2) := by decide +kernel
theorem dX5_commonDivisor_11 : decode cX5_commonDivisor 11 = .ok (.bipush 100, 2) := by decide +kernel
theorem dX5_commonDivisor_13 : decode cX5_commonDivisor 13 = .ok (.if_icmp .ge 31, 3) := by decide +kernel
theorem dX5_commonDivisor_16 : decode cX5_commonDivisor 16 = .ok (.lload 6, 2) := by decide +kernel
theorem dX5_commonDivisor_18 : decode cX5_commonDivisor 18 = .ok (.lconst 0, 1) := by decide +kernel
theorem dX5_commonDivisor_19 : decode cX5_commonDivisor 19 = .ok (.lcmp, 1) := by decide +kernel
theorem dX5_commonDivisor_20 : decode cX5_commonDivisor 20 = .ok (.ifCond .eq 24, 3) := by decide +kernel
theorem dX5_commonDivisor_23 : decode cX5_commonDivisor 23 = .ok (.lload 4, 2) := by decide +kernel
theorem dX5_commonDivisor_25 : decode cX5_commonDivisor 25 = .ok (.lload 6, 2) := by decide +kernel
theorem dX5_commonDivisor_27 : decode cX5_commonDivisor 27 = .ok (.lrem, 1) := by decide +kernel
theorem dX5_commonDivisor_28 : decode cX5_commonDivisor 28 = .ok (.lstore 9, 2) := by decide +kernel
theorem dX5_commonDivisor_30 : decode cX5_commonDivisor 30 = .ok (.lload 6, 2) := by decide +kernel
theorem dX5_commonDivisor_32 : decode cX5_commonDivisor 32 = .ok (.lstore 4, 2) := by decide +kernel
theorem dX5_commonDivisor_34 : decode cX5_commonDivisor 34 = .ok (.lload 9, 2) := by decide +kernel
theorem dX5_commonDivisor_36 : decode cX5_commonDivisor 36 = .ok (.lstore 6, 2) := by decide +kernel
theorem dX5_commonDivisor_38 : decode cX5_commonDivisor 38 = .ok (.iinc 8 1, 3) := by decide +kernel
theorem dX5_commonDivisor_41 : decode cX5_commonDivisor 41 = .ok (.goto (-32), 3) := by decide +kernel
theorem dX5_commonDivisor_44 : decode cX5_commonDivisor 44 = .ok (.lload 4, 2) := by decide +kernel
theorem dX5_commonDivisor_46 : decode cX5_commonDivisor 46 = .ok (.lreturn, 1) := by decide +kernel
set_option maxRecDepth 20000 in
theorem ggX5_suppose_X4_copyFrom : GoodIn wsX5_suppose wsX4_copyFrom := goodIn_r _ [6, 7, 8, 9, 10, 11, 12, 13, 14, 15, 16, 17, 33, 34, 35, 36, 37, 38, 39] (by decide +kernel) (by decide +kernel)
set_option maxRecDepth 20000 in
theorem gX5_suppose_X4_copyFrom_n90 : GoodIn wsX5_suppose (wsX4_copyFrom) := ggX5_suppose_X4_copyFrom
set_option maxRecDepth 20000 in
theorem ggX5_suppose_X4_setTrait : GoodIn wsX5_suppose wsX4_setTrait := goodIn_r _ [20, 7, 33, 34, 35, 36, 37, 38, 39] (by decide +kernel) (by decide +kernel)
set_option maxRecDepth 20000 in
theorem gX5_suppose_X4_setTrait_n150 : GoodIn wsX5_suppose (wsX4_setTrait) := ggX5_suppose_X4_setTrait
theorem dX5_suppose_0 : decode cX5_suppose 0 = .ok (.aload_n 0, 1) := by decide +kernel
theorem dX5_suppose_1 : decode cX5_suppose 1 = .ok (.getfield 16, 3) := by decide +kernel
theorem dX5_suppose_4 : decode cX5_suppose 4 = .ok (.aload_n 0, 1) := by decide +kernel
theorem dX5_suppose_5 : decode cX5_suppose 5 = .ok (.getfield 10, 3) := by decide +kernel
theorem dX5_suppose_8 : decode cX5_suppose 8 = .ok (.invokevirtual 90, 3) := by decide +kernel
theorem dX5_suppose_11 : decode cX5_suppose 11 = .ok (.aload_n 0, 1) := by decide +kernel
theorem dX5_suppose_12 : decode cX5_suppose 12 = .ok (.getfield 16, 3) := by decide +kernel
theorem dX5_suppose_15 : decode cX5_suppose 15 = .ok (.iload_n 1, 1) := by decide +kernel
theorem dX5_suppose_16 : decode cX5_suppose 16 = .ok (.iload_n 2, 1) := by decide +kernel
theorem dX5_suppose_17 : decode cX5_suppose 17 = .ok (.iload_n 3, 1) := by decide +kernel
theorem dX5_suppose_18 : decode cX5_suppose 18 = .ok (.invokevirtual 150, 3) := by decide +kernel
theorem dX5_suppose_21 : decode cX5_suppose 21 = .ok (.return_, 1) := by decide +kernel
set_option maxRecDepth 20000 in
theorem ggX5_leanAhead_X4_copyFrom : GoodIn wsX5_leanAhead wsX4_copyFrom := goodIn_r _ [6, 7, 8, 9, 10, 11, 12, 13, 14, 15, 16, 17, 80, 81, 82, 83, 84, 85, 86] (by decide +kernel) (by decide +kernel)
set_option maxRecDepth 20000 in
theorem gX5_leanAhead_X4_copyFrom_n90 : GoodIn wsX5_leanAhead (wsX4_copyFrom) := ggX5_leanAhead_X4_copyFrom
set_option maxRecDepth 20000 in
theorem ggX5_leanAhead_X4_greatestLean : GoodIn wsX5_leanAhead wsX4_greatestLean := goodIn_r _ [20, 21, 22, 23, 24, 25, 26, 27, 4, 28, 14, 13, 29, 30, 31, 32, 33, 34, 35, 17, 36, 37, 38, 39, 16, 15, 12, 40, 41, 42, 43, 44, 45, 46, 47, 7, 48, 49, 50, 51, 52, 53, 54, 55, 56, 57, 58, 59, 60, 61, 62, 63, 64, 65, 66, 67, 80, 81, 82, 83, 84, 85, 86] (by decide +kernel) (by decide +kernel)
set_option maxRecDepth 20000 in
theorem gX5_leanAhead_X4_greatestLean_n168 : GoodIn wsX5_leanAhead (wsX4_greatestLean) := ggX5_leanAhead_X4_greatestLean
theorem dX5_leanAhead_0 : decode cX5_leanAhead 0 = .ok (.aload_n 0, 1) := by decide +kernel
theorem dX5_leanAhead_1 : decode cX5_leanAhead 1 = .ok (.getfield 16, 3) := by decide +kernel
theorem dX5_leanAhead_4 : decode cX5_leanAhead 4 = .ok (.aload_n 0, 1) := by decide +kernel
theorem dX5_leanAhead_5 : decode cX5_leanAhead 5 = .ok (.getfield 10, 3) := by decide +kernel
theorem dX5_leanAhead_8 : decode cX5_leanAhead 8 = .ok (.invokevirtual 90, 3) := by decide +kernel
theorem dX5_leanAhead_11 : decode cX5_leanAhead 11 = .ok (.aload_n 0, 1) := by decide +kernel
theorem dX5_leanAhead_12 : decode cX5_leanAhead 12 = .ok (.getfield 16, 3) := by decide +kernel
theorem dX5_leanAhead_15 : decode cX5_leanAhead 15 = .ok (.bipush 60, 2) := by decide +kernel
theorem dX5_leanAhead_17 : decode cX5_leanAhead 17 = .ok (.invokevirtual 168, 3) := by decide +kernel
theorem dX5_leanAhead_20 : decode cX5_leanAhead 20 = .ok (.ireturn, 1) := by decide +kernel
set_option maxRecDepth 20000 in
theorem ggX5_fittingBits_X5_suppose : GoodIn wsX5_fittingBits wsX5_suppose := goodIn_r _ [9, 4, 10, 11, 12, 13, 14, 15, 16, 17, 18, 19, 20, 21, 22, 23, 24, 25, 26, 27, 28, 89, 90, 91, 92, 93, 94, 95, 96, 97, 98, 99, 100, 101, 102, 103, 104, 105, 106, 107] (by decide +kernel) (by decide +kernel)
set_option maxRecDepth 20000 in
theorem gX5_fittingBits_X5_suppose : GoodIn wsX5_fittingBits (wsV RX5 204 RX5 yX5_suppose wsX5_suppose) := goodIn_app (goodIn_of _ (by decide +kernel)) ggX5_fittingBits_X5_suppose
set_option maxRecDepth 20000 in
theorem ggX5_fittingBits_X2_fits : GoodIn wsX5_fittingBits wsX2_fits := goodIn_r _ [32, 33, 34, 35, 30, 36, 37, 38, 39, 40, 41, 42, 43, 44, 45, 46, 47, 48, 12, 49, 50, 22, 25, 51, 52, 53, 54, 24, 23, 20, 55, 56, 57, 58, 21, 59, 8, 60, 61, 62, 63, 64, 65, 66, 67, 68, 15, 69, 70, 71, 72, 73, 74, 75, 76, 77, 78, 79, 80, 81, 82, 83, 84, 85, 86, 87, 88, 101, 102, 103, 104, 105, 106, 107, 108, 109, 110] (by decide +kernel) (by decide +kernel)
set_option maxRecDepth 20000 in
theorem gX5_fittingBits_X2_fits_n237 : GoodIn wsX5_fittingBits (wsX2_fits) := ggX5_fittingBits_X2_fits
theorem dX5_fittingBits_0 : decode cX5_fittingBits 0 = .ok (.iconst 0, 1) := by decide +kernel
theorem dX5_fittingBits_1 : decode cX5_fittingBits 1 = .ok (.istore_n 3, 1) := by decide +kernel
theorem dX5_fittingBits_2 : decode cX5_fittingBits 2 = .ok (.getstatic 198, 3) := by decide +kernel
theorem dX5_fittingBits_5 : decode cX5_fittingBits 5 = .ok (.iload_n 2, 1) := by decide +kernel
theorem dX5_fittingBits_6 : decode cX5_fittingBits 6 = .ok (.iaload, 1) := by decide +kernel
theorem dX5_fittingBits_7 : decode cX5_fittingBits 7 = .ok (.istore 4, 2) := by decide +kernel
theorem dX5_fittingBits_9 : decode cX5_fittingBits 9 = .ok (.iload 4, 2) := by decide +kernel
theorem dX5_fittingBits_11 : decode cX5_fittingBits 11 = .ok (.getstatic 201, 3) := by decide +kernel
theorem dX5_fittingBits_14 : decode cX5_fittingBits 14 = .ok (.iload_n 2, 1) := by decide +kernel
theorem dX5_fittingBits_15 : decode cX5_fittingBits 15 = .ok (.iaload, 1) := by decide +kernel
theorem dX5_fittingBits_16 : decode cX5_fittingBits 16 = .ok (.if_icmp .gt 38, 3) := by decide +kernel
theorem dX5_fittingBits_19 : decode cX5_fittingBits 19 = .ok (.aload_n 0, 1) := by decide +kernel
theorem dX5_fittingBits_20 : decode cX5_fittingBits 20 = .ok (.iload_n 1, 1) := by decide +kernel
theorem dX5_fittingBits_21 : decode cX5_fittingBits 21 = .ok (.iload_n 2, 1) := by decide +kernel
theorem dX5_fittingBits_22 : decode cX5_fittingBits 22 = .ok (.iload 4, 2) := by decide +kernel
theorem dX5_fittingBits_24 : decode cX5_fittingBits 24 = .ok (.invokevirtual 204, 3) := by decide +kernel
theorem dX5_fittingBits_27 : decode cX5_fittingBits 27 = .ok (.aload_n 0, 1) := by decide +kernel
theorem dX5_fittingBits_28 : decode cX5_fittingBits 28 = .ok (.getfield 37, 3) := by decide +kernel
theorem dX5_fittingBits_31 : decode cX5_fittingBits 31 = .ok (.aload_n 0, 1) := by decide +kernel
theorem dX5_fittingBits_32 : decode cX5_fittingBits 32 = .ok (.getfield 16, 3) := by decide +kernel
theorem dX5_fittingBits_35 : decode cX5_fittingBits 35 = .ok (.invokevirtual 237, 3) := by decide +kernel
theorem dX5_fittingBits_38 : decode cX5_fittingBits 38 = .ok (.ifCond .eq 10, 3) := by decide +kernel
theorem dX5_fittingBits_41 : decode cX5_fittingBits 41 = .ok (.iload_n 3, 1) := by decide +kernel
theorem dX5_fittingBits_42 : decode cX5_fittingBits 42 = .ok (.iconst 1, 1) := by decide +kernel
theorem dX5_fittingBits_43 : decode cX5_fittingBits 43 = .ok (.iload 4, 2) := by decide +kernel
theorem dX5_fittingBits_45 : decode cX5_fittingBits 45 = .ok (.ishl, 1) := by decide +kernel
theorem dX5_fittingBits_46 : decode cX5_fittingBits 46 = .ok (.ior, 1) := by decide +kernel
theorem dX5_fittingBits_47 : decode cX5_fittingBits 47 = .ok (.istore_n 3, 1) := by decide +kernel
theorem dX5_fittingBits_48 : decode cX5_fittingBits 48 = .ok (.iinc 4 1, 3) := by decide +kernel
theorem dX5_fittingBits_51 : decode cX5_fittingBits 51 = .ok (.goto (-42), 3) := by decide +kernel
theorem dX5_fittingBits_54 : decode cX5_fittingBits 54 = .ok (.iload_n 3, 1) := by decide +kernel
theorem dX5_fittingBits_55 : decode cX5_fittingBits 55 = .ok (.ireturn, 1) := by decide +kernel
set_option maxRecDepth 20000 in
theorem ggX5_gatherPoints_X4_copyFrom : GoodIn wsX5_gatherPoints wsX4_copyFrom := goodIn_r _ [9, 10, 11, 12, 13, 14, 15, 16, 17, 18, 19, 20, 33, 34, 35, 36, 37, 38, 39] (by decide +kernel) (by decide +kernel)
set_option maxRecDepth 20000 in
theorem gX5_gatherPoints_X4_copyFrom_n90 : GoodIn wsX5_gatherPoints (wsX4_copyFrom) := ggX5_gatherPoints_X4_copyFrom
theorem dX5_gatherPoints_0 : decode cX5_gatherPoints 0 = .ok (.aload_n 0, 1) := by decide +kernel
theorem dX5_gatherPoints_1 : decode cX5_gatherPoints 1 = .ok (.getfield 16, 3) := by decide +kernel
theorem dX5_gatherPoints_4 : decode cX5_gatherPoints 4 = .ok (.aload_n 0, 1) := by decide +kernel
theorem dX5_gatherPoints_5 : decode cX5_gatherPoints 5 = .ok (.getfield 10, 3) := by decide +kernel
theorem dX5_gatherPoints_8 : decode cX5_gatherPoints 8 = .ok (.invokevirtual 90, 3) := by decide +kernel
theorem dX5_gatherPoints_11 : decode cX5_gatherPoints 11 = .ok (.getstatic 198, 3) := by decide +kernel
theorem dX5_gatherPoints_14 : decode cX5_gatherPoints 14 = .ok (.iconst 1, 1) := by decide +kernel
theorem dX5_gatherPoints_15 : decode cX5_gatherPoints 15 = .ok (.iaload, 1) := by decide +kernel
theorem dX5_gatherPoints_16 : decode cX5_gatherPoints 16 = .ok (.istore_n 1, 1) := by decide +kernel
theorem dX5_gatherPoints_17 : decode cX5_gatherPoints 17 = .ok (.iload_n 1, 1) := by decide +kernel
theorem dX5_gatherPoints_18 : decode cX5_gatherPoints 18 = .ok (.getstatic 201, 3) := by decide +kernel
theorem dX5_gatherPoints_21 : decode cX5_gatherPoints 21 = .ok (.iconst 1, 1) := by decide +kernel
theorem dX5_gatherPoints_22 : decode cX5_gatherPoints 22 = .ok (.iaload, 1) := by decide +kernel
theorem dX5_gatherPoints_23 : decode cX5_gatherPoints 23 = .ok (.if_icmp .gt 22, 3) := by decide +kernel
theorem dX5_gatherPoints_26 : decode cX5_gatherPoints 26 = .ok (.aload_n 0, 1) := by decide +kernel
theorem dX5_gatherPoints_27 : decode cX5_gatherPoints 27 = .ok (.getfield 54, 3) := by decide +kernel
theorem dX5_gatherPoints_30 : decode cX5_gatherPoints 30 = .ok (.iload_n 1, 1) := by decide +kernel
theorem dX5_gatherPoints_31 : decode cX5_gatherPoints 31 = .ok (.aload_n 0, 1) := by decide +kernel
theorem dX5_gatherPoints_32 : decode cX5_gatherPoints 32 = .ok (.getfield 10, 3) := by decide +kernel
theorem dX5_gatherPoints_35 : decode cX5_gatherPoints 35 = .ok (.getfield 106, 3) := by decide +kernel
theorem dX5_gatherPoints_38 : decode cX5_gatherPoints 38 = .ok (.iastore, 1) := by decide +kernel
theorem dX5_gatherPoints_39 : decode cX5_gatherPoints 39 = .ok (.iinc 1 1, 3) := by decide +kernel
theorem dX5_gatherPoints_42 : decode cX5_gatherPoints 42 = .ok (.goto (-25), 3) := by decide +kernel
theorem dX5_gatherPoints_45 : decode cX5_gatherPoints 45 = .ok (.return_, 1) := by decide +kernel
set_option maxRecDepth 20000 in
theorem ggX5_movePoints_X4_setTrait : GoodIn wsX5_movePoints wsX4_setTrait := goodIn_r _ [8, 9, 71, 72, 73, 74, 75, 76, 77] (by decide +kernel) (by decide +kernel)
set_option maxRecDepth 20000 in
theorem gX5_movePoints_X4_setTrait_n150 : GoodIn wsX5_movePoints (wsX4_setTrait) := ggX5_movePoints_X4_setTrait
set_option maxRecDepth 20000 in
theorem ggX5_movePoints_X4_passYear : GoodIn wsX5_movePoints wsX4_passYear := goodIn_r _ [12, 13, 14, 15, 16, 17, 6, 18, 19, 20, 21, 22, 23, 24, 25, 26, 27, 28, 29, 30, 31, 32, 33, 34, 35, 36, 37, 9, 38, 39, 40, 41, 42, 43, 44, 45, 46, 47, 48, 49, 50, 51, 52, 53, 54, 55, 56, 57, 58, 71, 72, 73, 74, 75, 76, 77] (by decide +kernel) (by decide +kernel)
set_option maxRecDepth 20000 in
theorem gX5_movePoints_X4_passYear_n195 : GoodIn wsX5_movePoints (wsX4_passYear) := ggX5_movePoints_X4_passYear
theorem dX5_movePoints_0 : decode cX5_movePoints 0 = .ok (.aload_n 0, 1) := by decide +kernel
theorem dX5_movePoints_1 : decode cX5_movePoints 1 = .ok (.getfield 16, 3) := by decide +kernel
theorem dX5_movePoints_4 : decode cX5_movePoints 4 = .ok (.getfield 100, 3) := by decide +kernel
theorem dX5_movePoints_7 : decode cX5_movePoints 7 = .ok (.istore_n 3, 1) := by decide +kernel
theorem dX5_movePoints_8 : decode cX5_movePoints 8 = .ok (.getstatic 198, 3) := by decide +kernel
theorem dX5_movePoints_11 : decode cX5_movePoints 11 = .ok (.iconst 1, 1) := by decide +kernel
theorem dX5_movePoints_12 : decode cX5_movePoints 12 = .ok (.iaload, 1) := by decide +kernel
theorem dX5_movePoints_13 : decode cX5_movePoints 13 = .ok (.istore 4, 2) := by decide +kernel
theorem dX5_movePoints_15 : decode cX5_movePoints 15 = .ok (.iload 4, 2) := by decide +kernel
theorem dX5_movePoints_17 : decode cX5_movePoints 17 = .ok (.getstatic 201, 3) := by decide +kernel
theorem dX5_movePoints_20 : decode cX5_movePoints 20 = .ok (.iconst 1, 1) := by decide +kernel
theorem dX5_movePoints_21 : decode cX5_movePoints 21 = .ok (.iaload, 1) := by decide +kernel
theorem dX5_movePoints_22 : decode cX5_movePoints 22 = .ok (.if_icmp .gt 74, 3) := by decide +kernel
theorem dX5_movePoints_25 : decode cX5_movePoints 25 = .ok (.iload_n 2, 1) := by decide +kernel
theorem dX5_movePoints_26 : decode cX5_movePoints 26 = .ok (.iload 4, 2) := by decide +kernel
theorem dX5_movePoints_28 : decode cX5_movePoints 28 = .ok (.ishr, 1) := by decide +kernel
theorem dX5_movePoints_29 : decode cX5_movePoints 29 = .ok (.iconst 1, 1) := by decide +kernel
theorem dX5_movePoints_30 : decode cX5_movePoints 30 = .ok (.iand, 1) := by decide +kernel
theorem dX5_movePoints_31 : decode cX5_movePoints 31 = .ok (.iconst 1, 1) := by decide +kernel
theorem dX5_movePoints_32 : decode cX5_movePoints 32 = .ok (.if_icmp .ne 58, 3) := by decide +kernel
theorem dX5_movePoints_35 : decode cX5_movePoints 35 = .ok (.aload_n 0, 1) := by decide +kernel
theorem dX5_movePoints_36 : decode cX5_movePoints 36 = .ok (.getfield 16, 3) := by decide +kernel
theorem dX5_movePoints_39 : decode cX5_movePoints 39 = .ok (.iload_n 1, 1) := by decide +kernel
theorem dX5_movePoints_40 : decode cX5_movePoints 40 = .ok (.iconst 1, 1) := by decide +kernel
theorem dX5_movePoints_41 : decode cX5_movePoints 41 = .ok (.iload 4, 2) := by decide +kernel
theorem dX5_movePoints_43 : decode cX5_movePoints 43 = .ok (.invokevirtual 150, 3) := by decide +kernel
theorem dX5_movePoints_46 : decode cX5_movePoints 46 = .ok (.aload_n 0, 1) := by decide +kernel
theorem dX5_movePoints_47 : decode cX5_movePoints 47 = .ok (.getfield 16, 3) := by decide +kernel
theorem dX5_movePoints_50 : decode cX5_movePoints 50 = .ok (.aload_n 0, 1) := by decide +kernel
theorem dX5_movePoints_51 : decode cX5_movePoints 51 = .ok (.getfield 54, 3) := by decide +kernel
theorem dX5_movePoints_54 : decode cX5_movePoints 54 = .ok (.iload 4, 2) := by decide +kernel
theorem dX5_movePoints_56 : decode cX5_movePoints 56 = .ok (.iaload, 1) := by decide +kernel
theorem dX5_movePoints_57 : decode cX5_movePoints 57 = .ok (.putfield 106, 3) := by decide +kernel
theorem dX5_movePoints_60 : decode cX5_movePoints 60 = .ok (.aload_n 0, 1) := by decide +kernel
theorem dX5_movePoints_61 : decode cX5_movePoints 61 = .ok (.getfield 16, 3) := by decide +kernel
theorem dX5_movePoints_64 : decode cX5_movePoints 64 = .ok (.iload_n 3, 1) := by decide +kernel
theorem dX5_movePoints_65 : decode cX5_movePoints 65 = .ok (.putfield 100, 3) := by decide +kernel
theorem dX5_movePoints_68 : decode cX5_movePoints 68 = .ok (.aload_n 0, 1) := by decide +kernel
theorem dX5_movePoints_69 : decode cX5_movePoints 69 = .ok (.getfield 16, 3) := by decide +kernel
theorem dX5_movePoints_72 : decode cX5_movePoints 72 = .ok (.invokevirtual 195, 3) := by decide +kernel
theorem dX5_movePoints_75 : decode cX5_movePoints 75 = .ok (.pop, 1) := by decide +kernel
theorem dX5_movePoints_76 : decode cX5_movePoints 76 = .ok (.aload_n 0, 1) := by decide +kernel
theorem dX5_movePoints_77 : decode cX5_movePoints 77 = .ok (.getfield 54, 3) := by decide +kernel
theorem dX5_movePoints_80 : decode cX5_movePoints 80 = .ok (.iload 4, 2) := by decide +kernel
theorem dX5_movePoints_82 : decode cX5_movePoints 82 = .ok (.aload_n 0, 1) := by decide +kernel
theorem dX5_movePoints_83 : decode cX5_movePoints 83 = .ok (.getfield 16, 3) := by decide +kernel
theorem dX5_movePoints_86 : decode cX5_movePoints 86 = .ok (.getfield 106, 3) := by decide +kernel
theorem dX5_movePoints_89 : decode cX5_movePoints 89 = .ok (.iastore, 1) := by decide +kernel
theorem dX5_movePoints_90 : decode cX5_movePoints 90 = .ok (.iinc 4 1, 3) := by decide +kernel
theorem dX5_movePoints_93 : decode cX5_movePoints 93 = .ok (.goto (-78), 3) := by decide +kernel
theorem dX5_movePoints_96 : decode cX5_movePoints 96 = .ok (.aload_n 0, 1) := by decide +kernel
theorem dX5_movePoints_97 : decode cX5_movePoints 97 = .ok (.getfield 16, 3) := by decide +kernel
theorem dX5_movePoints_100 : decode cX5_movePoints 100 = .ok (.iload_n 3, 1) := by decide +kernel
theorem dX5_movePoints_101 : decode cX5_movePoints 101 = .ok (.iconst 1, 1) := by decide +kernel
theorem dX5_movePoints_102 : decode cX5_movePoints 102 = .ok (.iadd, 1) := by decide +kernel
theorem dX5_movePoints_103 : decode cX5_movePoints 103 = .ok (.putfield 100, 3) := by decide +kernel
theorem dX5_movePoints_106 : decode cX5_movePoints 106 = .ok (.return_, 1) := by decide +kernel
theorem dX5_mostLeft_0 : decode cX5_mostLeft 0 = .ok (.iconst 0, 1) := by decide +kernel
theorem dX5_mostLeft_1 : decode cX5_mostLeft 1 = .ok (.istore_n 2, 1) := by decide +kernel
theorem dX5_mostLeft_2 : decode cX5_mostLeft 2 = .ok (.iload_n 2, 1) := by decide +kernel
theorem dX5_mostLeft_3 : decode cX5_mostLeft 3 = .ok (.bipush 100, 2) := by decide +kernel
theorem dX5_mostLeft_5 : decode cX5_mostLeft 5 = .ok (.if_icmp .ge 16, 3) := by decide +kernel
theorem dX5_mostLeft_8 : decode cX5_mostLeft 8 = .ok (.aload_n 0, 1) := by decide +kernel
theorem dX5_mostLeft_9 : decode cX5_mostLeft 9 = .ok (.getfield 58, 3) := by decide +kernel
theorem dX5_mostLeft_12 : decode cX5_mostLeft 12 = .ok (.iload_n 2, 1) := by decide +kernel
theorem dX5_mostLeft_13 : decode cX5_mostLeft 13 = .ok (.iconst 0, 1) := by decide +kernel
theorem dX5_mostLeft_14 : decode cX5_mostLeft 14 = .ok (.iastore, 1) := by decide +kernel
theorem dX5_mostLeft_15 : decode cX5_mostLeft 15 = .ok (.iinc 2 1, 3) := by decide +kernel
theorem dX5_mostLeft_18 : decode cX5_mostLeft 18 = .ok (.goto (-16), 3) := by decide +kernel
theorem dX5_mostLeft_21 : decode cX5_mostLeft 21 = .ok (.iconst 0, 1) := by decide +kernel
theorem dX5_mostLeft_22 : decode cX5_mostLeft 22 = .ok (.istore_n 2, 1) := by decide +kernel
theorem dX5_mostLeft_23 : decode cX5_mostLeft 23 = .ok (.getstatic 198, 3) := by decide +kernel
theorem dX5_mostLeft_26 : decode cX5_mostLeft 26 = .ok (.iconst 1, 1) := by decide +kernel
theorem dX5_mostLeft_27 : decode cX5_mostLeft 27 = .ok (.iaload, 1) := by decide +kernel
theorem dX5_mostLeft_28 : decode cX5_mostLeft 28 = .ok (.istore_n 3, 1) := by decide +kernel
theorem dX5_mostLeft_29 : decode cX5_mostLeft 29 = .ok (.iload_n 3, 1) := by decide +kernel
theorem dX5_mostLeft_30 : decode cX5_mostLeft 30 = .ok (.getstatic 201, 3) := by decide +kernel
theorem dX5_mostLeft_33 : decode cX5_mostLeft 33 = .ok (.iconst 1, 1) := by decide +kernel
theorem dX5_mostLeft_34 : decode cX5_mostLeft 34 = .ok (.iaload, 1) := by decide +kernel
theorem dX5_mostLeft_35 : decode cX5_mostLeft 35 = .ok (.if_icmp .gt 49, 3) := by decide +kernel
theorem dX5_mostLeft_38 : decode cX5_mostLeft 38 = .ok (.iload_n 1, 1) := by decide +kernel
theorem dX5_mostLeft_39 : decode cX5_mostLeft 39 = .ok (.iload_n 3, 1) := by decide +kernel
theorem dX5_mostLeft_40 : decode cX5_mostLeft 40 = .ok (.ishr, 1) := by decide +kernel
theorem dX5_mostLeft_41 : decode cX5_mostLeft 41 = .ok (.iconst 1, 1) := by decide +kernel
theorem dX5_mostLeft_42 : decode cX5_mostLeft 42 = .ok (.iand, 1) := by decide +kernel
theorem dX5_mostLeft_43 : decode cX5_mostLeft 43 = .ok (.iconst 1, 1) := by decide +kernel
theorem dX5_mostLeft_44 : decode cX5_mostLeft 44 = .ok (.if_icmp .ne 34, 3) := by decide +kernel
theorem dX5_mostLeft_47 : decode cX5_mostLeft 47 = .ok (.aload_n 0, 1) := by decide +kernel
theorem dX5_mostLeft_48 : decode cX5_mostLeft 48 = .ok (.getfield 54, 3) := by decide +kernel
theorem dX5_mostLeft_51 : decode cX5_mostLeft 51 = .ok (.iload_n 3, 1) := by decide +kernel
theorem dX5_mostLeft_52 : decode cX5_mostLeft 52 = .ok (.iaload, 1) := by decide +kernel
theorem dX5_mostLeft_53 : decode cX5_mostLeft 53 = .ok (.istore 4, 2) := by decide +kernel
theorem dX5_mostLeft_55 : decode cX5_mostLeft 55 = .ok (.aload_n 0, 1) := by decide +kernel
theorem dX5_mostLeft_56 : decode cX5_mostLeft 56 = .ok (.getfield 58, 3) := by decide +kernel
theorem dX5_mostLeft_59 : decode cX5_mostLeft 59 = .ok (.iload 4, 2) := by decide +kernel
theorem dX5_mostLeft_61 : decode cX5_mostLeft 61 = .ok (.dup2, 1) := by decide +kernel
theorem dX5_mostLeft_62 : decode cX5_mostLeft 62 = .ok (.iaload, 1) := by decide +kernel
theorem dX5_mostLeft_63 : decode cX5_mostLeft 63 = .ok (.iconst 1, 1) := by decide +kernel
theorem dX5_mostLeft_64 : decode cX5_mostLeft 64 = .ok (.iadd, 1) := by decide +kernel
theorem dX5_mostLeft_65 : decode cX5_mostLeft 65 = .ok (.iastore, 1) := by decide +kernel
theorem dX5_mostLeft_66 : decode cX5_mostLeft 66 = .ok (.iload_n 2, 1) := by decide +kernel
theorem dX5_mostLeft_67 : decode cX5_mostLeft 67 = .ok (.aload_n 0, 1) := by decide +kernel
theorem dX5_mostLeft_68 : decode cX5_mostLeft 68 = .ok (.getfield 58, 3) := by decide +kernel
theorem dX5_mostLeft_71 : decode cX5_mostLeft 71 = .ok (.iload 4, 2) := by decide +kernel
theorem dX5_mostLeft_73 : decode cX5_mostLeft 73 = .ok (.iaload, 1) := by decide +kernel
theorem dX5_mostLeft_74 : decode cX5_mostLeft 74 = .ok (.invokestatic 257, 3) := by decide +kernel
theorem dX5_mostLeft_77 : decode cX5_mostLeft 77 = .ok (.istore_n 2, 1) := by decide +kernel
theorem dX5_mostLeft_78 : decode cX5_mostLeft 78 = .ok (.iinc 3 1, 3) := by decide +kernel
theorem dX5_mostLeft_81 : decode cX5_mostLeft 81 = .ok (.goto (-52), 3) := by decide +kernel
theorem dX5_mostLeft_84 : decode cX5_mostLeft 84 = .ok (.iload_n 2, 1) := by decide +kernel
theorem dX5_mostLeft_85 : decode cX5_mostLeft 85 = .ok (.ireturn, 1) := by decide +kernel
set_option maxRecDepth 20000 in
theorem ggX5_removeDraw_X4_hasDraw : GoodIn wsX5_removeDraw wsX4_hasDraw := goodIn_r _ [5, 6, 77, 78, 79, 80, 81, 82, 83] (by decide +kernel) (by decide +kernel)
set_option maxRecDepth 20000 in
theorem gX5_removeDraw_X4_hasDraw_n129 : GoodIn wsX5_removeDraw (wsX4_hasDraw) := ggX5_removeDraw_X4_hasDraw
set_option maxRecDepth 20000 in
theorem ggX5_removeDraw_X5_isCell : GoodIn wsX5_removeDraw wsX5_isCell := goodIn_r _ [10, 11, 12, 9, 13] (by decide +kernel) (by decide +kernel)
set_option maxRecDepth 20000 in
theorem gX5_removeDraw_X5_isCell : GoodIn wsX5_removeDraw (va_wsS RX5 154 yX5_isCell wsX5_isCell) := goodIn_app (goodIn_of _ (by decide +kernel)) ggX5_removeDraw_X5_isCell
set_option maxRecDepth 20000 in
theorem ggX5_removeDraw_X4_setTrait : GoodIn wsX5_removeDraw wsX4_setTrait := goodIn_r _ [16, 17, 77, 78, 79, 80, 81, 82, 83] (by decide +kernel) (by decide +kernel)
set_option maxRecDepth 20000 in
theorem gX5_removeDraw_X4_setTrait_n150 : GoodIn wsX5_removeDraw (wsX4_setTrait) := ggX5_removeDraw_X4_setTrait
set_option maxRecDepth 20000 in
theorem ggX5_removeDraw_X4_passYear : GoodIn wsX5_removeDraw wsX4_passYear := goodIn_r _ [20, 21, 22, 23, 24, 25, 3, 26, 27, 28, 6, 29, 30, 31, 32, 33, 34, 9, 35, 36, 37, 38, 39, 40, 41, 42, 43, 17, 44, 45, 46, 47, 48, 49, 50, 51, 52, 53, 54, 55, 56, 57, 58, 59, 60, 61, 62, 63, 64, 77, 78, 79, 80, 81, 82, 83] (by decide +kernel) (by decide +kernel)
set_option maxRecDepth 20000 in
theorem gX5_removeDraw_X4_passYear_n195 : GoodIn wsX5_removeDraw (wsX4_passYear) := ggX5_removeDraw_X4_passYear
theorem dX5_removeDraw_0 : decode cX5_removeDraw 0 = .ok (.aload_n 0, 1) := by decide +kernel
theorem dX5_removeDraw_1 : decode cX5_removeDraw 1 = .ok (.getfield 16, 3) := by decide +kernel
theorem dX5_removeDraw_4 : decode cX5_removeDraw 4 = .ok (.iload_n 1, 1) := by decide +kernel
theorem dX5_removeDraw_5 : decode cX5_removeDraw 5 = .ok (.invokevirtual 129, 3) := by decide +kernel
theorem dX5_removeDraw_8 : decode cX5_removeDraw 8 = .ok (.ifCond .eq 23, 3) := by decide +kernel
theorem dX5_removeDraw_11 : decode cX5_removeDraw 11 = .ok (.iload_n 2, 1) := by decide +kernel
theorem dX5_removeDraw_12 : decode cX5_removeDraw 12 = .ok (.invokestatic 154, 3) := by decide +kernel
theorem dX5_removeDraw_15 : decode cX5_removeDraw 15 = .ok (.ifCond .eq 16, 3) := by decide +kernel
theorem dX5_removeDraw_18 : decode cX5_removeDraw 18 = .ok (.aload_n 0, 1) := by decide +kernel
theorem dX5_removeDraw_19 : decode cX5_removeDraw 19 = .ok (.getfield 16, 3) := by decide +kernel
theorem dX5_removeDraw_22 : decode cX5_removeDraw 22 = .ok (.getfield 100, 3) := by decide +kernel
theorem dX5_removeDraw_25 : decode cX5_removeDraw 25 = .ok (.sipush 999, 3) := by decide +kernel
theorem dX5_removeDraw_28 : decode cX5_removeDraw 28 = .ok (.if_icmp .lt 5, 3) := by decide +kernel
theorem dX5_removeDraw_31 : decode cX5_removeDraw 31 = .ok (.iconst 0, 1) := by decide +kernel
theorem dX5_removeDraw_32 : decode cX5_removeDraw 32 = .ok (.ireturn, 1) := by decide +kernel
theorem dX5_removeDraw_33 : decode cX5_removeDraw 33 = .ok (.aload_n 0, 1) := by decide +kernel
theorem dX5_removeDraw_34 : decode cX5_removeDraw 34 = .ok (.getfield 16, 3) := by decide +kernel
theorem dX5_removeDraw_37 : decode cX5_removeDraw 37 = .ok (.iload_n 1, 1) := by decide +kernel
theorem dX5_removeDraw_38 : decode cX5_removeDraw 38 = .ok (.iconst 2, 1) := by decide +kernel
theorem dX5_removeDraw_39 : decode cX5_removeDraw 39 = .ok (.iload_n 2, 1) := by decide +kernel
theorem dX5_removeDraw_40 : decode cX5_removeDraw 40 = .ok (.invokevirtual 150, 3) := by decide +kernel
theorem dX5_removeDraw_43 : decode cX5_removeDraw 43 = .ok (.aload_n 0, 1) := by decide +kernel
theorem dX5_removeDraw_44 : decode cX5_removeDraw 44 = .ok (.getfield 16, 3) := by decide +kernel
theorem dX5_removeDraw_47 : decode cX5_removeDraw 47 = .ok (.invokevirtual 195, 3) := by decide +kernel
theorem dX5_removeDraw_50 : decode cX5_removeDraw 50 = .ok (.pop, 1) := by decide +kernel
theorem dX5_removeDraw_51 : decode cX5_removeDraw 51 = .ok (.iconst 1, 1) := by decide +kernel
theorem dX5_removeDraw_52 : decode cX5_removeDraw 52 = .ok (.ireturn, 1) := by decide +kernel
theorem dX5_imagesKept_0 : decode cX5_imagesKept 0 = .ok (.iconst 0, 1) := by decide +kernel
theorem dX5_imagesKept_1 : decode cX5_imagesKept 1 = .ok (.istore_n 1, 1) := by decide +kernel
theorem dX5_imagesKept_2 : decode cX5_imagesKept 2 = .ok (.iconst 0, 1) := by decide +kernel
theorem dX5_imagesKept_3 : decode cX5_imagesKept 3 = .ok (.istore_n 2, 1) := by decide +kernel
theorem dX5_imagesKept_4 : decode cX5_imagesKept 4 = .ok (.iload_n 2, 1) := by decide +kernel
theorem dX5_imagesKept_5 : decode cX5_imagesKept 5 = .ok (.iconst 2, 1) := by decide +kernel
theorem dX5_imagesKept_6 : decode cX5_imagesKept 6 = .ok (.if_icmp .ge 21, 3) := by decide +kernel
theorem dX5_imagesKept_9 : decode cX5_imagesKept 9 = .ok (.aload_n 0, 1) := by decide +kernel
theorem dX5_imagesKept_10 : decode cX5_imagesKept 10 = .ok (.getfield 23, 3) := by decide +kernel
theorem dX5_imagesKept_13 : decode cX5_imagesKept 13 = .ok (.iload_n 2, 1) := by decide +kernel
theorem dX5_imagesKept_14 : decode cX5_imagesKept 14 = .ok (.baload, 1) := by decide +kernel
theorem dX5_imagesKept_15 : decode cX5_imagesKept 15 = .ok (.ifCond .eq 6, 3) := by decide +kernel
theorem dX5_imagesKept_18 : decode cX5_imagesKept 18 = .ok (.iinc 1 1, 3) := by decide +kernel
theorem dX5_imagesKept_21 : decode cX5_imagesKept 21 = .ok (.iinc 2 1, 3) := by decide +kernel
theorem dX5_imagesKept_24 : decode cX5_imagesKept 24 = .ok (.goto (-20), 3) := by decide +kernel
theorem dX5_imagesKept_27 : decode cX5_imagesKept 27 = .ok (.iload_n 1, 1) := by decide +kernel
theorem dX5_imagesKept_28 : decode cX5_imagesKept 28 = .ok (.ireturn, 1) := by decide +kernel
theorem dX6_init_0 : decode cX6_init 0 = .ok (.aload_n 0, 1) := by decide +kernel
theorem dX6_init_1 : decode cX6_init 1 = .ok (.invokespecial 1, 3) := by decide +kernel
theorem dX6_init_4 : decode cX6_init 4 = .ok (.aload_n 0, 1) := by decide +kernel
theorem dX6_init_5 : decode cX6_init 5 = .ok (.sipush 156, 3) := by decide +kernel
theorem dX6_init_8 : decode cX6_init 8 = .ok (.newarray .int, 2) := by decide +kernel
theorem dX6_init_10 : decode cX6_init 10 = .ok (.putfield 7, 3) := by decide +kernel
theorem dX6_init_13 : decode cX6_init 13 = .ok (.aload_n 0, 1) := by decide +kernel
theorem dX6_init_14 : decode cX6_init 14 = .ok (.bipush 26, 2) := by decide +kernel
theorem dX6_init_16 : decode cX6_init 16 = .ok (.newarray .int, 2) := by decide +kernel
theorem dX6_init_18 : decode cX6_init 18 = .ok (.putfield 13, 3) := by decide +kernel
theorem dX6_init_21 : decode cX6_init 21 = .ok (.aload_n 0, 1) := by decide +kernel
theorem dX6_init_22 : decode cX6_init 22 = .ok (.sipush 160, 3) := by decide +kernel
theorem dX6_init_25 : decode cX6_init 25 = .ok (.newarray .int, 2) := by decide +kernel
theorem dX6_init_27 : decode cX6_init 27 = .ok (.putfield 16, 3) := by decide +kernel
theorem dX6_init_30 : decode cX6_init 30 = .ok (.aload_n 0, 1) := by decide +kernel
theorem dX6_init_31 : decode cX6_init 31 = .ok (.bipush 8, 2) := by decide +kernel
theorem dX6_init_33 : decode cX6_init 33 = .ok (.newarray .int, 2) := by decide +kernel
theorem dX6_init_35 : decode cX6_init 35 = .ok (.dup, 1) := by decide +kernel
theorem dX6_init_36 : decode cX6_init 36 = .ok (.iconst 0, 1) := by decide +kernel
theorem dX6_init_37 : decode cX6_init 37 = .ok (.iconst 0, 1) := by decide +kernel
theorem dX6_init_38 : decode cX6_init 38 = .ok (.iastore, 1) := by decide +kernel
theorem dX6_init_39 : decode cX6_init 39 = .ok (.dup, 1) := by decide +kernel
theorem dX6_init_40 : decode cX6_init 40 = .ok (.iconst 1, 1) := by decide +kernel
theorem dX6_init_41 : decode cX6_init 41 = .ok (.bipush 7, 2) := by decide +kernel
theorem dX6_init_43 : decode cX6_init 43 = .ok (.iastore, 1) := by decide +kernel
theorem dX6_init_44 : decode cX6_init 44 = .ok (.dup, 1) := by decide +kernel
theorem dX6_init_45 : decode cX6_init 45 = .ok (.iconst 2, 1) := by decide +kernel
theorem dX6_init_46 : decode cX6_init 46 = .ok (.bipush 13, 2) := by decide +kernel
theorem dX6_init_48 : decode cX6_init 48 = .ok (.iastore, 1) := by decide +kernel
theorem dX6_init_49 : decode cX6_init 49 = .ok (.dup, 1) := by decide +kernel
theorem dX6_init_50 : decode cX6_init 50 = .ok (.iconst 3, 1) := by decide +kernel
theorem dX6_init_51 : decode cX6_init 51 = .ok (.bipush 19, 2) := by decide +kernel
theorem dX6_init_53 : decode cX6_init 53 = .ok (.iastore, 1) := by decide +kernel
theorem dX6_init_54 : decode cX6_init 54 = .ok (.dup, 1) := by decide +kernel
theorem dX6_init_55 : decode cX6_init 55 = .ok (.iconst 4, 1) := by decide +kernel
theorem dX6_init_56 : decode cX6_init 56 = .ok (.bipush 23, 2) := by decide +kernel
theorem dX6_init_58 : decode cX6_init 58 = .ok (.iastore, 1) := by decide +kernel
theorem dX6_init_59 : decode cX6_init 59 = .ok (.dup, 1) := by decide +kernel
theorem dX6_init_60 : decode cX6_init 60 = .ok (.iconst 5, 1) := by decide +kernel
theorem dX6_init_61 : decode cX6_init 61 = .ok (.bipush 27, 2) := by decide +kernel
theorem dX6_init_63 : decode cX6_init 63 = .ok (.iastore, 1) := by decide +kernel
theorem dX6_init_64 : decode cX6_init 64 = .ok (.dup, 1) := by decide +kernel
theorem dX6_init_65 : decode cX6_init 65 = .ok (.bipush 6, 2) := by decide +kernel
theorem dX6_init_67 : decode cX6_init 67 = .ok (.bipush 32, 2) := by decide +kernel
theorem dX6_init_69 : decode cX6_init 69 = .ok (.iastore, 1) := by decide +kernel
theorem dX6_init_70 : decode cX6_init 70 = .ok (.dup, 1) := by decide +kernel
theorem dX6_init_71 : decode cX6_init 71 = .ok (.bipush 7, 2) := by decide +kernel
theorem dX6_init_73 : decode cX6_init 73 = .ok (.bipush 37, 2) := by decide +kernel
theorem dX6_init_75 : decode cX6_init 75 = .ok (.iastore, 1) := by decide +kernel
theorem dX6_init_76 : decode cX6_init 76 = .ok (.putfield 19, 3) := by decide +kernel
theorem dX6_init_79 : decode cX6_init 79 = .ok (.aload_n 0, 1) := by decide +kernel
theorem dX6_init_80 : decode cX6_init 80 = .ok (.bipush 37, 2) := by decide +kernel
theorem dX6_init_82 : decode cX6_init 82 = .ok (.newarray .int, 2) := by decide +kernel
theorem dX6_init_84 : decode cX6_init 84 = .ok (.dup, 1) := by decide +kernel
theorem dX6_init_85 : decode cX6_init 85 = .ok (.iconst 0, 1) := by decide +kernel
theorem dX6_init_86 : decode cX6_init 86 = .ok (.bipush 99, 2) := by decide +kernel
theorem dX6_init_88 : decode cX6_init 88 = .ok (.iastore, 1) := by decide +kernel
theorem dX6_init_89 : decode cX6_init 89 = .ok (.dup, 1) := by decide +kernel
theorem dX6_init_90 : decode cX6_init 90 = .ok (.iconst 1, 1) := by decide +kernel
theorem dX6_init_91 : decode cX6_init 91 = .ok (.bipush 104, 2) := by decide +kernel
theorem dX6_init_93 : decode cX6_init 93 = .ok (.iastore, 1) := by decide +kernel
theorem dX6_init_94 : decode cX6_init 94 = .ok (.dup, 1) := by decide +kernel
theorem dX6_init_95 : decode cX6_init 95 = .ok (.iconst 2, 1) := by decide +kernel
theorem dX6_init_96 : decode cX6_init 96 = .ok (.bipush 105, 2) := by decide +kernel
theorem dX6_init_98 : decode cX6_init 98 = .ok (.iastore, 1) := by decide +kernel
theorem dX6_init_99 : decode cX6_init 99 = .ok (.dup, 1) := by decide +kernel
theorem dX6_init_100 : decode cX6_init 100 = .ok (.iconst 3, 1) := by decide +kernel
theorem dX6_init_101 : decode cX6_init 101 = .ok (.bipush 109, 2) := by decide +kernel
theorem dX6_init_103 : decode cX6_init 103 = .ok (.iastore, 1) := by decide +kernel
theorem dX6_init_104 : decode cX6_init 104 = .ok (.dup, 1) := by decide +kernel
theorem dX6_init_105 : decode cX6_init 105 = .ok (.iconst 4, 1) := by decide +kernel
theorem dX6_init_106 : decode cX6_init 106 = .ok (.bipush 110, 2) := by decide +kernel
theorem dX6_init_108 : decode cX6_init 108 = .ok (.iastore, 1) := by decide +kernel
theorem dX6_init_109 : decode cX6_init 109 = .ok (.dup, 1) := by decide +kernel
theorem dX6_init_110 : decode cX6_init 110 = .ok (.iconst 5, 1) := by decide +kernel
theorem dX6_init_111 : decode cX6_init 111 = .ok (.bipush 101, 2) := by decide +kernel
theorem dX6_init_113 : decode cX6_init 113 = .ok (.iastore, 1) := by decide +kernel
theorem dX6_init_114 : decode cX6_init 114 = .ok (.dup, 1) := by decide +kernel
theorem dX6_init_115 : decode cX6_init 115 = .ok (.bipush 6, 2) := by decide +kernel
theorem dX6_init_117 : decode cX6_init 117 = .ok (.bipush 121, 2) := by decide +kernel
theorem dX6_init_119 : decode cX6_init 119 = .ok (.iastore, 1) := by decide +kernel
theorem dX6_init_120 : decode cX6_init 120 = .ok (.dup, 1) := by decide +kernel
theorem dX6_init_121 : decode cX6_init 121 = .ok (.bipush 7, 2) := by decide +kernel
theorem dX6_init_123 : decode cX6_init 123 = .ok (.bipush 109, 2) := by decide +kernel
theorem dX6_init_125 : decode cX6_init 125 = .ok (.iastore, 1) := by decide +kernel
theorem dX6_init_126 : decode cX6_init 126 = .ok (.dup, 1) := by decide +kernel
theorem dX6_init_127 : decode cX6_init 127 = .ok (.bipush 8, 2) := by decide +kernel
theorem dX6_init_129 : decode cX6_init 129 = .ok (.bipush 97, 2) := by decide +kernel
theorem dX6_init_131 : decode cX6_init 131 = .ok (.iastore, 1) := by decide +kernel
theorem dX6_init_132 : decode cX6_init 132 = .ok (.dup, 1) := by decide +kernel
theorem dX6_init_133 : decode cX6_init 133 = .ok (.bipush 9, 2) := by decide +kernel
theorem dX6_init_135 : decode cX6_init 135 = .ok (.bipush 114, 2) := by decide +kernel
theorem dX6_init_137 : decode cX6_init 137 = .ok (.iastore, 1) := by decide +kernel
theorem dX6_init_138 : decode cX6_init 138 = .ok (.dup, 1) := by decide +kernel
theorem dX6_init_139 : decode cX6_init 139 = .ok (.bipush 10, 2) := by decide +kernel
theorem dX6_init_141 : decode cX6_init 141 = .ok (.bipush 107, 2) := by decide +kernel
theorem dX6_init_143 : decode cX6_init 143 = .ok (.iastore, 1) := by decide +kernel
theorem dX6_init_144 : decode cX6_init 144 = .ok (.dup, 1) := by decide +kernel
theorem dX6_init_145 : decode cX6_init 145 = .ok (.bipush 11, 2) := by decide +kernel
theorem dX6_init_147 : decode cX6_init 147 = .ok (.bipush 101, 2) := by decide +kernel
theorem dX6_init_149 : decode cX6_init 149 = .ok (.iastore, 1) := by decide +kernel
theorem dX6_init_150 : decode cX6_init 150 = .ok (.dup, 1) := by decide +kernel
theorem dX6_init_151 : decode cX6_init 151 = .ok (.bipush 12, 2) := by decide +kernel
theorem dX6_init_153 : decode cX6_init 153 = .ok (.bipush 116, 2) := by decide +kernel
theorem dX6_init_155 : decode cX6_init 155 = .ok (.iastore, 1) := by decide +kernel
theorem dX6_init_156 : decode cX6_init 156 = .ok (.dup, 1) := by decide +kernel
theorem dX6_init_157 : decode cX6_init 157 = .ok (.bipush 13, 2) := by decide +kernel
theorem dX6_init_159 : decode cX6_init 159 = .ok (.bipush 99, 2) := by decide +kernel
theorem dX6_init_161 : decode cX6_init 161 = .ok (.iastore, 1) := by decide +kernel
theorem dX6_init_162 : decode cX6_init 162 = .ok (.dup, 1) := by decide +kernel
theorem dX6_init_163 : decode cX6_init 163 = .ok (.bipush 14, 2) := by decide +kernel
theorem dX6_init_165 : decode cX6_init 165 = .ok (.bipush 104, 2) := by decide +kernel
theorem dX6_init_167 : decode cX6_init 167 = .ok (.iastore, 1) := by decide +kernel
theorem dX6_init_168 : decode cX6_init 168 = .ok (.dup, 1) := by decide +kernel
theorem dX6_init_169 : decode cX6_init 169 = .ok (.bipush 15, 2) := by decide +kernel
theorem dX6_init_171 : decode cX6_init 171 = .ok (.bipush 97, 2) := by decide +kernel
theorem dX6_init_173 : decode cX6_init 173 = .ok (.iastore, 1) := by decide +kernel
theorem dX6_init_174 : decode cX6_init 174 = .ok (.dup, 1) := by decide +kernel
theorem dX6_init_175 : decode cX6_init 175 = .ok (.bipush 16, 2) := by decide +kernel
theorem dX6_init_177 : decode cX6_init 177 = .ok (.bipush 112, 2) := by decide +kernel
theorem dX6_init_179 : decode cX6_init 179 = .ok (.iastore, 1) := by decide +kernel
theorem dX6_init_180 : decode cX6_init 180 = .ok (.dup, 1) := by decide +kernel
theorem dX6_init_181 : decode cX6_init 181 = .ok (.bipush 17, 2) := by decide +kernel
theorem dX6_init_183 : decode cX6_init 183 = .ok (.bipush 101, 2) := by decide +kernel
theorem dX6_init_185 : decode cX6_init 185 = .ok (.iastore, 1) := by decide +kernel
theorem dX6_init_186 : decode cX6_init 186 = .ok (.dup, 1) := by decide +kernel
theorem dX6_init_187 : decode cX6_init 187 = .ok (.bipush 18, 2) := by decide +kernel
theorem dX6_init_189 : decode cX6_init 189 = .ok (.bipush 108, 2) := by decide +kernel
theorem dX6_init_191 : decode cX6_init 191 = .ok (.iastore, 1) := by decide +kernel
theorem dX6_init_192 : decode cX6_init 192 = .ok (.dup, 1) := by decide +kernel
theorem dX6_init_193 : decode cX6_init 193 = .ok (.bipush 19, 2) := by decide +kernel
theorem dX6_init_195 : decode cX6_init 195 = .ok (.bipush 100, 2) := by decide +kernel
theorem dX6_init_197 : decode cX6_init 197 = .ok (.iastore, 1) := by decide +kernel
theorem dX6_init_198 : decode cX6_init 198 = .ok (.dup, 1) := by decide +kernel
theorem dX6_init_199 : decode cX6_init 199 = .ok (.bipush 20, 2) := by decide +kernel
theorem dX6_init_201 : decode cX6_init 201 = .ok (.bipush 111, 2) := by decide +kernel
theorem dX6_init_203 : decode cX6_init 203 = .ok (.iastore, 1) := by decide +kernel
theorem dX6_init_204 : decode cX6_init 204 = .ok (.dup, 1) := by decide +kernel
theorem dX6_init_205 : decode cX6_init 205 = .ok (.bipush 21, 2) := by decide +kernel
theorem dX6_init_207 : decode cX6_init 207 = .ok (.bipush 99, 2) := by decide +kernel
theorem dX6_init_209 : decode cX6_init 209 = .ok (.iastore, 1) := by decide +kernel
theorem dX6_init_210 : decode cX6_init 210 = .ok (.dup, 1) := by decide +kernel
theorem dX6_init_211 : decode cX6_init 211 = .ok (.bipush 22, 2) := by decide +kernel
theorem dX6_init_213 : decode cX6_init 213 = .ok (.bipush 107, 2) := by decide +kernel
theorem dX6_init_215 : decode cX6_init 215 = .ok (.iastore, 1) := by decide +kernel
theorem dX6_init_216 : decode cX6_init 216 = .ok (.dup, 1) := by decide +kernel
theorem dX6_init_217 : decode cX6_init 217 = .ok (.bipush 23, 2) := by decide +kernel
theorem dX6_init_219 : decode cX6_init 219 = .ok (.bipush 102, 2) := by decide +kernel
theorem dX6_init_221 : decode cX6_init 221 = .ok (.iastore, 1) := by decide +kernel
theorem dX6_init_222 : decode cX6_init 222 = .ok (.dup, 1) := by decide +kernel
theorem dX6_init_223 : decode cX6_init 223 = .ok (.bipush 24, 2) := by decide +kernel
theorem dX6_init_225 : decode cX6_init 225 = .ok (.bipush 111, 2) := by decide +kernel
theorem dX6_init_227 : decode cX6_init 227 = .ok (.iastore, 1) := by decide +kernel
theorem dX6_init_228 : decode cX6_init 228 = .ok (.dup, 1) := by decide +kernel
theorem dX6_init_229 : decode cX6_init 229 = .ok (.bipush 25, 2) := by decide +kernel
theorem dX6_init_231 : decode cX6_init 231 = .ok (.bipush 111, 2) := by decide +kernel
theorem dX6_init_233 : decode cX6_init 233 = .ok (.iastore, 1) := by decide +kernel
theorem dX6_init_234 : decode cX6_init 234 = .ok (.dup, 1) := by decide +kernel
theorem dX6_init_235 : decode cX6_init 235 = .ok (.bipush 26, 2) := by decide +kernel
theorem dX6_init_237 : decode cX6_init 237 = .ok (.bipush 116, 2) := by decide +kernel
theorem dX6_init_239 : decode cX6_init 239 = .ok (.iastore, 1) := by decide +kernel
theorem dX6_init_240 : decode cX6_init 240 = .ok (.dup, 1) := by decide +kernel
theorem dX6_init_241 : decode cX6_init 241 = .ok (.bipush 27, 2) := by decide +kernel
theorem dX6_init_243 : decode cX6_init 243 = .ok (.bipush 115, 2) := by decide +kernel
theorem dX6_init_245 : decode cX6_init 245 = .ok (.iastore, 1) := by decide +kernel
theorem dX6_init_246 : decode cX6_init 246 = .ok (.dup, 1) := by decide +kernel
theorem dX6_init_247 : decode cX6_init 247 = .ok (.bipush 28, 2) := by decide +kernel
theorem dX6_init_249 : decode cX6_init 249 = .ok (.bipush 116, 2) := by decide +kernel
theorem dX6_init_251 : decode cX6_init 251 = .ok (.iastore, 1) := by decide +kernel
theorem dX6_init_252 : decode cX6_init 252 = .ok (.dup, 1) := by decide +kernel
theorem dX6_init_253 : decode cX6_init 253 = .ok (.bipush 29, 2) := by decide +kernel
theorem dX6_init_255 : decode cX6_init 255 = .ok (.bipush 105, 2) := by decide +kernel
theorem dX6_init_257 : decode cX6_init 257 = .ok (.iastore, 1) := by decide +kernel
theorem dX6_init_258 : decode cX6_init 258 = .ok (.dup, 1) := by decide +kernel
theorem dX6_init_259 : decode cX6_init 259 = .ok (.bipush 30, 2) := by decide +kernel
theorem dX6_init_261 : decode cX6_init 261 = .ok (.bipush 102, 2) := by decide +kernel
theorem dX6_init_263 : decode cX6_init 263 = .ok (.iastore, 1) := by decide +kernel
theorem dX6_init_264 : decode cX6_init 264 = .ok (.dup, 1) := by decide +kernel
theorem dX6_init_265 : decode cX6_init 265 = .ok (.bipush 31, 2) := by decide +kernel
theorem dX6_init_267 : decode cX6_init 267 = .ok (.bipush 102, 2) := by decide +kernel
theorem dX6_init_269 : decode cX6_init 269 = .ok (.iastore, 1) := by decide +kernel
theorem dX6_init_270 : decode cX6_init 270 = .ok (.dup, 1) := by decide +kernel
theorem dX6_init_271 : decode cX6_init 271 = .ok (.bipush 32, 2) := by decide +kernel
theorem dX6_init_273 : decode cX6_init 273 = .ok (.bipush 98, 2) := by decide +kernel
theorem dX6_init_275 : decode cX6_init 275 = .ok (.iastore, 1) := by decide +kernel
theorem dX6_init_276 : decode cX6_init 276 = .ok (.dup, 1) := by decide +kernel
theorem dX6_init_277 : decode cX6_init 277 = .ok (.bipush 33, 2) := by decide +kernel
theorem dX6_init_279 : decode cX6_init 279 = .ok (.bipush 101, 2) := by decide +kernel
theorem dX6_init_281 : decode cX6_init 281 = .ok (.iastore, 1) := by decide +kernel
theorem dX6_init_282 : decode cX6_init 282 = .ok (.dup, 1) := by decide +kernel
theorem dX6_init_283 : decode cX6_init 283 = .ok (.bipush 34, 2) := by decide +kernel
theorem dX6_init_285 : decode cX6_init 285 = .ok (.bipush 97, 2) := by decide +kernel
theorem dX6_init_287 : decode cX6_init 287 = .ok (.iastore, 1) := by decide +kernel
theorem dX6_init_288 : decode cX6_init 288 = .ok (.dup, 1) := by decide +kernel
theorem dX6_init_289 : decode cX6_init 289 = .ok (.bipush 35, 2) := by decide +kernel
theorem dX6_init_291 : decode cX6_init 291 = .ok (.bipush 114, 2) := by decide +kernel
theorem dX6_init_293 : decode cX6_init 293 = .ok (.iastore, 1) := by decide +kernel
theorem dX6_init_294 : decode cX6_init 294 = .ok (.dup, 1) := by decide +kernel
theorem dX6_init_295 : decode cX6_init 295 = .ok (.bipush 36, 2) := by decide +kernel
theorem dX6_init_297 : decode cX6_init 297 = .ok (.bipush 115, 2) := by decide +kernel
theorem dX6_init_299 : decode cX6_init 299 = .ok (.iastore, 1) := by decide +kernel
theorem dX6_init_300 : decode cX6_init 300 = .ok (.putfield 22, 3) := by decide +kernel
theorem dX6_init_303 : decode cX6_init 303 = .ok (.aload_n 0, 1) := by decide +kernel
theorem dX6_init_304 : decode cX6_init 304 = .ok (.bipush (-4), 2) := by decide +kernel
theorem dX6_init_306 : decode cX6_init 306 = .ok (.putfield 25, 3) := by decide +kernel
theorem dX6_init_309 : decode cX6_init 309 = .ok (.aload_n 0, 1) := by decide +kernel
theorem dX6_init_310 : decode cX6_init 310 = .ok (.bipush 12, 2) := by decide +kernel
theorem dX6_init_312 : decode cX6_init 312 = .ok (.newarray .int, 2) := by decide +kernel
theorem dX6_init_314 : decode cX6_init 314 = .ok (.putfield 29, 3) := by decide +kernel
theorem dX6_init_317 : decode cX6_init 317 = .ok (.aload_n 0, 1) := by decide +kernel
theorem dX6_init_318 : decode cX6_init 318 = .ok (.sipush 651, 3) := by decide +kernel
theorem dX6_init_321 : decode cX6_init 321 = .ok (.newarray .int, 2) := by decide +kernel
theorem dX6_init_323 : decode cX6_init 323 = .ok (.putfield 32, 3) := by decide +kernel
theorem dX6_init_326 : decode cX6_init 326 = .ok (.aload_n 0, 1) := by decide +kernel
theorem dX6_init_327 : decode cX6_init 327 = .ok (.iconst 2, 1) := by decide +kernel
theorem dX6_init_328 : decode cX6_init 328 = .ok (.newarray .boolean, 2) := by decide +kernel
theorem dX6_init_330 : decode cX6_init 330 = .ok (.putfield 35, 3) := by decide +kernel
theorem dX6_init_333 : decode cX6_init 333 = .ok (.aload_n 0, 1) := by decide +kernel
theorem dX6_init_334 : decode cX6_init 334 = .ok (.iconst 4, 1) := by decide +kernel
theorem dX6_init_335 : decode cX6_init 335 = .ok (.newarray .int, 2) := by decide +kernel
theorem dX6_init_337 : decode cX6_init 337 = .ok (.dup, 1) := by decide +kernel
theorem dX6_init_338 : decode cX6_init 338 = .ok (.iconst 0, 1) := by decide +kernel
theorem dX6_init_339 : decode cX6_init 339 = .ok (.bipush (-4), 2) := by decide +kernel
theorem dX6_init_341 : decode cX6_init 341 = .ok (.iastore, 1) := by decide +kernel
theorem dX6_init_342 : decode cX6_init 342 = .ok (.dup, 1) := by decide +kernel
theorem dX6_init_343 : decode cX6_init 343 = .ok (.iconst 1, 1) := by decide +kernel
theorem dX6_init_344 : decode cX6_init 344 = .ok (.bipush (-4), 2) := by decide +kernel
theorem dX6_init_346 : decode cX6_init 346 = .ok (.iastore, 1) := by decide +kernel
theorem dX6_init_347 : decode cX6_init 347 = .ok (.dup, 1) := by decide +kernel
theorem dX6_init_348 : decode cX6_init 348 = .ok (.iconst 2, 1) := by decide +kernel
theorem dX6_init_349 : decode cX6_init 349 = .ok (.bipush (-4), 2) := by decide +kernel
theorem dX6_init_351 : decode cX6_init 351 = .ok (.iastore, 1) := by decide +kernel
theorem dX6_init_352 : decode cX6_init 352 = .ok (.dup, 1) := by decide +kernel
theorem dX6_init_353 : decode cX6_init 353 = .ok (.iconst 3, 1) := by decide +kernel
theorem dX6_init_354 : decode cX6_init 354 = .ok (.bipush (-4), 2) := by decide +kernel
theorem dX6_init_356 : decode cX6_init 356 = .ok (.iastore, 1) := by decide +kernel
theorem dX6_init_357 : decode cX6_init 357 = .ok (.putfield 39, 3) := by decide +kernel
theorem dX6_init_360 : decode cX6_init 360 = .ok (.aload_n 0, 1) := by decide +kernel
theorem dX6_init_361 : decode cX6_init 361 = .ok (.iconst 4, 1) := by decide +kernel
theorem dX6_init_362 : decode cX6_init 362 = .ok (.newarray .int, 2) := by decide +kernel
theorem dX6_init_364 : decode cX6_init 364 = .ok (.putfield 42, 3) := by decide +kernel
theorem dX6_init_367 : decode cX6_init 367 = .ok (.aload_n 0, 1) := by decide +kernel
theorem dX6_init_368 : decode cX6_init 368 = .ok (.sipush 160, 3) := by decide +kernel
theorem dX6_init_371 : decode cX6_init 371 = .ok (.newarray .int, 2) := by decide +kernel
theorem dX6_init_373 : decode cX6_init 373 = .ok (.putfield 45, 3) := by decide +kernel
theorem dX6_init_376 : decode cX6_init 376 = .ok (.return_, 1) := by decide +kernel
theorem dX6_in_0 : decode cX6_in 0 = .ok (.lload_n 0, 1) := by decide +kernel
theorem dX6_in_1 : decode cX6_in 1 = .ok (.lload_n 2, 1) := by decide +kernel
theorem dX6_in_2 : decode cX6_in 2 = .ok (.lcmp, 1) := by decide +kernel
theorem dX6_in_3 : decode cX6_in 3 = .ok (.ifCond .lt 14, 3) := by decide +kernel
theorem dX6_in_6 : decode cX6_in 6 = .ok (.lload_n 0, 1) := by decide +kernel
theorem dX6_in_7 : decode cX6_in 7 = .ok (.lload 4, 2) := by decide +kernel
theorem dX6_in_9 : decode cX6_in 9 = .ok (.lcmp, 1) := by decide +kernel
theorem dX6_in_10 : decode cX6_in 10 = .ok (.ifCond .gt 7, 3) := by decide +kernel
theorem dX6_in_13 : decode cX6_in 13 = .ok (.iconst 1, 1) := by decide +kernel
theorem dX6_in_14 : decode cX6_in 14 = .ok (.goto 4, 3) := by decide +kernel
theorem dX6_in_17 : decode cX6_in 17 = .ok (.iconst 0, 1) := by decide +kernel
theorem dX6_in_18 : decode cX6_in 18 = .ok (.ireturn, 1) := by decide +kernel
set_option maxRecDepth 20000 in
theorem ggX6_feed_X6_in : GoodIn wsX6_feed wsX6_in := goodIn_r _ [7] (by decide +kernel) (by decide +kernel)
set_option maxRecDepth 20000 in
theorem gX6_feed_X6_in : GoodIn wsX6_feed (va_wsS RX6 50 yX6_in wsX6_in) := goodIn_app (goodIn_of _ (by decide +kernel)) ggX6_feed_X6_in
theorem dX6_feed_0 : decode cX6_feed 0 = .ok (.iload_n 1, 1) := by decide +kernel
theorem dX6_feed_1 : decode cX6_feed 1 = .ok (.i2l, 1) := by decide +kernel
theorem dX6_feed_2 : decode cX6_feed 2 = .ok (.lconst 0, 1) := by decide +kernel
theorem dX6_feed_3 : decode cX6_feed 3 = .ok (.ldc2_w 48, 3) := by decide +kernel
theorem dX6_feed_6 : decode cX6_feed 6 = .ok (.invokestatic 50, 3) := by decide +kernel
theorem dX6_feed_9 : decode cX6_feed 9 = .ok (.ifCond .ne 5, 3) := by decide +kernel
theorem dX6_feed_12 : decode cX6_feed 12 = .ok (.iconst (-1), 1) := by decide +kernel
theorem dX6_feed_13 : decode cX6_feed 13 = .ok (.ireturn, 1) := by decide +kernel
theorem dX6_feed_14 : decode cX6_feed 14 = .ok (.aload_n 0, 1) := by decide +kernel
theorem dX6_feed_15 : decode cX6_feed 15 = .ok (.getfield 54, 3) := by decide +kernel
theorem dX6_feed_18 : decode cX6_feed 18 = .ok (.sipush 160, 3) := by decide +kernel
theorem dX6_feed_21 : decode cX6_feed 21 = .ok (.if_icmp .ne 6, 3) := by decide +kernel
theorem dX6_feed_24 : decode cX6_feed 24 = .ok (.bipush (-3), 2) := by decide +kernel
theorem dX6_feed_26 : decode cX6_feed 26 = .ok (.ireturn, 1) := by decide +kernel
theorem dX6_feed_27 : decode cX6_feed 27 = .ok (.aload_n 0, 1) := by decide +kernel
theorem dX6_feed_28 : decode cX6_feed 28 = .ok (.getfield 16, 3) := by decide +kernel
theorem dX6_feed_31 : decode cX6_feed 31 = .ok (.aload_n 0, 1) := by decide +kernel
theorem dX6_feed_32 : decode cX6_feed 32 = .ok (.getfield 54, 3) := by decide +kernel
theorem dX6_feed_35 : decode cX6_feed 35 = .ok (.iload_n 1, 1) := by decide +kernel
theorem dX6_feed_36 : decode cX6_feed 36 = .ok (.iastore, 1) := by decide +kernel
theorem dX6_feed_37 : decode cX6_feed 37 = .ok (.aload_n 0, 1) := by decide +kernel
theorem dX6_feed_38 : decode cX6_feed 38 = .ok (.dup, 1) := by decide +kernel
theorem dX6_feed_39 : decode cX6_feed 39 = .ok (.getfield 54, 3) := by decide +kernel
theorem dX6_feed_42 : decode cX6_feed 42 = .ok (.iconst 1, 1) := by decide +kernel
theorem dX6_feed_43 : decode cX6_feed 43 = .ok (.iadd, 1) := by decide +kernel
theorem dX6_feed_44 : decode cX6_feed 44 = .ok (.putfield 54, 3) := by decide +kernel
theorem dX6_feed_47 : decode cX6_feed 47 = .ok (.aload_n 0, 1) := by decide +kernel
theorem dX6_feed_48 : decode cX6_feed 48 = .ok (.getfield 54, 3) := by decide +kernel
theorem dX6_feed_51 : decode cX6_feed 51 = .ok (.ireturn, 1) := by decide +kernel
set_option maxRecDepth 20000 in
theorem ggX6_end_X6_in : GoodIn wsX6_end wsX6_in := goodIn_r _ [5] (by decide +kernel) (by decide +kernel)
set_option maxRecDepth 20000 in
theorem gX6_end_X6_in : GoodIn wsX6_end (va_wsS RX6 50 yX6_in wsX6_in) := goodIn_app (goodIn_of _ (by decide +kernel)) ggX6_end_X6_in
theorem dX6_end_0 : decode cX6_end 0 = .ok (.iload_n 1, 1) := by decide +kernel
theorem dX6_end_1 : decode cX6_end 1 = .ok (.i2l, 1) := by decide +kernel
theorem dX6_end_2 : decode cX6_end 2 = .ok (.lconst 0, 1) := by decide +kernel
theorem dX6_end_3 : decode cX6_end 3 = .ok (.aload_n 0, 1) := by decide +kernel
theorem dX6_end_4 : decode cX6_end 4 = .ok (.getfield 54, 3) := by decide +kernel
theorem dX6_end_7 : decode cX6_end 7 = .ok (.i2l, 1) := by decide +kernel
theorem dX6_end_8 : decode cX6_end 8 = .ok (.invokestatic 50, 3) := by decide +kernel
theorem dX6_end_11 : decode cX6_end 11 = .ok (.ifCond .ne 5, 3) := by decide +kernel
theorem dX6_end_14 : decode cX6_end 14 = .ok (.iconst (-1), 1) := by decide +kernel
theorem dX6_end_15 : decode cX6_end 15 = .ok (.ireturn, 1) := by decide +kernel
theorem dX6_end_16 : decode cX6_end 16 = .ok (.aload_n 0, 1) := by decide +kernel
theorem dX6_end_17 : decode cX6_end 17 = .ok (.getfield 54, 3) := by decide +kernel
theorem dX6_end_20 : decode cX6_end 20 = .ok (.istore_n 2, 1) := by decide +kernel
theorem dX6_end_21 : decode cX6_end 21 = .ok (.aload_n 0, 1) := by decide +kernel
theorem dX6_end_22 : decode cX6_end 22 = .ok (.iload_n 1, 1) := by decide +kernel
theorem dX6_end_23 : decode cX6_end 23 = .ok (.putfield 54, 3) := by decide +kernel
theorem dX6_end_26 : decode cX6_end 26 = .ok (.iload_n 2, 1) := by decide +kernel
theorem dX6_end_27 : decode cX6_end 27 = .ok (.ireturn, 1) := by decide +kernel
theorem dX6_byteAt_0 : decode cX6_byteAt 0 = .ok (.iload_n 1, 1) := by decide +kernel
theorem dX6_byteAt_1 : decode cX6_byteAt 1 = .ok (.aload_n 0, 1) := by decide +kernel
theorem dX6_byteAt_2 : decode cX6_byteAt 2 = .ok (.getfield 54, 3) := by decide +kernel
theorem dX6_byteAt_5 : decode cX6_byteAt 5 = .ok (.if_icmp .ge 12, 3) := by decide +kernel
theorem dX6_byteAt_8 : decode cX6_byteAt 8 = .ok (.aload_n 0, 1) := by decide +kernel
theorem dX6_byteAt_9 : decode cX6_byteAt 9 = .ok (.getfield 16, 3) := by decide +kernel
theorem dX6_byteAt_12 : decode cX6_byteAt 12 = .ok (.iload_n 1, 1) := by decide +kernel
theorem dX6_byteAt_13 : decode cX6_byteAt 13 = .ok (.iaload, 1) := by decide +kernel
theorem dX6_byteAt_14 : decode cX6_byteAt 14 = .ok (.goto 5, 3) := by decide +kernel
theorem dX6_byteAt_17 : decode cX6_byteAt 17 = .ok (.bipush (-4), 2) := by decide +kernel
theorem dX6_byteAt_19 : decode cX6_byteAt 19 = .ok (.ireturn, 1) := by decide +kernel
theorem dX6_fails_0 : decode cX6_fails 0 = .ok (.aload_n 0, 1) := by decide +kernel
theorem dX6_fails_1 : decode cX6_fails 1 = .ok (.getfield 57, 3) := by decide +kernel
theorem dX6_fails_4 : decode cX6_fails 4 = .ok (.ifCond .ne 16, 3) := by decide +kernel
theorem dX6_fails_7 : decode cX6_fails 7 = .ok (.aload_n 0, 1) := by decide +kernel
theorem dX6_fails_8 : decode cX6_fails 8 = .ok (.iload_n 1, 1) := by decide +kernel
theorem dX6_fails_9 : decode cX6_fails 9 = .ok (.putfield 57, 3) := by decide +kernel
theorem dX6_fails_12 : decode cX6_fails 12 = .ok (.aload_n 0, 1) := by decide +kernel
theorem dX6_fails_13 : decode cX6_fails 13 = .ok (.aload_n 0, 1) := by decide +kernel
theorem dX6_fails_14 : decode cX6_fails 14 = .ok (.getfield 60, 3) := by decide +kernel
theorem dX6_fails_17 : decode cX6_fails 17 = .ok (.putfield 63, 3) := by decide +kernel
theorem dX6_fails_20 : decode cX6_fails 20 = .ok (.return_, 1) := by decide +kernel
set_option maxRecDepth 20000 in
theorem ggX6_nameHere_X6_byteAt : GoodIn wsX6_nameHere wsX6_byteAt := goodIn_r _ [10, 11, 12, 13, 14, 15, 16, 17, 18, 19, 20, 21, 22, 23, 24, 25, 26, 27, 28, 29, 30, 31, 32, 33, 34, 35, 36, 37, 38] (by decide +kernel) (by decide +kernel)
set_option maxRecDepth 20000 in
theorem gX6_nameHere_X6_byteAt : GoodIn wsX6_nameHere (wsV RX6 72 RX6 yX6_byteAt wsX6_byteAt) := goodIn_app (goodIn_of _ (by decide +kernel)) ggX6_nameHere_X6_byteAt
theorem dX6_nameHere_0 : decode cX6_nameHere 0 = .ok (.iconst 0, 1) := by decide +kernel
theorem dX6_nameHere_1 : decode cX6_nameHere 1 = .ok (.istore_n 1, 1) := by decide +kernel
theorem dX6_nameHere_2 : decode cX6_nameHere 2 = .ok (.iload_n 1, 1) := by decide +kernel
theorem dX6_nameHere_3 : decode cX6_nameHere 3 = .ok (.bipush 7, 2) := by decide +kernel
theorem dX6_nameHere_5 : decode cX6_nameHere 5 = .ok (.if_icmp .ge 113, 3) := by decide +kernel
theorem dX6_nameHere_8 : decode cX6_nameHere 8 = .ok (.aload_n 0, 1) := by decide +kernel
theorem dX6_nameHere_9 : decode cX6_nameHere 9 = .ok (.getfield 66, 3) := by decide +kernel
theorem dX6_nameHere_12 : decode cX6_nameHere 12 = .ok (.iconst 1, 1) := by decide +kernel
theorem dX6_nameHere_13 : decode cX6_nameHere 13 = .ok (.if_icmp .ne 105, 3) := by decide +kernel
theorem dX6_nameHere_16 : decode cX6_nameHere 16 = .ok (.aload_n 0, 1) := by decide +kernel
theorem dX6_nameHere_17 : decode cX6_nameHere 17 = .ok (.getfield 69, 3) := by decide +kernel
theorem dX6_nameHere_20 : decode cX6_nameHere 20 = .ok (.aload_n 0, 1) := by decide +kernel
theorem dX6_nameHere_21 : decode cX6_nameHere 21 = .ok (.getfield 60, 3) := by decide +kernel
theorem dX6_nameHere_24 : decode cX6_nameHere 24 = .ok (.isub, 1) := by decide +kernel
theorem dX6_nameHere_25 : decode cX6_nameHere 25 = .ok (.aload_n 0, 1) := by decide +kernel
theorem dX6_nameHere_26 : decode cX6_nameHere 26 = .ok (.getfield 19, 3) := by decide +kernel
theorem dX6_nameHere_29 : decode cX6_nameHere 29 = .ok (.iload_n 1, 1) := by decide +kernel
theorem dX6_nameHere_30 : decode cX6_nameHere 30 = .ok (.iconst 1, 1) := by decide +kernel
theorem dX6_nameHere_31 : decode cX6_nameHere 31 = .ok (.iadd, 1) := by decide +kernel
theorem dX6_nameHere_32 : decode cX6_nameHere 32 = .ok (.iaload, 1) := by decide +kernel
theorem dX6_nameHere_33 : decode cX6_nameHere 33 = .ok (.aload_n 0, 1) := by decide +kernel
theorem dX6_nameHere_34 : decode cX6_nameHere 34 = .ok (.getfield 19, 3) := by decide +kernel
theorem dX6_nameHere_37 : decode cX6_nameHere 37 = .ok (.iload_n 1, 1) := by decide +kernel
theorem dX6_nameHere_38 : decode cX6_nameHere 38 = .ok (.iaload, 1) := by decide +kernel
theorem dX6_nameHere_39 : decode cX6_nameHere 39 = .ok (.isub, 1) := by decide +kernel
theorem dX6_nameHere_40 : decode cX6_nameHere 40 = .ok (.if_icmp .ne 7, 3) := by decide +kernel
theorem dX6_nameHere_43 : decode cX6_nameHere 43 = .ok (.iconst 1, 1) := by decide +kernel
theorem dX6_nameHere_44 : decode cX6_nameHere 44 = .ok (.goto 4, 3) := by decide +kernel
theorem dX6_nameHere_47 : decode cX6_nameHere 47 = .ok (.iconst 0, 1) := by decide +kernel
theorem dX6_nameHere_48 : decode cX6_nameHere 48 = .ok (.istore_n 2, 1) := by decide +kernel
theorem dX6_nameHere_49 : decode cX6_nameHere 49 = .ok (.iconst 0, 1) := by decide +kernel
theorem dX6_nameHere_50 : decode cX6_nameHere 50 = .ok (.istore_n 3, 1) := by decide +kernel
theorem dX6_nameHere_51 : decode cX6_nameHere 51 = .ok (.iload_n 2, 1) := by decide +kernel
theorem dX6_nameHere_52 : decode cX6_nameHere 52 = .ok (.ifCond .eq 54, 3) := by decide +kernel
theorem dX6_nameHere_55 : decode cX6_nameHere 55 = .ok (.iload_n 3, 1) := by decide +kernel
theorem dX6_nameHere_56 : decode cX6_nameHere 56 = .ok (.aload_n 0, 1) := by decide +kernel
theorem dX6_nameHere_57 : decode cX6_nameHere 57 = .ok (.getfield 69, 3) := by decide +kernel
theorem dX6_nameHere_60 : decode cX6_nameHere 60 = .ok (.aload_n 0, 1) := by decide +kernel
theorem dX6_nameHere_61 : decode cX6_nameHere 61 = .ok (.getfield 60, 3) := by decide +kernel
theorem dX6_nameHere_64 : decode cX6_nameHere 64 = .ok (.isub, 1) := by decide +kernel
theorem dX6_nameHere_65 : decode cX6_nameHere 65 = .ok (.if_icmp .ge 41, 3) := by decide +kernel
theorem dX6_nameHere_68 : decode cX6_nameHere 68 = .ok (.aload_n 0, 1) := by decide +kernel
theorem dX6_nameHere_69 : decode cX6_nameHere 69 = .ok (.aload_n 0, 1) := by decide +kernel
theorem dX6_nameHere_70 : decode cX6_nameHere 70 = .ok (.getfield 60, 3) := by decide +kernel
theorem dX6_nameHere_73 : decode cX6_nameHere 73 = .ok (.iload_n 3, 1) := by decide +kernel
theorem dX6_nameHere_74 : decode cX6_nameHere 74 = .ok (.iadd, 1) := by decide +kernel
theorem dX6_nameHere_75 : decode cX6_nameHere 75 = .ok (.invokevirtual 72, 3) := by decide +kernel
theorem dX6_nameHere_78 : decode cX6_nameHere 78 = .ok (.aload_n 0, 1) := by decide +kernel
theorem dX6_nameHere_79 : decode cX6_nameHere 79 = .ok (.getfield 22, 3) := by decide +kernel
theorem dX6_nameHere_82 : decode cX6_nameHere 82 = .ok (.aload_n 0, 1) := by decide +kernel
theorem dX6_nameHere_83 : decode cX6_nameHere 83 = .ok (.getfield 19, 3) := by decide +kernel
theorem dX6_nameHere_86 : decode cX6_nameHere 86 = .ok (.iload_n 1, 1) := by decide +kernel
theorem dX6_nameHere_87 : decode cX6_nameHere 87 = .ok (.iaload, 1) := by decide +kernel
theorem dX6_nameHere_88 : decode cX6_nameHere 88 = .ok (.iload_n 3, 1) := by decide +kernel
theorem dX6_nameHere_89 : decode cX6_nameHere 89 = .ok (.iadd, 1) := by decide +kernel
theorem dX6_nameHere_90 : decode cX6_nameHere 90 = .ok (.iaload, 1) := by decide +kernel
theorem dX6_nameHere_91 : decode cX6_nameHere 91 = .ok (.if_icmp .ne 7, 3) := by decide +kernel
theorem dX6_nameHere_94 : decode cX6_nameHere 94 = .ok (.iconst 1, 1) := by decide +kernel
theorem dX6_nameHere_95 : decode cX6_nameHere 95 = .ok (.goto 4, 3) := by decide +kernel
theorem dX6_nameHere_98 : decode cX6_nameHere 98 = .ok (.iconst 0, 1) := by decide +kernel
theorem dX6_nameHere_99 : decode cX6_nameHere 99 = .ok (.istore_n 2, 1) := by decide +kernel
theorem dX6_nameHere_100 : decode cX6_nameHere 100 = .ok (.iinc 3 1, 3) := by decide +kernel
theorem dX6_nameHere_103 : decode cX6_nameHere 103 = .ok (.goto (-52), 3) := by decide +kernel
theorem dX6_nameHere_106 : decode cX6_nameHere 106 = .ok (.iload_n 2, 1) := by decide +kernel
theorem dX6_nameHere_107 : decode cX6_nameHere 107 = .ok (.ifCond .eq 5, 3) := by decide +kernel
theorem dX6_nameHere_110 : decode cX6_nameHere 110 = .ok (.iload_n 1, 1) := by decide +kernel
theorem dX6_nameHere_111 : decode cX6_nameHere 111 = .ok (.ireturn, 1) := by decide +kernel
theorem dX6_nameHere_112 : decode cX6_nameHere 112 = .ok (.iinc 1 1, 3) := by decide +kernel
theorem dX6_nameHere_115 : decode cX6_nameHere 115 = .ok (.goto (-113), 3) := by decide +kernel
theorem dX6_nameHere_118 : decode cX6_nameHere 118 = .ok (.bipush (-4), 2) := by decide +kernel
theorem dX6_nameHere_120 : decode cX6_nameHere 120 = .ok (.ireturn, 1) := by decide +kernel
set_option maxRecDepth 20000 in
theorem ggX6_step_X6_byteAt : GoodIn wsX6_step wsX6_byteAt := goodIn_r _ [14, 15, 16, 25, 26, 27, 28, 29, 30, 31, 32, 33, 34, 35, 36, 37, 38, 39, 40, 41, 42, 43, 44, 45, 46, 47, 48, 49, 50] (by decide +kernel) (by decide +kernel)
set_option maxRecDepth 20000 in
theorem gX6_step_X6_byteAt : GoodIn wsX6_step (wsV RX6 72 RX6 yX6_byteAt wsX6_byteAt) := goodIn_app (goodIn_of _ (by decide +kernel)) ggX6_step_X6_byteAt
set_option maxRecDepth 20000 in
theorem ggX6_step_X6_in : GoodIn wsX6_step wsX6_in := goodIn_r _ [19] (by decide +kernel) (by decide +kernel)
set_option maxRecDepth 20000 in
theorem gX6_step_X6_in : GoodIn wsX6_step (va_wsS RX6 50 yX6_in wsX6_in) := goodIn_app (goodIn_of _ (by decide +kernel)) ggX6_step_X6_in
set_option maxRecDepth 20000 in
theorem ggX6_step_X6_fails : GoodIn wsX6_step wsX6_fails := goodIn_r _ [23, 1, 3, 24, 25, 26, 27, 28, 29, 30, 31, 32, 33, 34, 35, 36, 37, 38, 39, 40, 41, 42, 43, 44, 45, 46, 47, 48, 49, 50] (by decide +kernel) (by decide +kernel)
set_option maxRecDepth 20000 in
theorem gX6_step_X6_fails : GoodIn wsX6_step (wsV RX6 87 RX6 yX6_fails wsX6_fails) := goodIn_app (goodIn_of _ (by decide +kernel)) ggX6_step_X6_fails
theorem dX6_step_0 : decode cX6_step 0 = .ok (.aload_n 0, 1) := by decide +kernel
theorem dX6_step_1 : decode cX6_step 1 = .ok (.getfield 57, 3) := by decide +kernel
theorem dX6_step_4 : decode cX6_step 4 = .ok (.ifCond .le 4, 3) := by decide +kernel
theorem dX6_step_7 : decode cX6_step 7 = .ok (.return_, 1) := by decide +kernel
theorem dX6_step_8 : decode cX6_step 8 = .ok (.aload_n 0, 1) := by decide +kernel
theorem dX6_step_9 : decode cX6_step 9 = .ok (.aload_n 0, 1) := by decide +kernel
theorem dX6_step_10 : decode cX6_step 10 = .ok (.getfield 69, 3) := by decide +kernel
theorem dX6_step_13 : decode cX6_step 13 = .ok (.invokevirtual 72, 3) := by decide +kernel
theorem dX6_step_16 : decode cX6_step 16 = .ok (.bipush 32, 2) := by decide +kernel
theorem dX6_step_18 : decode cX6_step 18 = .ok (.if_icmp .ne 16, 3) := by decide +kernel
theorem dX6_step_21 : decode cX6_step 21 = .ok (.aload_n 0, 1) := by decide +kernel
theorem dX6_step_22 : decode cX6_step 22 = .ok (.dup, 1) := by decide +kernel
theorem dX6_step_23 : decode cX6_step 23 = .ok (.getfield 69, 3) := by decide +kernel
theorem dX6_step_26 : decode cX6_step 26 = .ok (.iconst 1, 1) := by decide +kernel
theorem dX6_step_27 : decode cX6_step 27 = .ok (.iadd, 1) := by decide +kernel
theorem dX6_step_28 : decode cX6_step 28 = .ok (.putfield 69, 3) := by decide +kernel
theorem dX6_step_31 : decode cX6_step 31 = .ok (.goto (-23), 3) := by decide +kernel
theorem dX6_step_34 : decode cX6_step 34 = .ok (.aload_n 0, 1) := by decide +kernel
theorem dX6_step_35 : decode cX6_step 35 = .ok (.aload_n 0, 1) := by decide +kernel
theorem dX6_step_36 : decode cX6_step 36 = .ok (.getfield 69, 3) := by decide +kernel
theorem dX6_step_39 : decode cX6_step 39 = .ok (.putfield 60, 3) := by decide +kernel
theorem dX6_step_42 : decode cX6_step 42 = .ok (.aload_n 0, 1) := by decide +kernel
theorem dX6_step_43 : decode cX6_step 43 = .ok (.aload_n 0, 1) := by decide +kernel
theorem dX6_step_44 : decode cX6_step 44 = .ok (.getfield 69, 3) := by decide +kernel
theorem dX6_step_47 : decode cX6_step 47 = .ok (.invokevirtual 72, 3) := by decide +kernel
theorem dX6_step_50 : decode cX6_step 50 = .ok (.istore_n 1, 1) := by decide +kernel
theorem dX6_step_51 : decode cX6_step 51 = .ok (.aload_n 0, 1) := by decide +kernel
theorem dX6_step_52 : decode cX6_step 52 = .ok (.iconst 0, 1) := by decide +kernel
theorem dX6_step_53 : decode cX6_step 53 = .ok (.putfield 76, 3) := by decide +kernel
theorem dX6_step_56 : decode cX6_step 56 = .ok (.iload_n 1, 1) := by decide +kernel
theorem dX6_step_57 : decode cX6_step 57 = .ok (.bipush (-4), 2) := by decide +kernel
theorem dX6_step_59 : decode cX6_step 59 = .ok (.if_icmp .ne 11, 3) := by decide +kernel
theorem dX6_step_62 : decode cX6_step 62 = .ok (.aload_n 0, 1) := by decide +kernel
theorem dX6_step_63 : decode cX6_step 63 = .ok (.iconst 0, 1) := by decide +kernel
theorem dX6_step_64 : decode cX6_step 64 = .ok (.putfield 66, 3) := by decide +kernel
theorem dX6_step_67 : decode cX6_step 67 = .ok (.goto 202, 3) := by decide +kernel
theorem dX6_step_70 : decode cX6_step 70 = .ok (.iload_n 1, 1) := by decide +kernel
theorem dX6_step_71 : decode cX6_step 71 = .ok (.i2l, 1) := by decide +kernel
theorem dX6_step_72 : decode cX6_step 72 = .ok (.ldc2_w 79, 3) := by decide +kernel
theorem dX6_step_75 : decode cX6_step 75 = .ok (.ldc2_w 81, 3) := by decide +kernel
theorem dX6_step_78 : decode cX6_step 78 = .ok (.invokestatic 50, 3) := by decide +kernel
theorem dX6_step_81 : decode cX6_step 81 = .ok (.ifCond .eq 45, 3) := by decide +kernel
theorem dX6_step_84 : decode cX6_step 84 = .ok (.aload_n 0, 1) := by decide +kernel
theorem dX6_step_85 : decode cX6_step 85 = .ok (.aload_n 0, 1) := by decide +kernel
theorem dX6_step_86 : decode cX6_step 86 = .ok (.getfield 69, 3) := by decide +kernel
theorem dX6_step_89 : decode cX6_step 89 = .ok (.invokevirtual 72, 3) := by decide +kernel
theorem dX6_step_92 : decode cX6_step 92 = .ok (.i2l, 1) := by decide +kernel
theorem dX6_step_93 : decode cX6_step 93 = .ok (.ldc2_w 79, 3) := by decide +kernel
theorem dX6_step_96 : decode cX6_step 96 = .ok (.ldc2_w 81, 3) := by decide +kernel
theorem dX6_step_99 : decode cX6_step 99 = .ok (.invokestatic 50, 3) := by decide +kernel
theorem dX6_step_102 : decode cX6_step 102 = .ok (.ifCond .eq 16, 3) := by decide +kernel
theorem dX6_step_105 : decode cX6_step 105 = .ok (.aload_n 0, 1) := by decide +kernel
theorem dX6_step_106 : decode cX6_step 106 = .ok (.dup, 1) := by decide +kernel
theorem dX6_step_107 : decode cX6_step 107 = .ok (.getfield 69, 3) := by decide +kernel
theorem dX6_step_110 : decode cX6_step 110 = .ok (.iconst 1, 1) := by decide +kernel
theorem dX6_step_111 : decode cX6_step 111 = .ok (.iadd, 1) := by decide +kernel
theorem dX6_step_112 : decode cX6_step 112 = .ok (.putfield 69, 3) := by decide +kernel
theorem dX6_step_115 : decode cX6_step 115 = .ok (.goto (-31), 3) := by decide +kernel
theorem dX6_step_118 : decode cX6_step 118 = .ok (.aload_n 0, 1) := by decide +kernel
theorem dX6_step_119 : decode cX6_step 119 = .ok (.iconst 1, 1) := by decide +kernel
theorem dX6_step_120 : decode cX6_step 120 = .ok (.putfield 66, 3) := by decide +kernel
theorem dX6_step_123 : decode cX6_step 123 = .ok (.goto 146, 3) := by decide +kernel
theorem dX6_step_126 : decode cX6_step 126 = .ok (.iload_n 1, 1) := by decide +kernel
theorem dX6_step_127 : decode cX6_step 127 = .ok (.i2l, 1) := by decide +kernel
theorem dX6_step_128 : decode cX6_step 128 = .ok (.ldc2_w 83, 3) := by decide +kernel
theorem dX6_step_131 : decode cX6_step 131 = .ok (.ldc2_w 85, 3) := by decide +kernel
theorem dX6_step_134 : decode cX6_step 134 = .ok (.invokestatic 50, 3) := by decide +kernel
theorem dX6_step_137 : decode cX6_step 137 = .ok (.ifCond .eq 106, 3) := by decide +kernel
theorem dX6_step_140 : decode cX6_step 140 = .ok (.aload_n 0, 1) := by decide +kernel
theorem dX6_step_141 : decode cX6_step 141 = .ok (.aload_n 0, 1) := by decide +kernel
theorem dX6_step_142 : decode cX6_step 142 = .ok (.getfield 69, 3) := by decide +kernel
theorem dX6_step_145 : decode cX6_step 145 = .ok (.invokevirtual 72, 3) := by decide +kernel
theorem dX6_step_148 : decode cX6_step 148 = .ok (.i2l, 1) := by decide +kernel
theorem dX6_step_149 : decode cX6_step 149 = .ok (.ldc2_w 83, 3) := by decide +kernel
theorem dX6_step_152 : decode cX6_step 152 = .ok (.ldc2_w 85, 3) := by decide +kernel
theorem dX6_step_155 : decode cX6_step 155 = .ok (.invokestatic 50, 3) := by decide +kernel
theorem dX6_step_158 : decode cX6_step 158 = .ok (.ifCond .eq 59, 3) := by decide +kernel
theorem dX6_step_161 : decode cX6_step 161 = .ok (.aload_n 0, 1) := by decide +kernel
theorem dX6_step_162 : decode cX6_step 162 = .ok (.aload_n 0, 1) := by decide +kernel
theorem dX6_step_163 : decode cX6_step 163 = .ok (.getfield 69, 3) := by decide +kernel
theorem dX6_step_166 : decode cX6_step 166 = .ok (.aload_n 0, 1) := by decide +kernel
theorem dX6_step_167 : decode cX6_step 167 = .ok (.getfield 60, 3) := by decide +kernel
theorem dX6_step_170 : decode cX6_step 170 = .ok (.isub, 1) := by decide +kernel
theorem dX6_step_171 : decode cX6_step 171 = .ok (.iconst 2, 1) := by decide +kernel
theorem dX6_step_172 : decode cX6_step 172 = .ok (.if_icmp .ge 25, 3) := by decide +kernel
theorem dX6_step_175 : decode cX6_step 175 = .ok (.bipush 10, 2) := by decide +kernel
theorem dX6_step_177 : decode cX6_step 177 = .ok (.aload_n 0, 1) := by decide +kernel
theorem dX6_step_178 : decode cX6_step 178 = .ok (.getfield 76, 3) := by decide +kernel
theorem dX6_step_181 : decode cX6_step 181 = .ok (.imul, 1) := by decide +kernel
theorem dX6_step_182 : decode cX6_step 182 = .ok (.aload_n 0, 1) := by decide +kernel
theorem dX6_step_183 : decode cX6_step 183 = .ok (.aload_n 0, 1) := by decide +kernel
theorem dX6_step_184 : decode cX6_step 184 = .ok (.getfield 69, 3) := by decide +kernel
theorem dX6_step_187 : decode cX6_step 187 = .ok (.invokevirtual 72, 3) := by decide +kernel
theorem dX6_step_190 : decode cX6_step 190 = .ok (.iadd, 1) := by decide +kernel
theorem dX6_step_191 : decode cX6_step 191 = .ok (.bipush 48, 2) := by decide +kernel
theorem dX6_step_193 : decode cX6_step 193 = .ok (.isub, 1) := by decide +kernel
theorem dX6_step_194 : decode cX6_step 194 = .ok (.goto 7, 3) := by decide +kernel
theorem dX6_step_197 : decode cX6_step 197 = .ok (.aload_n 0, 1) := by decide +kernel
theorem dX6_step_198 : decode cX6_step 198 = .ok (.getfield 76, 3) := by decide +kernel
theorem dX6_step_201 : decode cX6_step 201 = .ok (.putfield 76, 3) := by decide +kernel
theorem dX6_step_204 : decode cX6_step 204 = .ok (.aload_n 0, 1) := by decide +kernel
theorem dX6_step_205 : decode cX6_step 205 = .ok (.dup, 1) := by decide +kernel
theorem dX6_step_206 : decode cX6_step 206 = .ok (.getfield 69, 3) := by decide +kernel
theorem dX6_step_209 : decode cX6_step 209 = .ok (.iconst 1, 1) := by decide +kernel
theorem dX6_step_210 : decode cX6_step 210 = .ok (.iadd, 1) := by decide +kernel
theorem dX6_step_211 : decode cX6_step 211 = .ok (.putfield 69, 3) := by decide +kernel
theorem dX6_step_214 : decode cX6_step 214 = .ok (.goto (-74), 3) := by decide +kernel
theorem dX6_step_217 : decode cX6_step 217 = .ok (.aload_n 0, 1) := by decide +kernel
theorem dX6_step_218 : decode cX6_step 218 = .ok (.iconst 2, 1) := by decide +kernel
theorem dX6_step_219 : decode cX6_step 219 = .ok (.putfield 66, 3) := by decide +kernel
theorem dX6_step_222 : decode cX6_step 222 = .ok (.aload_n 0, 1) := by decide +kernel
theorem dX6_step_223 : decode cX6_step 223 = .ok (.getfield 69, 3) := by decide +kernel
theorem dX6_step_226 : decode cX6_step 226 = .ok (.aload_n 0, 1) := by decide +kernel
theorem dX6_step_227 : decode cX6_step 227 = .ok (.getfield 60, 3) := by decide +kernel
theorem dX6_step_230 : decode cX6_step 230 = .ok (.isub, 1) := by decide +kernel
theorem dX6_step_231 : decode cX6_step 231 = .ok (.iconst 2, 1) := by decide +kernel
theorem dX6_step_232 : decode cX6_step 232 = .ok (.if_icmp .le 37, 3) := by decide +kernel
theorem dX6_step_235 : decode cX6_step 235 = .ok (.aload_n 0, 1) := by decide +kernel
theorem dX6_step_236 : decode cX6_step 236 = .ok (.iconst 1, 1) := by decide +kernel
theorem dX6_step_237 : decode cX6_step 237 = .ok (.invokevirtual 87, 3) := by decide +kernel
theorem dX6_step_240 : decode cX6_step 240 = .ok (.goto 29, 3) := by decide +kernel
theorem dX6_step_243 : decode cX6_step 243 = .ok (.aload_n 0, 1) := by decide +kernel
theorem dX6_step_244 : decode cX6_step 244 = .ok (.iconst 3, 1) := by decide +kernel
theorem dX6_step_245 : decode cX6_step 245 = .ok (.putfield 66, 3) := by decide +kernel
theorem dX6_step_248 : decode cX6_step 248 = .ok (.aload_n 0, 1) := by decide +kernel
theorem dX6_step_249 : decode cX6_step 249 = .ok (.dup, 1) := by decide +kernel
theorem dX6_step_250 : decode cX6_step 250 = .ok (.getfield 69, 3) := by decide +kernel
theorem dX6_step_253 : decode cX6_step 253 = .ok (.iconst 1, 1) := by decide +kernel
theorem dX6_step_254 : decode cX6_step 254 = .ok (.iadd, 1) := by decide +kernel
theorem dX6_step_255 : decode cX6_step 255 = .ok (.putfield 69, 3) := by decide +kernel
theorem dX6_step_258 : decode cX6_step 258 = .ok (.iload_n 1, 1) := by decide +kernel
theorem dX6_step_259 : decode cX6_step 259 = .ok (.bipush 59, 2) := by decide +kernel
theorem dX6_step_261 : decode cX6_step 261 = .ok (.if_icmp .eq 8, 3) := by decide +kernel
theorem dX6_step_264 : decode cX6_step 264 = .ok (.aload_n 0, 1) := by decide +kernel
theorem dX6_step_265 : decode cX6_step 265 = .ok (.iconst 1, 1) := by decide +kernel
theorem dX6_step_266 : decode cX6_step 266 = .ok (.invokevirtual 87, 3) := by decide +kernel
theorem dX6_step_269 : decode cX6_step 269 = .ok (.return_, 1) := by decide +kernel
set_option maxRecDepth 20000 in
theorem ggX6_number_X6_fails : GoodIn wsX6_number wsX6_fails := goodIn_r _ [8, 1, 9, 10, 29, 30, 31, 32, 33, 34, 35, 36, 37, 38, 39, 40, 41, 42, 43, 44, 45, 46, 47, 48, 49, 50, 51, 52, 53, 54] (by decide +kernel) (by decide +kernel)
set_option maxRecDepth 20000 in
theorem gX6_number_X6_fails : GoodIn wsX6_number (wsV RX6 87 RX6 yX6_fails wsX6_fails) := goodIn_app (goodIn_of _ (by decide +kernel)) ggX6_number_X6_fails
set_option maxRecDepth 20000 in
theorem ggX6_number_X6_in : GoodIn wsX6_number wsX6_in := goodIn_r _ [13] (by decide +kernel) (by decide +kernel)
set_option maxRecDepth 20000 in
theorem gX6_number_X6_in : GoodIn wsX6_number (va_wsS RX6 50 yX6_in wsX6_in) := goodIn_app (goodIn_of _ (by decide +kernel)) ggX6_number_X6_in
set_option maxRecDepth 20000 in
theorem ggX6_number_X6_step : GoodIn wsX6_number wsX6_step := goodIn_r _ [17, 1, 18, 9, 3, 2, 19, 20, 21, 22, 23, 24, 25, 7, 26, 27, 28, 11, 12, 13, 4, 5, 6, 8, 10, 29, 30, 31, 32, 33, 34, 35, 36, 37, 38, 39, 40, 41, 42, 43, 44, 45, 46, 47, 48, 49, 50, 51, 52, 53, 54] (by decide +kernel) (by decide +kernel)
set_option maxRecDepth 20000 in
theorem gX6_number_X6_step : GoodIn wsX6_number (wsV RX6 91 RX6 yX6_step wsX6_step) := goodIn_app (goodIn_of _ (by decide +kernel)) ggX6_number_X6_step
theorem dX6_number_0 : decode cX6_number 0 = .ok (.aload_n 0, 1) := by decide +kernel
theorem dX6_number_1 : decode cX6_number 1 = .ok (.getfield 57, 3) := by decide +kernel
theorem dX6_number_4 : decode cX6_number 4 = .ok (.ifCond .ne 16, 3) := by decide +kernel
theorem dX6_number_7 : decode cX6_number 7 = .ok (.aload_n 0, 1) := by decide +kernel
theorem dX6_number_8 : decode cX6_number 8 = .ok (.getfield 66, 3) := by decide +kernel
theorem dX6_number_11 : decode cX6_number 11 = .ok (.iconst 2, 1) := by decide +kernel
theorem dX6_number_12 : decode cX6_number 12 = .ok (.if_icmp .eq 8, 3) := by decide +kernel
theorem dX6_number_15 : decode cX6_number 15 = .ok (.aload_n 0, 1) := by decide +kernel
theorem dX6_number_16 : decode cX6_number 16 = .ok (.iconst 2, 1) := by decide +kernel
theorem dX6_number_17 : decode cX6_number 17 = .ok (.invokevirtual 87, 3) := by decide +kernel
theorem dX6_number_20 : decode cX6_number 20 = .ok (.aload_n 0, 1) := by decide +kernel
theorem dX6_number_21 : decode cX6_number 21 = .ok (.getfield 57, 3) := by decide +kernel
theorem dX6_number_24 : decode cX6_number 24 = .ok (.ifCond .ne 23, 3) := by decide +kernel
theorem dX6_number_27 : decode cX6_number 27 = .ok (.aload_n 0, 1) := by decide +kernel
theorem dX6_number_28 : decode cX6_number 28 = .ok (.getfield 76, 3) := by decide +kernel
theorem dX6_number_31 : decode cX6_number 31 = .ok (.i2l, 1) := by decide +kernel
theorem dX6_number_32 : decode cX6_number 32 = .ok (.iload_n 1, 1) := by decide +kernel
theorem dX6_number_33 : decode cX6_number 33 = .ok (.i2l, 1) := by decide +kernel
theorem dX6_number_34 : decode cX6_number 34 = .ok (.iload_n 2, 1) := by decide +kernel
theorem dX6_number_35 : decode cX6_number 35 = .ok (.i2l, 1) := by decide +kernel
theorem dX6_number_36 : decode cX6_number 36 = .ok (.invokestatic 50, 3) := by decide +kernel
theorem dX6_number_39 : decode cX6_number 39 = .ok (.ifCond .ne 8, 3) := by decide +kernel
theorem dX6_number_42 : decode cX6_number 42 = .ok (.aload_n 0, 1) := by decide +kernel
theorem dX6_number_43 : decode cX6_number 43 = .ok (.iconst 3, 1) := by decide +kernel
theorem dX6_number_44 : decode cX6_number 44 = .ok (.invokevirtual 87, 3) := by decide +kernel
theorem dX6_number_47 : decode cX6_number 47 = .ok (.aload_n 0, 1) := by decide +kernel
theorem dX6_number_48 : decode cX6_number 48 = .ok (.getfield 57, 3) := by decide +kernel
theorem dX6_number_51 : decode cX6_number 51 = .ok (.ifCond .ne 10, 3) := by decide +kernel
theorem dX6_number_54 : decode cX6_number 54 = .ok (.aload_n 0, 1) := by decide +kernel
theorem dX6_number_55 : decode cX6_number 55 = .ok (.getfield 76, 3) := by decide +kernel
theorem dX6_number_58 : decode cX6_number 58 = .ok (.goto 4, 3) := by decide +kernel
theorem dX6_number_61 : decode cX6_number 61 = .ok (.iload_n 1, 1) := by decide +kernel
theorem dX6_number_62 : decode cX6_number 62 = .ok (.istore_n 3, 1) := by decide +kernel
theorem dX6_number_63 : decode cX6_number 63 = .ok (.aload_n 0, 1) := by decide +kernel
theorem dX6_number_64 : decode cX6_number 64 = .ok (.invokevirtual 91, 3) := by decide +kernel
theorem dX6_number_67 : decode cX6_number 67 = .ok (.iload_n 3, 1) := by decide +kernel
theorem dX6_number_68 : decode cX6_number 68 = .ok (.ireturn, 1) := by decide +kernel
set_option maxRecDepth 20000 in
theorem ggX6_readMore_X6_number : GoodIn wsX6_readMore wsX6_number := goodIn_r _ [6, 7, 8, 9, 10, 11, 12, 5, 13, 14, 15, 16, 17, 18, 19, 20, 21, 22, 23, 24, 25, 26, 27, 28, 29, 30, 31, 32, 33, 34, 35, 36, 37, 38, 39, 40, 41, 42, 43, 44, 45, 46, 47, 48, 49, 50, 51, 52, 53, 54, 55, 56, 57, 58, 59] (by decide +kernel) (by decide +kernel)
set_option maxRecDepth 20000 in
theorem gX6_readMore_X6_number : GoodIn wsX6_readMore (wsV RX6 94 RX6 yX6_number wsX6_number) := goodIn_app (goodIn_of _ (by decide +kernel)) ggX6_readMore_X6_number
theorem dX6_readMore_0 : decode cX6_readMore 0 = .ok (.iload_n 1, 1) := by decide +kernel
theorem dX6_readMore_1 : decode cX6_readMore 1 = .ok (.iconst 3, 1) := by decide +kernel
theorem dX6_readMore_2 : decode cX6_readMore 2 = .ok (.if_icmp .gt 79, 3) := by decide +kernel
theorem dX6_readMore_5 : decode cX6_readMore 5 = .ok (.aload_n 0, 1) := by decide +kernel
theorem dX6_readMore_6 : decode cX6_readMore 6 = .ok (.getfield 13, 3) := by decide +kernel
theorem dX6_readMore_9 : decode cX6_readMore 9 = .ok (.bipush 20, 2) := by decide +kernel
theorem dX6_readMore_11 : decode cX6_readMore 11 = .ok (.iaload, 1) := by decide +kernel
theorem dX6_readMore_12 : decode cX6_readMore 12 = .ok (.istore_n 2, 1) := by decide +kernel
theorem dX6_readMore_13 : decode cX6_readMore 13 = .ok (.aload_n 0, 1) := by decide +kernel
theorem dX6_readMore_14 : decode cX6_readMore 14 = .ok (.getfield 13, 3) := by decide +kernel
theorem dX6_readMore_17 : decode cX6_readMore 17 = .ok (.iload_n 2, 1) := by decide +kernel
theorem dX6_readMore_18 : decode cX6_readMore 18 = .ok (.iload_n 1, 1) := by decide +kernel
theorem dX6_readMore_19 : decode cX6_readMore 19 = .ok (.iastore, 1) := by decide +kernel
theorem dX6_readMore_20 : decode cX6_readMore 20 = .ok (.aload_n 0, 1) := by decide +kernel
theorem dX6_readMore_21 : decode cX6_readMore 21 = .ok (.getfield 13, 3) := by decide +kernel
theorem dX6_readMore_24 : decode cX6_readMore 24 = .ok (.iconst 5, 1) := by decide +kernel
theorem dX6_readMore_25 : decode cX6_readMore 25 = .ok (.iload_n 2, 1) := by decide +kernel
theorem dX6_readMore_26 : decode cX6_readMore 26 = .ok (.iadd, 1) := by decide +kernel
theorem dX6_readMore_27 : decode cX6_readMore 27 = .ok (.aload_n 0, 1) := by decide +kernel
theorem dX6_readMore_28 : decode cX6_readMore 28 = .ok (.iconst 1, 1) := by decide +kernel
theorem dX6_readMore_29 : decode cX6_readMore 29 = .ok (.bipush 20, 2) := by decide +kernel
theorem dX6_readMore_31 : decode cX6_readMore 31 = .ok (.invokevirtual 94, 3) := by decide +kernel
theorem dX6_readMore_34 : decode cX6_readMore 34 = .ok (.iastore, 1) := by decide +kernel
theorem dX6_readMore_35 : decode cX6_readMore 35 = .ok (.aload_n 0, 1) := by decide +kernel
theorem dX6_readMore_36 : decode cX6_readMore 36 = .ok (.getfield 13, 3) := by decide +kernel
theorem dX6_readMore_39 : decode cX6_readMore 39 = .ok (.bipush 10, 2) := by decide +kernel
theorem dX6_readMore_41 : decode cX6_readMore 41 = .ok (.iload_n 2, 1) := by decide +kernel
theorem dX6_readMore_42 : decode cX6_readMore 42 = .ok (.iadd, 1) := by decide +kernel
theorem dX6_readMore_43 : decode cX6_readMore 43 = .ok (.aload_n 0, 1) := by decide +kernel
theorem dX6_readMore_44 : decode cX6_readMore 44 = .ok (.iconst 0, 1) := by decide +kernel
theorem dX6_readMore_45 : decode cX6_readMore 45 = .ok (.bipush 99, 2) := by decide +kernel
theorem dX6_readMore_47 : decode cX6_readMore 47 = .ok (.invokevirtual 94, 3) := by decide +kernel
theorem dX6_readMore_50 : decode cX6_readMore 50 = .ok (.iastore, 1) := by decide +kernel
theorem dX6_readMore_51 : decode cX6_readMore 51 = .ok (.aload_n 0, 1) := by decide +kernel
theorem dX6_readMore_52 : decode cX6_readMore 52 = .ok (.getfield 13, 3) := by decide +kernel
theorem dX6_readMore_55 : decode cX6_readMore 55 = .ok (.bipush 15, 2) := by decide +kernel
theorem dX6_readMore_57 : decode cX6_readMore 57 = .ok (.iload_n 2, 1) := by decide +kernel
theorem dX6_readMore_58 : decode cX6_readMore 58 = .ok (.iadd, 1) := by decide +kernel
theorem dX6_readMore_59 : decode cX6_readMore 59 = .ok (.aload_n 0, 1) := by decide +kernel
theorem dX6_readMore_60 : decode cX6_readMore 60 = .ok (.iconst 0, 1) := by decide +kernel
theorem dX6_readMore_61 : decode cX6_readMore 61 = .ok (.bipush 60, 2) := by decide +kernel
theorem dX6_readMore_63 : decode cX6_readMore 63 = .ok (.invokevirtual 94, 3) := by decide +kernel
theorem dX6_readMore_66 : decode cX6_readMore 66 = .ok (.iastore, 1) := by decide +kernel
theorem dX6_readMore_67 : decode cX6_readMore 67 = .ok (.aload_n 0, 1) := by decide +kernel
theorem dX6_readMore_68 : decode cX6_readMore 68 = .ok (.getfield 13, 3) := by decide +kernel
theorem dX6_readMore_71 : decode cX6_readMore 71 = .ok (.bipush 20, 2) := by decide +kernel
theorem dX6_readMore_73 : decode cX6_readMore 73 = .ok (.dup2, 1) := by decide +kernel
theorem dX6_readMore_74 : decode cX6_readMore 74 = .ok (.iaload, 1) := by decide +kernel
theorem dX6_readMore_75 : decode cX6_readMore 75 = .ok (.iconst 1, 1) := by decide +kernel
theorem dX6_readMore_76 : decode cX6_readMore 76 = .ok (.iadd, 1) := by decide +kernel
theorem dX6_readMore_77 : decode cX6_readMore 77 = .ok (.iastore, 1) := by decide +kernel
theorem dX6_readMore_78 : decode cX6_readMore 78 = .ok (.goto 83, 3) := by decide +kernel
theorem dX6_readMore_81 : decode cX6_readMore 81 = .ok (.iload_n 1, 1) := by decide +kernel
theorem dX6_readMore_82 : decode cX6_readMore 82 = .ok (.iconst 4, 1) := by decide +kernel
theorem dX6_readMore_83 : decode cX6_readMore 83 = .ok (.if_icmp .ne 37, 3) := by decide +kernel
theorem dX6_readMore_86 : decode cX6_readMore 86 = .ok (.aload_n 0, 1) := by decide +kernel
theorem dX6_readMore_87 : decode cX6_readMore 87 = .ok (.getfield 13, 3) := by decide +kernel
theorem dX6_readMore_90 : decode cX6_readMore 90 = .ok (.bipush 21, 2) := by decide +kernel
theorem dX6_readMore_92 : decode cX6_readMore 92 = .ok (.aload_n 0, 1) := by decide +kernel
theorem dX6_readMore_93 : decode cX6_readMore 93 = .ok (.iconst 0, 1) := by decide +kernel
theorem dX6_readMore_94 : decode cX6_readMore 94 = .ok (.bipush 99, 2) := by decide +kernel
theorem dX6_readMore_96 : decode cX6_readMore 96 = .ok (.invokevirtual 94, 3) := by decide +kernel
theorem dX6_readMore_99 : decode cX6_readMore 99 = .ok (.bipush 44, 2) := by decide +kernel
theorem dX6_readMore_101 : decode cX6_readMore 101 = .ok (.isub, 1) := by decide +kernel
theorem dX6_readMore_102 : decode cX6_readMore 102 = .ok (.iastore, 1) := by decide +kernel
theorem dX6_readMore_103 : decode cX6_readMore 103 = .ok (.aload_n 0, 1) := by decide +kernel
theorem dX6_readMore_104 : decode cX6_readMore 104 = .ok (.getfield 13, 3) := by decide +kernel
theorem dX6_readMore_107 : decode cX6_readMore 107 = .ok (.bipush 22, 2) := by decide +kernel
theorem dX6_readMore_109 : decode cX6_readMore 109 = .ok (.aload_n 0, 1) := by decide +kernel
theorem dX6_readMore_110 : decode cX6_readMore 110 = .ok (.getfield 13, 3) := by decide +kernel
theorem dX6_readMore_113 : decode cX6_readMore 113 = .ok (.bipush 21, 2) := by decide +kernel
theorem dX6_readMore_115 : decode cX6_readMore 115 = .ok (.iaload, 1) := by decide +kernel
theorem dX6_readMore_116 : decode cX6_readMore 116 = .ok (.iastore, 1) := by decide +kernel
theorem dX6_readMore_117 : decode cX6_readMore 117 = .ok (.goto 44, 3) := by decide +kernel
theorem dX6_readMore_120 : decode cX6_readMore 120 = .ok (.iload_n 1, 1) := by decide +kernel
theorem dX6_readMore_121 : decode cX6_readMore 121 = .ok (.iconst 5, 1) := by decide +kernel
theorem dX6_readMore_122 : decode cX6_readMore 122 = .ok (.if_icmp .ne 22, 3) := by decide +kernel
theorem dX6_readMore_125 : decode cX6_readMore 125 = .ok (.aload_n 0, 1) := by decide +kernel
theorem dX6_readMore_126 : decode cX6_readMore 126 = .ok (.getfield 13, 3) := by decide +kernel
theorem dX6_readMore_129 : decode cX6_readMore 129 = .ok (.bipush 23, 2) := by decide +kernel
theorem dX6_readMore_131 : decode cX6_readMore 131 = .ok (.aload_n 0, 1) := by decide +kernel
theorem dX6_readMore_132 : decode cX6_readMore 132 = .ok (.iconst 0, 1) := by decide +kernel
theorem dX6_readMore_133 : decode cX6_readMore 133 = .ok (.bipush 20, 2) := by decide +kernel
theorem dX6_readMore_135 : decode cX6_readMore 135 = .ok (.invokevirtual 94, 3) := by decide +kernel
theorem dX6_readMore_138 : decode cX6_readMore 138 = .ok (.iconst 2, 1) := by decide +kernel
theorem dX6_readMore_139 : decode cX6_readMore 139 = .ok (.isub, 1) := by decide +kernel
theorem dX6_readMore_140 : decode cX6_readMore 140 = .ok (.iastore, 1) := by decide +kernel
theorem dX6_readMore_141 : decode cX6_readMore 141 = .ok (.goto 20, 3) := by decide +kernel
theorem dX6_readMore_144 : decode cX6_readMore 144 = .ok (.aload_n 0, 1) := by decide +kernel
theorem dX6_readMore_145 : decode cX6_readMore 145 = .ok (.getfield 13, 3) := by decide +kernel
theorem dX6_readMore_148 : decode cX6_readMore 148 = .ok (.bipush 24, 2) := by decide +kernel
theorem dX6_readMore_150 : decode cX6_readMore 150 = .ok (.aload_n 0, 1) := by decide +kernel
theorem dX6_readMore_151 : decode cX6_readMore 151 = .ok (.iconst 0, 1) := by decide +kernel
theorem dX6_readMore_152 : decode cX6_readMore 152 = .ok (.bipush 18, 2) := by decide +kernel
theorem dX6_readMore_154 : decode cX6_readMore 154 = .ok (.invokevirtual 94, 3) := by decide +kernel
theorem dX6_readMore_157 : decode cX6_readMore 157 = .ok (.bipush 9, 2) := by decide +kernel
theorem dX6_readMore_159 : decode cX6_readMore 159 = .ok (.isub, 1) := by decide +kernel
theorem dX6_readMore_160 : decode cX6_readMore 160 = .ok (.iastore, 1) := by decide +kernel
theorem dX6_readMore_161 : decode cX6_readMore 161 = .ok (.return_, 1) := by decide +kernel
set_option maxRecDepth 20000 in
theorem ggX6_readLine_X6_nameHere : GoodIn wsX6_readLine wsX6_nameHere := goodIn_r _ [10, 5, 11, 12, 13, 14, 15, 16, 17, 9, 18, 19, 20, 46, 47, 48, 49, 50, 51, 52, 53, 54, 55, 56, 57, 58, 59, 60, 61, 62, 63, 64, 65, 66, 67, 68, 69, 70, 71] (by decide +kernel) (by decide +kernel)
set_option maxRecDepth 20000 in
theorem gX6_readLine_X6_nameHere : GoodIn wsX6_readLine (wsV RX6 98 RX6 yX6_nameHere wsX6_nameHere) := goodIn_app (goodIn_of _ (by decide +kernel)) ggX6_readLine_X6_nameHere
set_option maxRecDepth 20000 in
theorem ggX6_readLine_X6_in : GoodIn wsX6_readLine wsX6_in := goodIn_r _ [23] (by decide +kernel) (by decide +kernel)
set_option maxRecDepth 20000 in
theorem gX6_readLine_X6_in : GoodIn wsX6_readLine (va_wsS RX6 50 yX6_in wsX6_in) := goodIn_app (goodIn_of _ (by decide +kernel)) ggX6_readLine_X6_in
set_option maxRecDepth 20000 in
theorem ggX6_readLine_X6_fails : GoodIn wsX6_readLine wsX6_fails := goodIn_r _ [27, 4, 12, 28, 46, 47, 48, 49, 50, 51, 52, 53, 54, 55, 56, 57, 58, 59, 60, 61, 62, 63, 64, 65, 66, 67, 68, 69, 70, 71] (by decide +kernel) (by decide +kernel)
set_option maxRecDepth 20000 in
theorem gX6_readLine_X6_fails : GoodIn wsX6_readLine (wsV RX6 87 RX6 yX6_fails wsX6_fails) := goodIn_app (goodIn_of _ (by decide +kernel)) ggX6_readLine_X6_fails
set_option maxRecDepth 20000 in
theorem ggX6_readLine_X6_step : GoodIn wsX6_readLine wsX6_step := goodIn_r _ [32, 4, 11, 12, 33, 5, 34, 35, 36, 37, 15, 16, 17, 9, 18, 19, 20, 21, 22, 23, 24, 25, 26, 27, 28, 46, 47, 48, 49, 50, 51, 52, 53, 54, 55, 56, 57, 58, 59, 60, 61, 62, 63, 64, 65, 66, 67, 68, 69, 70, 71] (by decide +kernel) (by decide +kernel)
set_option maxRecDepth 20000 in
theorem gX6_readLine_X6_step : GoodIn wsX6_readLine (wsV RX6 91 RX6 yX6_step wsX6_step) := goodIn_app (goodIn_of _ (by decide +kernel)) ggX6_readLine_X6_step
set_option maxRecDepth 20000 in
theorem ggX6_readLine_X6_readMore : GoodIn wsX6_readLine wsX6_readMore := goodIn_r _ [41, 2, 42, 43, 44, 9, 45, 4, 5, 33, 24, 25, 26, 27, 12, 28, 21, 22, 23, 29, 30, 31, 32, 11, 34, 35, 36, 37, 15, 16, 17, 18, 19, 20, 46, 47, 48, 49, 50, 51, 52, 53, 54, 55, 56, 57, 58, 59, 60, 61, 62, 63, 64, 65, 66, 67, 68, 69, 70, 71] (by decide +kernel) (by decide +kernel)
set_option maxRecDepth 20000 in
theorem gX6_readLine_X6_readMore : GoodIn wsX6_readLine (wsV RX6 107 RX6 yX6_readMore wsX6_readMore) := goodIn_app (goodIn_of _ (by decide +kernel)) ggX6_readLine_X6_readMore
theorem dX6_readLine_0 : decode cX6_readLine 0 = .ok (.aload_n 0, 1) := by decide +kernel
theorem dX6_readLine_1 : decode cX6_readLine 1 = .ok (.invokevirtual 98, 3) := by decide +kernel
theorem dX6_readLine_4 : decode cX6_readLine 4 = .ok (.istore_n 1, 1) := by decide +kernel
theorem dX6_readLine_5 : decode cX6_readLine 5 = .ok (.iload_n 1, 1) := by decide +kernel
theorem dX6_readLine_6 : decode cX6_readLine 6 = .ok (.i2l, 1) := by decide +kernel
theorem dX6_readLine_7 : decode cX6_readLine 7 = .ok (.lconst 0, 1) := by decide +kernel
theorem dX6_readLine_8 : decode cX6_readLine 8 = .ok (.ldc2_w 102, 3) := by decide +kernel
theorem dX6_readLine_11 : decode cX6_readLine 11 = .ok (.invokestatic 50, 3) := by decide +kernel
theorem dX6_readLine_14 : decode cX6_readLine 14 = .ok (.ifCond .ne 9, 3) := by decide +kernel
theorem dX6_readLine_17 : decode cX6_readLine 17 = .ok (.aload_n 0, 1) := by decide +kernel
theorem dX6_readLine_18 : decode cX6_readLine 18 = .ok (.iconst 2, 1) := by decide +kernel
theorem dX6_readLine_19 : decode cX6_readLine 19 = .ok (.invokevirtual 87, 3) := by decide +kernel
theorem dX6_readLine_22 : decode cX6_readLine 22 = .ok (.return_, 1) := by decide +kernel
theorem dX6_readLine_23 : decode cX6_readLine 23 = .ok (.iload_n 1, 1) := by decide +kernel
theorem dX6_readLine_24 : decode cX6_readLine 24 = .ok (.iconst 3, 1) := by decide +kernel
theorem dX6_readLine_25 : decode cX6_readLine 25 = .ok (.if_icmp .gt 19, 3) := by decide +kernel
theorem dX6_readLine_28 : decode cX6_readLine 28 = .ok (.aload_n 0, 1) := by decide +kernel
theorem dX6_readLine_29 : decode cX6_readLine 29 = .ok (.getfield 13, 3) := by decide +kernel
theorem dX6_readLine_32 : decode cX6_readLine 32 = .ok (.bipush 20, 2) := by decide +kernel
theorem dX6_readLine_34 : decode cX6_readLine 34 = .ok (.iaload, 1) := by decide +kernel
theorem dX6_readLine_35 : decode cX6_readLine 35 = .ok (.iconst 5, 1) := by decide +kernel
theorem dX6_readLine_36 : decode cX6_readLine 36 = .ok (.if_icmp .ne 8, 3) := by decide +kernel
theorem dX6_readLine_39 : decode cX6_readLine 39 = .ok (.aload_n 0, 1) := by decide +kernel
theorem dX6_readLine_40 : decode cX6_readLine 40 = .ok (.iconst 5, 1) := by decide +kernel
theorem dX6_readLine_41 : decode cX6_readLine 41 = .ok (.invokevirtual 87, 3) := by decide +kernel
theorem dX6_readLine_44 : decode cX6_readLine 44 = .ok (.iload_n 1, 1) := by decide +kernel
theorem dX6_readLine_45 : decode cX6_readLine 45 = .ok (.iconst 4, 1) := by decide +kernel
theorem dX6_readLine_46 : decode cX6_readLine 46 = .ok (.if_icmp .lt 20, 3) := by decide +kernel
theorem dX6_readLine_49 : decode cX6_readLine 49 = .ok (.aload_n 0, 1) := by decide +kernel
theorem dX6_readLine_50 : decode cX6_readLine 50 = .ok (.getfield 104, 3) := by decide +kernel
theorem dX6_readLine_53 : decode cX6_readLine 53 = .ok (.iload_n 1, 1) := by decide +kernel
theorem dX6_readLine_54 : decode cX6_readLine 54 = .ok (.ishr, 1) := by decide +kernel
theorem dX6_readLine_55 : decode cX6_readLine 55 = .ok (.iconst 1, 1) := by decide +kernel
theorem dX6_readLine_56 : decode cX6_readLine 56 = .ok (.iand, 1) := by decide +kernel
theorem dX6_readLine_57 : decode cX6_readLine 57 = .ok (.iconst 1, 1) := by decide +kernel
theorem dX6_readLine_58 : decode cX6_readLine 58 = .ok (.if_icmp .ne 8, 3) := by decide +kernel
theorem dX6_readLine_61 : decode cX6_readLine 61 = .ok (.aload_n 0, 1) := by decide +kernel
theorem dX6_readLine_62 : decode cX6_readLine 62 = .ok (.iconst 4, 1) := by decide +kernel
theorem dX6_readLine_63 : decode cX6_readLine 63 = .ok (.invokevirtual 87, 3) := by decide +kernel
theorem dX6_readLine_66 : decode cX6_readLine 66 = .ok (.aload_n 0, 1) := by decide +kernel
theorem dX6_readLine_67 : decode cX6_readLine 67 = .ok (.dup, 1) := by decide +kernel
theorem dX6_readLine_68 : decode cX6_readLine 68 = .ok (.getfield 104, 3) := by decide +kernel
theorem dX6_readLine_71 : decode cX6_readLine 71 = .ok (.iconst 1, 1) := by decide +kernel
theorem dX6_readLine_72 : decode cX6_readLine 72 = .ok (.iload_n 1, 1) := by decide +kernel
theorem dX6_readLine_73 : decode cX6_readLine 73 = .ok (.ishl, 1) := by decide +kernel
theorem dX6_readLine_74 : decode cX6_readLine 74 = .ok (.ior, 1) := by decide +kernel
theorem dX6_readLine_75 : decode cX6_readLine 75 = .ok (.putfield 104, 3) := by decide +kernel
theorem dX6_readLine_78 : decode cX6_readLine 78 = .ok (.aload_n 0, 1) := by decide +kernel
theorem dX6_readLine_79 : decode cX6_readLine 79 = .ok (.invokevirtual 91, 3) := by decide +kernel
theorem dX6_readLine_82 : decode cX6_readLine 82 = .ok (.aload_n 0, 1) := by decide +kernel
