theorem dX6_site_35 : decode cX6_site 35 = .ok (.ireturn, 1) := by decide +kernel
theorem dX6_site_36 : decode cX6_site 36 = .ok (.bipush 100, 2) := by decide +kernel
theorem dX6_site_38 : decode cX6_site 38 = .ok (.istore 5, 2) := by decide +kernel
theorem dX6_site_40 : decode cX6_site 40 = .ok (.bipush (-4), 2) := by decide +kernel
theorem dX6_site_42 : decode cX6_site 42 = .ok (.istore 6, 2) := by decide +kernel
theorem dX6_site_44 : decode cX6_site 44 = .ok (.iconst 0, 1) := by decide +kernel
theorem dX6_site_45 : decode cX6_site 45 = .ok (.istore 7, 2) := by decide +kernel
theorem dX6_site_47 : decode cX6_site 47 = .ok (.iload 7, 2) := by decide +kernel
theorem dX6_site_49 : decode cX6_site 49 = .ok (.bipush 100, 2) := by decide +kernel
theorem dX6_site_51 : decode cX6_site 51 = .ok (.if_icmp .ge 84, 3) := by decide +kernel
theorem dX6_site_54 : decode cX6_site 54 = .ok (.aload_n 0, 1) := by decide +kernel
theorem dX6_site_55 : decode cX6_site 55 = .ok (.iconst 0, 1) := by decide +kernel
theorem dX6_site_56 : decode cX6_site 56 = .ok (.sipush 130, 3) := by decide +kernel
theorem dX6_site_59 : decode cX6_site 59 = .ok (.invokevirtual 188, 3) := by decide +kernel
theorem dX6_site_62 : decode cX6_site 62 = .ok (.aload_n 0, 1) := by decide +kernel
theorem dX6_site_63 : decode cX6_site 63 = .ok (.sipush 130, 3) := by decide +kernel
theorem dX6_site_66 : decode cX6_site 66 = .ok (.iload_n 1, 1) := by decide +kernel
theorem dX6_site_67 : decode cX6_site 67 = .ok (.iload_n 2, 1) := by decide +kernel
theorem dX6_site_68 : decode cX6_site 68 = .ok (.iload 7, 2) := by decide +kernel
theorem dX6_site_70 : decode cX6_site 70 = .ok (.invokevirtual 179, 3) := by decide +kernel
theorem dX6_site_73 : decode cX6_site 73 = .ok (.aload_n 0, 1) := by decide +kernel
theorem dX6_site_74 : decode cX6_site 74 = .ok (.sipush 130, 3) := by decide +kernel
theorem dX6_site_77 : decode cX6_site 77 = .ok (.iload_n 3, 1) := by decide +kernel
theorem dX6_site_78 : decode cX6_site 78 = .ok (.invokevirtual 205, 3) := by decide +kernel
theorem dX6_site_81 : decode cX6_site 81 = .ok (.istore 8, 2) := by decide +kernel
theorem dX6_site_83 : decode cX6_site 83 = .ok (.iload 8, 2) := by decide +kernel
theorem dX6_site_85 : decode cX6_site 85 = .ok (.bipush (-4), 2) := by decide +kernel
theorem dX6_site_87 : decode cX6_site 87 = .ok (.if_icmp .eq 15, 3) := by decide +kernel
theorem dX6_site_90 : decode cX6_site 90 = .ok (.iload 8, 2) := by decide +kernel
theorem dX6_site_92 : decode cX6_site 92 = .ok (.iload 5, 2) := by decide +kernel
theorem dX6_site_94 : decode cX6_site 94 = .ok (.if_icmp .ge 8, 3) := by decide +kernel
theorem dX6_site_97 : decode cX6_site 97 = .ok (.iload 7, 2) := by decide +kernel
theorem dX6_site_99 : decode cX6_site 99 = .ok (.goto 5, 3) := by decide +kernel
theorem dX6_site_102 : decode cX6_site 102 = .ok (.iload 6, 2) := by decide +kernel
theorem dX6_site_104 : decode cX6_site 104 = .ok (.istore 6, 2) := by decide +kernel
theorem dX6_site_106 : decode cX6_site 106 = .ok (.iload 8, 2) := by decide +kernel
theorem dX6_site_108 : decode cX6_site 108 = .ok (.bipush (-4), 2) := by decide +kernel
theorem dX6_site_110 : decode cX6_site 110 = .ok (.if_icmp .eq 15, 3) := by decide +kernel
theorem dX6_site_113 : decode cX6_site 113 = .ok (.iload 8, 2) := by decide +kernel
theorem dX6_site_115 : decode cX6_site 115 = .ok (.iload 5, 2) := by decide +kernel
theorem dX6_site_117 : decode cX6_site 117 = .ok (.if_icmp .ge 8, 3) := by decide +kernel
theorem dX6_site_120 : decode cX6_site 120 = .ok (.iload 8, 2) := by decide +kernel
theorem dX6_site_122 : decode cX6_site 122 = .ok (.goto 5, 3) := by decide +kernel
theorem dX6_site_125 : decode cX6_site 125 = .ok (.iload 5, 2) := by decide +kernel
theorem dX6_site_127 : decode cX6_site 127 = .ok (.istore 5, 2) := by decide +kernel
theorem dX6_site_129 : decode cX6_site 129 = .ok (.iinc 7 1, 3) := by decide +kernel
theorem dX6_site_132 : decode cX6_site 132 = .ok (.goto (-85), 3) := by decide +kernel
theorem dX6_site_135 : decode cX6_site 135 = .ok (.iload 6, 2) := by decide +kernel
theorem dX6_site_137 : decode cX6_site 137 = .ok (.bipush (-4), 2) := by decide +kernel
theorem dX6_site_139 : decode cX6_site 139 = .ok (.if_icmp .eq 8, 3) := by decide +kernel
theorem dX6_site_142 : decode cX6_site 142 = .ok (.iload 4, 2) := by decide +kernel
theorem dX6_site_144 : decode cX6_site 144 = .ok (.ifCond .ne 8, 3) := by decide +kernel
theorem dX6_site_147 : decode cX6_site 147 = .ok (.iload 6, 2) := by decide +kernel
theorem dX6_site_149 : decode cX6_site 149 = .ok (.goto 5, 3) := by decide +kernel
theorem dX6_site_152 : decode cX6_site 152 = .ok (.iload 5, 2) := by decide +kernel
theorem dX6_site_154 : decode cX6_site 154 = .ok (.ireturn, 1) := by decide +kernel
set_option maxRecDepth 20000 in
theorem ggX6_hush_X6_in : GoodIn wsX6_hush wsX6_in := goodIn_r _ [7] (by decide +kernel) (by decide +kernel)
set_option maxRecDepth 20000 in
theorem gX6_hush_X6_in : GoodIn wsX6_hush (va_wsS RX6 50 yX6_in wsX6_in) := goodIn_app (goodIn_of _ (by decide +kernel)) ggX6_hush_X6_in
set_option maxRecDepth 20000 in
theorem ggX6_hush_X6_yearsGo : GoodIn wsX6_hush wsX6_yearsGo := goodIn_r _ [11, 1, 12, 13, 14, 15, 16, 6, 17, 2, 18, 19, 20, 21, 22, 23, 24, 25, 26, 27, 28, 29, 30, 31, 32, 33, 34, 35, 36, 37, 38, 39, 40, 41, 42, 43, 44, 45, 46, 47, 3, 48, 49, 50, 51, 52, 53, 54, 55, 56, 57, 58, 59, 60, 61, 62, 63, 64, 65, 66, 67, 68, 69, 70, 71, 72, 73, 74, 75, 76, 77, 78, 79, 80, 81, 82, 83, 84, 85] (by decide +kernel) (by decide +kernel)
set_option maxRecDepth 20000 in
theorem gX6_hush_X6_yearsGo : GoodIn wsX6_hush (wsV RX6 202 RX6 yX6_yearsGo wsX6_yearsGo) := goodIn_app (goodIn_of _ (by decide +kernel)) ggX6_hush_X6_yearsGo
theorem dX6_hush_0 : decode cX6_hush 0 = .ok (.iload_n 1, 1) := by decide +kernel
theorem dX6_hush_1 : decode cX6_hush 1 = .ok (.i2l, 1) := by decide +kernel
theorem dX6_hush_2 : decode cX6_hush 2 = .ok (.lconst 0, 1) := by decide +kernel
theorem dX6_hush_3 : decode cX6_hush 3 = .ok (.lconst 1, 1) := by decide +kernel
theorem dX6_hush_4 : decode cX6_hush 4 = .ok (.invokestatic 50, 3) := by decide +kernel
theorem dX6_hush_7 : decode cX6_hush 7 = .ok (.ifCond .ne 5, 3) := by decide +kernel
theorem dX6_hush_10 : decode cX6_hush 10 = .ok (.iconst (-1), 1) := by decide +kernel
theorem dX6_hush_11 : decode cX6_hush 11 = .ok (.ireturn, 1) := by decide +kernel
theorem dX6_hush_12 : decode cX6_hush 12 = .ok (.aload_n 0, 1) := by decide +kernel
theorem dX6_hush_13 : decode cX6_hush 13 = .ok (.iconst 0, 1) := by decide +kernel
theorem dX6_hush_14 : decode cX6_hush 14 = .ok (.bipush 60, 2) := by decide +kernel
theorem dX6_hush_16 : decode cX6_hush 16 = .ok (.invokevirtual 202, 3) := by decide +kernel
theorem dX6_hush_19 : decode cX6_hush 19 = .ok (.aload_n 0, 1) := by decide +kernel
theorem dX6_hush_20 : decode cX6_hush 20 = .ok (.getfield 191, 3) := by decide +kernel
theorem dX6_hush_23 : decode cX6_hush 23 = .ok (.istore_n 2, 1) := by decide +kernel
theorem dX6_hush_24 : decode cX6_hush 24 = .ok (.bipush (-4), 2) := by decide +kernel
theorem dX6_hush_26 : decode cX6_hush 26 = .ok (.istore_n 3, 1) := by decide +kernel
theorem dX6_hush_27 : decode cX6_hush 27 = .ok (.iconst 0, 1) := by decide +kernel
theorem dX6_hush_28 : decode cX6_hush 28 = .ok (.istore 4, 2) := by decide +kernel
theorem dX6_hush_30 : decode cX6_hush 30 = .ok (.iload 4, 2) := by decide +kernel
theorem dX6_hush_32 : decode cX6_hush 32 = .ok (.aload_n 0, 1) := by decide +kernel
theorem dX6_hush_33 : decode cX6_hush 33 = .ok (.getfield 7, 3) := by decide +kernel
theorem dX6_hush_36 : decode cX6_hush 36 = .ok (.bipush 20, 2) := by decide +kernel
theorem dX6_hush_38 : decode cX6_hush 38 = .ok (.iaload, 1) := by decide +kernel
theorem dX6_hush_39 : decode cX6_hush 39 = .ok (.if_icmp .ge 60, 3) := by decide +kernel
theorem dX6_hush_42 : decode cX6_hush 42 = .ok (.aload_n 0, 1) := by decide +kernel
theorem dX6_hush_43 : decode cX6_hush 43 = .ok (.iload 4, 2) := by decide +kernel
theorem dX6_hush_45 : decode cX6_hush 45 = .ok (.putfield 25, 3) := by decide +kernel
theorem dX6_hush_48 : decode cX6_hush 48 = .ok (.aload_n 0, 1) := by decide +kernel
theorem dX6_hush_49 : decode cX6_hush 49 = .ok (.iconst 0, 1) := by decide +kernel
theorem dX6_hush_50 : decode cX6_hush 50 = .ok (.bipush 60, 2) := by decide +kernel
theorem dX6_hush_52 : decode cX6_hush 52 = .ok (.invokevirtual 202, 3) := by decide +kernel
theorem dX6_hush_55 : decode cX6_hush 55 = .ok (.aload_n 0, 1) := by decide +kernel
theorem dX6_hush_56 : decode cX6_hush 56 = .ok (.bipush (-4), 2) := by decide +kernel
theorem dX6_hush_58 : decode cX6_hush 58 = .ok (.putfield 25, 3) := by decide +kernel
theorem dX6_hush_61 : decode cX6_hush 61 = .ok (.aload_n 0, 1) := by decide +kernel
theorem dX6_hush_62 : decode cX6_hush 62 = .ok (.getfield 191, 3) := by decide +kernel
theorem dX6_hush_65 : decode cX6_hush 65 = .ok (.iload_n 2, 1) := by decide +kernel
theorem dX6_hush_66 : decode cX6_hush 66 = .ok (.if_icmp .ge 8, 3) := by decide +kernel
theorem dX6_hush_69 : decode cX6_hush 69 = .ok (.iload 4, 2) := by decide +kernel
theorem dX6_hush_71 : decode cX6_hush 71 = .ok (.goto 4, 3) := by decide +kernel
theorem dX6_hush_74 : decode cX6_hush 74 = .ok (.iload_n 3, 1) := by decide +kernel
theorem dX6_hush_75 : decode cX6_hush 75 = .ok (.istore_n 3, 1) := by decide +kernel
theorem dX6_hush_76 : decode cX6_hush 76 = .ok (.aload_n 0, 1) := by decide +kernel
theorem dX6_hush_77 : decode cX6_hush 77 = .ok (.getfield 191, 3) := by decide +kernel
theorem dX6_hush_80 : decode cX6_hush 80 = .ok (.iload_n 2, 1) := by decide +kernel
theorem dX6_hush_81 : decode cX6_hush 81 = .ok (.if_icmp .ge 10, 3) := by decide +kernel
theorem dX6_hush_84 : decode cX6_hush 84 = .ok (.aload_n 0, 1) := by decide +kernel
theorem dX6_hush_85 : decode cX6_hush 85 = .ok (.getfield 191, 3) := by decide +kernel
theorem dX6_hush_88 : decode cX6_hush 88 = .ok (.goto 4, 3) := by decide +kernel
theorem dX6_hush_91 : decode cX6_hush 91 = .ok (.iload_n 2, 1) := by decide +kernel
theorem dX6_hush_92 : decode cX6_hush 92 = .ok (.istore_n 2, 1) := by decide +kernel
theorem dX6_hush_93 : decode cX6_hush 93 = .ok (.iinc 4 1, 3) := by decide +kernel
theorem dX6_hush_96 : decode cX6_hush 96 = .ok (.goto (-66), 3) := by decide +kernel
theorem dX6_hush_99 : decode cX6_hush 99 = .ok (.iload_n 3, 1) := by decide +kernel
theorem dX6_hush_100 : decode cX6_hush 100 = .ok (.bipush (-4), 2) := by decide +kernel
theorem dX6_hush_102 : decode cX6_hush 102 = .ok (.if_icmp .eq 7, 3) := by decide +kernel
theorem dX6_hush_105 : decode cX6_hush 105 = .ok (.iload_n 1, 1) := by decide +kernel
theorem dX6_hush_106 : decode cX6_hush 106 = .ok (.ifCond .ne 7, 3) := by decide +kernel
theorem dX6_hush_109 : decode cX6_hush 109 = .ok (.iload_n 3, 1) := by decide +kernel
theorem dX6_hush_110 : decode cX6_hush 110 = .ok (.goto 4, 3) := by decide +kernel
theorem dX6_hush_113 : decode cX6_hush 113 = .ok (.iload_n 2, 1) := by decide +kernel
theorem dX6_hush_114 : decode cX6_hush 114 = .ok (.ireturn, 1) := by decide +kernel
set_option maxRecDepth 20000 in
theorem ggX6_swap_X6_in : GoodIn wsX6_swap wsX6_in := goodIn_r _ [6] (by decide +kernel) (by decide +kernel)
set_option maxRecDepth 20000 in
theorem gX6_swap_X6_in : GoodIn wsX6_swap (va_wsS RX6 50 yX6_in wsX6_in) := goodIn_app (goodIn_of _ (by decide +kernel)) ggX6_swap_X6_in
set_option maxRecDepth 20000 in
theorem ggX6_swap_X6_yearsGo : GoodIn wsX6_swap wsX6_yearsGo := goodIn_r _ [10, 1, 11, 12, 13, 14, 15, 5, 16, 2, 17, 18, 19, 20, 21, 22, 23, 24, 25, 26, 27, 28, 29, 30, 31, 32, 33, 34, 35, 36, 37, 38, 39, 40, 41, 42, 43, 44, 45, 46, 47, 48, 49, 50, 51, 52, 53, 54, 55, 56, 57, 58, 59, 60, 61, 62, 63, 64, 65, 66, 67, 68, 69, 70, 71, 72, 73, 74, 75, 76, 77, 78, 79, 80, 81, 82, 83, 84, 85] (by decide +kernel) (by decide +kernel)
set_option maxRecDepth 20000 in
theorem gX6_swap_X6_yearsGo : GoodIn wsX6_swap (wsV RX6 202 RX6 yX6_yearsGo wsX6_yearsGo) := goodIn_app (goodIn_of _ (by decide +kernel)) ggX6_swap_X6_yearsGo
set_option maxRecDepth 20000 in
theorem ggX6_swap_X6_copies : GoodIn wsX6_swap wsX6_copies := goodIn_r _ [16, 2, 60, 61, 62, 63, 64, 65, 66, 67, 68, 69, 70, 71, 72, 73, 74, 75, 76, 77, 78, 79, 80, 81, 82, 83, 84, 85] (by decide +kernel) (by decide +kernel)
set_option maxRecDepth 20000 in
theorem gX6_swap_X6_copies : GoodIn wsX6_swap (wsV RX6 188 RX6 yX6_copies wsX6_copies) := goodIn_app (goodIn_of _ (by decide +kernel)) ggX6_swap_X6_copies
theorem dX6_swap_0 : decode cX6_swap 0 = .ok (.iload_n 1, 1) := by decide +kernel
theorem dX6_swap_1 : decode cX6_swap 1 = .ok (.i2l, 1) := by decide +kernel
theorem dX6_swap_2 : decode cX6_swap 2 = .ok (.lconst 0, 1) := by decide +kernel
theorem dX6_swap_3 : decode cX6_swap 3 = .ok (.lconst 1, 1) := by decide +kernel
theorem dX6_swap_4 : decode cX6_swap 4 = .ok (.invokestatic 50, 3) := by decide +kernel
theorem dX6_swap_7 : decode cX6_swap 7 = .ok (.ifCond .ne 5, 3) := by decide +kernel
theorem dX6_swap_10 : decode cX6_swap 10 = .ok (.iconst (-1), 1) := by decide +kernel
theorem dX6_swap_11 : decode cX6_swap 11 = .ok (.ireturn, 1) := by decide +kernel
theorem dX6_swap_12 : decode cX6_swap 12 = .ok (.aload_n 0, 1) := by decide +kernel
theorem dX6_swap_13 : decode cX6_swap 13 = .ok (.iconst 0, 1) := by decide +kernel
theorem dX6_swap_14 : decode cX6_swap 14 = .ok (.bipush 60, 2) := by decide +kernel
theorem dX6_swap_16 : decode cX6_swap 16 = .ok (.invokevirtual 202, 3) := by decide +kernel
theorem dX6_swap_19 : decode cX6_swap 19 = .ok (.aload_n 0, 1) := by decide +kernel
theorem dX6_swap_20 : decode cX6_swap 20 = .ok (.getfield 191, 3) := by decide +kernel
theorem dX6_swap_23 : decode cX6_swap 23 = .ok (.istore_n 2, 1) := by decide +kernel
theorem dX6_swap_24 : decode cX6_swap 24 = .ok (.bipush (-4), 2) := by decide +kernel
theorem dX6_swap_26 : decode cX6_swap 26 = .ok (.istore_n 3, 1) := by decide +kernel
theorem dX6_swap_27 : decode cX6_swap 27 = .ok (.iconst 0, 1) := by decide +kernel
theorem dX6_swap_28 : decode cX6_swap 28 = .ok (.istore 4, 2) := by decide +kernel
theorem dX6_swap_30 : decode cX6_swap 30 = .ok (.iload 4, 2) := by decide +kernel
theorem dX6_swap_32 : decode cX6_swap 32 = .ok (.aload_n 0, 1) := by decide +kernel
theorem dX6_swap_33 : decode cX6_swap 33 = .ok (.getfield 7, 3) := by decide +kernel
theorem dX6_swap_36 : decode cX6_swap 36 = .ok (.bipush 20, 2) := by decide +kernel
theorem dX6_swap_38 : decode cX6_swap 38 = .ok (.iaload, 1) := by decide +kernel
theorem dX6_swap_39 : decode cX6_swap 39 = .ok (.if_icmp .ge 130, 3) := by decide +kernel
theorem dX6_swap_42 : decode cX6_swap 42 = .ok (.iload 4, 2) := by decide +kernel
theorem dX6_swap_44 : decode cX6_swap 44 = .ok (.iconst 1, 1) := by decide +kernel
theorem dX6_swap_45 : decode cX6_swap 45 = .ok (.iadd, 1) := by decide +kernel
theorem dX6_swap_46 : decode cX6_swap 46 = .ok (.istore 5, 2) := by decide +kernel
theorem dX6_swap_48 : decode cX6_swap 48 = .ok (.iload 5, 2) := by decide +kernel
theorem dX6_swap_50 : decode cX6_swap 50 = .ok (.aload_n 0, 1) := by decide +kernel
theorem dX6_swap_51 : decode cX6_swap 51 = .ok (.getfield 7, 3) := by decide +kernel
theorem dX6_swap_54 : decode cX6_swap 54 = .ok (.bipush 20, 2) := by decide +kernel
theorem dX6_swap_56 : decode cX6_swap 56 = .ok (.iaload, 1) := by decide +kernel
theorem dX6_swap_57 : decode cX6_swap 57 = .ok (.if_icmp .ge 106, 3) := by decide +kernel
theorem dX6_swap_60 : decode cX6_swap 60 = .ok (.aload_n 0, 1) := by decide +kernel
theorem dX6_swap_61 : decode cX6_swap 61 = .ok (.iconst 0, 1) := by decide +kernel
theorem dX6_swap_62 : decode cX6_swap 62 = .ok (.sipush 130, 3) := by decide +kernel
theorem dX6_swap_65 : decode cX6_swap 65 = .ok (.invokevirtual 188, 3) := by decide +kernel
theorem dX6_swap_68 : decode cX6_swap 68 = .ok (.aload_n 0, 1) := by decide +kernel
theorem dX6_swap_69 : decode cX6_swap 69 = .ok (.getfield 7, 3) := by decide +kernel
theorem dX6_swap_72 : decode cX6_swap 72 = .ok (.sipush 140, 3) := by decide +kernel
theorem dX6_swap_75 : decode cX6_swap 75 = .ok (.iload 4, 2) := by decide +kernel
theorem dX6_swap_77 : decode cX6_swap 77 = .ok (.iadd, 1) := by decide +kernel
theorem dX6_swap_78 : decode cX6_swap 78 = .ok (.aload_n 0, 1) := by decide +kernel
theorem dX6_swap_79 : decode cX6_swap 79 = .ok (.getfield 7, 3) := by decide +kernel
theorem dX6_swap_82 : decode cX6_swap 82 = .ok (.bipush 10, 2) := by decide +kernel
theorem dX6_swap_84 : decode cX6_swap 84 = .ok (.iload 5, 2) := by decide +kernel
theorem dX6_swap_86 : decode cX6_swap 86 = .ok (.iadd, 1) := by decide +kernel
theorem dX6_swap_87 : decode cX6_swap 87 = .ok (.iaload, 1) := by decide +kernel
theorem dX6_swap_88 : decode cX6_swap 88 = .ok (.iastore, 1) := by decide +kernel
theorem dX6_swap_89 : decode cX6_swap 89 = .ok (.aload_n 0, 1) := by decide +kernel
theorem dX6_swap_90 : decode cX6_swap 90 = .ok (.getfield 7, 3) := by decide +kernel
theorem dX6_swap_93 : decode cX6_swap 93 = .ok (.sipush 140, 3) := by decide +kernel
theorem dX6_swap_96 : decode cX6_swap 96 = .ok (.iload 5, 2) := by decide +kernel
theorem dX6_swap_98 : decode cX6_swap 98 = .ok (.iadd, 1) := by decide +kernel
theorem dX6_swap_99 : decode cX6_swap 99 = .ok (.aload_n 0, 1) := by decide +kernel
theorem dX6_swap_100 : decode cX6_swap 100 = .ok (.getfield 7, 3) := by decide +kernel
theorem dX6_swap_103 : decode cX6_swap 103 = .ok (.bipush 10, 2) := by decide +kernel
theorem dX6_swap_105 : decode cX6_swap 105 = .ok (.iload 4, 2) := by decide +kernel
theorem dX6_swap_107 : decode cX6_swap 107 = .ok (.iadd, 1) := by decide +kernel
theorem dX6_swap_108 : decode cX6_swap 108 = .ok (.iaload, 1) := by decide +kernel
theorem dX6_swap_109 : decode cX6_swap 109 = .ok (.iastore, 1) := by decide +kernel
theorem dX6_swap_110 : decode cX6_swap 110 = .ok (.aload_n 0, 1) := by decide +kernel
theorem dX6_swap_111 : decode cX6_swap 111 = .ok (.sipush 130, 3) := by decide +kernel
theorem dX6_swap_114 : decode cX6_swap 114 = .ok (.bipush 60, 2) := by decide +kernel
theorem dX6_swap_116 : decode cX6_swap 116 = .ok (.invokevirtual 202, 3) := by decide +kernel
theorem dX6_swap_119 : decode cX6_swap 119 = .ok (.aload_n 0, 1) := by decide +kernel
theorem dX6_swap_120 : decode cX6_swap 120 = .ok (.getfield 191, 3) := by decide +kernel
theorem dX6_swap_123 : decode cX6_swap 123 = .ok (.iload_n 2, 1) := by decide +kernel
theorem dX6_swap_124 : decode cX6_swap 124 = .ok (.if_icmp .ge 14, 3) := by decide +kernel
theorem dX6_swap_127 : decode cX6_swap 127 = .ok (.bipush 10, 2) := by decide +kernel
theorem dX6_swap_129 : decode cX6_swap 129 = .ok (.iload 4, 2) := by decide +kernel
theorem dX6_swap_131 : decode cX6_swap 131 = .ok (.imul, 1) := by decide +kernel
theorem dX6_swap_132 : decode cX6_swap 132 = .ok (.iload 5, 2) := by decide +kernel
theorem dX6_swap_134 : decode cX6_swap 134 = .ok (.iadd, 1) := by decide +kernel
theorem dX6_swap_135 : decode cX6_swap 135 = .ok (.goto 4, 3) := by decide +kernel
theorem dX6_swap_138 : decode cX6_swap 138 = .ok (.iload_n 3, 1) := by decide +kernel
theorem dX6_swap_139 : decode cX6_swap 139 = .ok (.istore_n 3, 1) := by decide +kernel
theorem dX6_swap_140 : decode cX6_swap 140 = .ok (.aload_n 0, 1) := by decide +kernel
theorem dX6_swap_141 : decode cX6_swap 141 = .ok (.getfield 191, 3) := by decide +kernel
theorem dX6_swap_144 : decode cX6_swap 144 = .ok (.iload_n 2, 1) := by decide +kernel
theorem dX6_swap_145 : decode cX6_swap 145 = .ok (.if_icmp .ge 10, 3) := by decide +kernel
theorem dX6_swap_148 : decode cX6_swap 148 = .ok (.aload_n 0, 1) := by decide +kernel
theorem dX6_swap_149 : decode cX6_swap 149 = .ok (.getfield 191, 3) := by decide +kernel
theorem dX6_swap_152 : decode cX6_swap 152 = .ok (.goto 4, 3) := by decide +kernel
theorem dX6_swap_155 : decode cX6_swap 155 = .ok (.iload_n 2, 1) := by decide +kernel
theorem dX6_swap_156 : decode cX6_swap 156 = .ok (.istore_n 2, 1) := by decide +kernel
theorem dX6_swap_157 : decode cX6_swap 157 = .ok (.iinc 5 1, 3) := by decide +kernel
theorem dX6_swap_160 : decode cX6_swap 160 = .ok (.goto (-112), 3) := by decide +kernel
theorem dX6_swap_163 : decode cX6_swap 163 = .ok (.iinc 4 1, 3) := by decide +kernel
theorem dX6_swap_166 : decode cX6_swap 166 = .ok (.goto (-136), 3) := by decide +kernel
theorem dX6_swap_169 : decode cX6_swap 169 = .ok (.iload_n 3, 1) := by decide +kernel
theorem dX6_swap_170 : decode cX6_swap 170 = .ok (.bipush (-4), 2) := by decide +kernel
theorem dX6_swap_172 : decode cX6_swap 172 = .ok (.if_icmp .eq 7, 3) := by decide +kernel
theorem dX6_swap_175 : decode cX6_swap 175 = .ok (.iload_n 1, 1) := by decide +kernel
theorem dX6_swap_176 : decode cX6_swap 176 = .ok (.ifCond .ne 7, 3) := by decide +kernel
theorem dX6_swap_179 : decode cX6_swap 179 = .ok (.iload_n 3, 1) := by decide +kernel
theorem dX6_swap_180 : decode cX6_swap 180 = .ok (.goto 4, 3) := by decide +kernel
theorem dX6_swap_183 : decode cX6_swap 183 = .ok (.iload_n 2, 1) := by decide +kernel
theorem dX6_swap_184 : decode cX6_swap 184 = .ok (.ireturn, 1) := by decide +kernel
set_option maxRecDepth 20000 in
theorem ggX6_kind_X6_isDraw : GoodIn wsX6_kind wsX6_isDraw := goodIn_r _ [7, 2, 8, 9, 6, 10, 65, 66, 67, 68, 69, 70, 71, 72, 73, 74, 75, 76, 77, 78, 79, 80, 81, 82, 83, 84, 85, 86, 87, 88, 89, 90] (by decide +kernel) (by decide +kernel)
set_option maxRecDepth 20000 in
theorem gX6_kind_X6_isDraw : GoodIn wsX6_kind (wsV RX6 153 RX6 yX6_isDraw wsX6_isDraw) := goodIn_app (goodIn_of _ (by decide +kernel)) ggX6_kind_X6_isDraw
set_option maxRecDepth 20000 in
theorem ggX6_kind_X6_in : GoodIn wsX6_kind wsX6_in := goodIn_r _ [10] (by decide +kernel) (by decide +kernel)
set_option maxRecDepth 20000 in
theorem gX6_kind_X6_in : GoodIn wsX6_kind (va_wsS RX6 50 yX6_in wsX6_in) := goodIn_app (goodIn_of _ (by decide +kernel)) ggX6_kind_X6_in
set_option maxRecDepth 20000 in
theorem ggX6_kind_X6_copies : GoodIn wsX6_kind wsX6_copies := goodIn_r _ [14, 2, 65, 66, 67, 68, 69, 70, 71, 72, 73, 74, 75, 76, 77, 78, 79, 80, 81, 82, 83, 84, 85, 86, 87, 88, 89, 90] (by decide +kernel) (by decide +kernel)
set_option maxRecDepth 20000 in
theorem gX6_kind_X6_copies : GoodIn wsX6_kind (wsV RX6 188 RX6 yX6_copies wsX6_copies) := goodIn_app (goodIn_of _ (by decide +kernel)) ggX6_kind_X6_copies
set_option maxRecDepth 20000 in
theorem ggX6_kind_X6_yearsGo : GoodIn wsX6_kind wsX6_yearsGo := goodIn_r _ [18, 19, 20, 21, 11, 12, 13, 6, 14, 2, 22, 23, 24, 25, 26, 27, 28, 29, 30, 31, 32, 33, 34, 35, 36, 37, 38, 39, 40, 41, 42, 43, 44, 45, 46, 47, 48, 49, 50, 51, 52, 53, 54, 55, 56, 57, 58, 59, 60, 61, 62, 63, 64, 65, 66, 67, 68, 69, 70, 71, 72, 73, 74, 75, 76, 77, 78, 79, 80, 81, 82, 83, 84, 85, 86, 87, 88, 89, 90] (by decide +kernel) (by decide +kernel)
set_option maxRecDepth 20000 in
theorem gX6_kind_X6_yearsGo : GoodIn wsX6_kind (wsV RX6 202 RX6 yX6_yearsGo wsX6_yearsGo) := goodIn_app (goodIn_of _ (by decide +kernel)) ggX6_kind_X6_yearsGo
set_option maxRecDepth 20000 in
theorem ggX6_kind_X6_pointOn : GoodIn wsX6_kind wsX6_pointOn := goodIn_r _ [29, 2, 65, 66, 67, 68, 69, 70, 71, 72, 73, 74, 75, 76, 77, 78, 79, 80, 81, 82, 83, 84, 85, 86, 87, 88, 89, 90] (by decide +kernel) (by decide +kernel)
set_option maxRecDepth 20000 in
theorem gX6_kind_X6_pointOn : GoodIn wsX6_kind (wsV RX6 124 RX6 yX6_pointOn wsX6_pointOn) := goodIn_app (goodIn_of _ (by decide +kernel)) ggX6_kind_X6_pointOn
set_option maxRecDepth 20000 in
theorem ggX6_kind_X6_farOf : GoodIn wsX6_kind wsX6_farOf := goodIn_r _ [32, 33, 34, 6, 35] (by decide +kernel) (by decide +kernel)
set_option maxRecDepth 20000 in
theorem gX6_kind_X6_farOf : GoodIn wsX6_kind (va_wsS RX6 127 yX6_farOf wsX6_farOf) := goodIn_app (goodIn_of _ (by decide +kernel)) ggX6_kind_X6_farOf
theorem dX6_kind_0 : decode cX6_kind 0 = .ok (.aload_n 0, 1) := by decide +kernel
theorem dX6_kind_1 : decode cX6_kind 1 = .ok (.iload_n 1, 1) := by decide +kernel
theorem dX6_kind_2 : decode cX6_kind 2 = .ok (.invokevirtual 153, 3) := by decide +kernel
theorem dX6_kind_5 : decode cX6_kind 5 = .ok (.ifCond .eq 25, 3) := by decide +kernel
theorem dX6_kind_8 : decode cX6_kind 8 = .ok (.iload_n 2, 1) := by decide +kernel
theorem dX6_kind_9 : decode cX6_kind 9 = .ok (.i2l, 1) := by decide +kernel
theorem dX6_kind_10 : decode cX6_kind 10 = .ok (.lconst 0, 1) := by decide +kernel
theorem dX6_kind_11 : decode cX6_kind 11 = .ok (.ldc2_w 163, 3) := by decide +kernel
theorem dX6_kind_14 : decode cX6_kind 14 = .ok (.invokestatic 50, 3) := by decide +kernel
theorem dX6_kind_17 : decode cX6_kind 17 = .ok (.ifCond .eq 13, 3) := by decide +kernel
theorem dX6_kind_20 : decode cX6_kind 20 = .ok (.iload_n 3, 1) := by decide +kernel
theorem dX6_kind_21 : decode cX6_kind 21 = .ok (.i2l, 1) := by decide +kernel
theorem dX6_kind_22 : decode cX6_kind 22 = .ok (.lconst 0, 1) := by decide +kernel
theorem dX6_kind_23 : decode cX6_kind 23 = .ok (.lconst 1, 1) := by decide +kernel
theorem dX6_kind_24 : decode cX6_kind 24 = .ok (.invokestatic 50, 3) := by decide +kernel
theorem dX6_kind_27 : decode cX6_kind 27 = .ok (.ifCond .ne 5, 3) := by decide +kernel
theorem dX6_kind_30 : decode cX6_kind 30 = .ok (.iconst (-1), 1) := by decide +kernel
theorem dX6_kind_31 : decode cX6_kind 31 = .ok (.ireturn, 1) := by decide +kernel
theorem dX6_kind_32 : decode cX6_kind 32 = .ok (.bipush 100, 2) := by decide +kernel
theorem dX6_kind_34 : decode cX6_kind 34 = .ok (.istore 4, 2) := by decide +kernel
theorem dX6_kind_36 : decode cX6_kind 36 = .ok (.iconst 0, 1) := by decide +kernel
theorem dX6_kind_37 : decode cX6_kind 37 = .ok (.istore 5, 2) := by decide +kernel
theorem dX6_kind_39 : decode cX6_kind 39 = .ok (.iconst 0, 1) := by decide +kernel
theorem dX6_kind_40 : decode cX6_kind 40 = .ok (.istore 6, 2) := by decide +kernel
theorem dX6_kind_42 : decode cX6_kind 42 = .ok (.iload 6, 2) := by decide +kernel
theorem dX6_kind_44 : decode cX6_kind 44 = .ok (.iconst 4, 1) := by decide +kernel
theorem dX6_kind_45 : decode cX6_kind 45 = .ok (.if_icmp .ge 89, 3) := by decide +kernel
theorem dX6_kind_48 : decode cX6_kind 48 = .ok (.aload_n 0, 1) := by decide +kernel
theorem dX6_kind_49 : decode cX6_kind 49 = .ok (.iconst 0, 1) := by decide +kernel
theorem dX6_kind_50 : decode cX6_kind 50 = .ok (.sipush 130, 3) := by decide +kernel
theorem dX6_kind_53 : decode cX6_kind 53 = .ok (.invokevirtual 188, 3) := by decide +kernel
theorem dX6_kind_56 : decode cX6_kind 56 = .ok (.aload_n 0, 1) := by decide +kernel
theorem dX6_kind_57 : decode cX6_kind 57 = .ok (.getfield 7, 3) := by decide +kernel
theorem dX6_kind_60 : decode cX6_kind 60 = .ok (.sipush 130, 3) := by decide +kernel
theorem dX6_kind_63 : decode cX6_kind 63 = .ok (.iload_n 1, 1) := by decide +kernel
theorem dX6_kind_64 : decode cX6_kind 64 = .ok (.iadd, 1) := by decide +kernel
theorem dX6_kind_65 : decode cX6_kind 65 = .ok (.iload 6, 2) := by decide +kernel
theorem dX6_kind_67 : decode cX6_kind 67 = .ok (.iastore, 1) := by decide +kernel
theorem dX6_kind_68 : decode cX6_kind 68 = .ok (.aload_n 0, 1) := by decide +kernel
theorem dX6_kind_69 : decode cX6_kind 69 = .ok (.sipush 130, 3) := by decide +kernel
theorem dX6_kind_72 : decode cX6_kind 72 = .ok (.iload_n 2, 1) := by decide +kernel
theorem dX6_kind_73 : decode cX6_kind 73 = .ok (.invokevirtual 202, 3) := by decide +kernel
theorem dX6_kind_76 : decode cX6_kind 76 = .ok (.aload_n 0, 1) := by decide +kernel
theorem dX6_kind_77 : decode cX6_kind 77 = .ok (.getfield 7, 3) := by decide +kernel
theorem dX6_kind_80 : decode cX6_kind 80 = .ok (.bipush 10, 2) := by decide +kernel
theorem dX6_kind_82 : decode cX6_kind 82 = .ok (.iload_n 1, 1) := by decide +kernel
theorem dX6_kind_83 : decode cX6_kind 83 = .ok (.iadd, 1) := by decide +kernel
theorem dX6_kind_84 : decode cX6_kind 84 = .ok (.iaload, 1) := by decide +kernel
theorem dX6_kind_85 : decode cX6_kind 85 = .ok (.aload_n 0, 1) := by decide +kernel
theorem dX6_kind_86 : decode cX6_kind 86 = .ok (.bipush 104, 2) := by decide +kernel
theorem dX6_kind_88 : decode cX6_kind 88 = .ok (.invokevirtual 124, 3) := by decide +kernel
theorem dX6_kind_91 : decode cX6_kind 91 = .ok (.invokestatic 127, 3) := by decide +kernel
theorem dX6_kind_94 : decode cX6_kind 94 = .ok (.istore 7, 2) := by decide +kernel
theorem dX6_kind_96 : decode cX6_kind 96 = .ok (.iload 7, 2) := by decide +kernel
theorem dX6_kind_98 : decode cX6_kind 98 = .ok (.iload 4, 2) := by decide +kernel
theorem dX6_kind_100 : decode cX6_kind 100 = .ok (.if_icmp .ge 8, 3) := by decide +kernel
theorem dX6_kind_103 : decode cX6_kind 103 = .ok (.iload 6, 2) := by decide +kernel
theorem dX6_kind_105 : decode cX6_kind 105 = .ok (.goto 5, 3) := by decide +kernel
theorem dX6_kind_108 : decode cX6_kind 108 = .ok (.iload 5, 2) := by decide +kernel
theorem dX6_kind_110 : decode cX6_kind 110 = .ok (.istore 5, 2) := by decide +kernel
theorem dX6_kind_112 : decode cX6_kind 112 = .ok (.iload 7, 2) := by decide +kernel
theorem dX6_kind_114 : decode cX6_kind 114 = .ok (.iload 4, 2) := by decide +kernel
theorem dX6_kind_116 : decode cX6_kind 116 = .ok (.if_icmp .ge 8, 3) := by decide +kernel
theorem dX6_kind_119 : decode cX6_kind 119 = .ok (.iload 7, 2) := by decide +kernel
theorem dX6_kind_121 : decode cX6_kind 121 = .ok (.goto 5, 3) := by decide +kernel
theorem dX6_kind_124 : decode cX6_kind 124 = .ok (.iload 4, 2) := by decide +kernel
theorem dX6_kind_126 : decode cX6_kind 126 = .ok (.istore 4, 2) := by decide +kernel
theorem dX6_kind_128 : decode cX6_kind 128 = .ok (.iinc 6 1, 3) := by decide +kernel
theorem dX6_kind_131 : decode cX6_kind 131 = .ok (.goto (-89), 3) := by decide +kernel
theorem dX6_kind_134 : decode cX6_kind 134 = .ok (.iload_n 3, 1) := by decide +kernel
theorem dX6_kind_135 : decode cX6_kind 135 = .ok (.ifCond .ne 8, 3) := by decide +kernel
theorem dX6_kind_138 : decode cX6_kind 138 = .ok (.iload 5, 2) := by decide +kernel
theorem dX6_kind_140 : decode cX6_kind 140 = .ok (.goto 5, 3) := by decide +kernel
theorem dX6_kind_143 : decode cX6_kind 143 = .ok (.iload 4, 2) := by decide +kernel
theorem dX6_kind_145 : decode cX6_kind 145 = .ok (.ireturn, 1) := by decide +kernel
set_option maxRecDepth 20000 in
theorem ggX6_byCalm_X6_copies : GoodIn wsX6_byCalm wsX6_copies := goodIn_r _ [7, 2, 54, 55, 56, 57, 58, 59, 60, 61, 62, 63, 64, 65, 66, 67, 68, 69, 70, 71, 72, 73, 74, 75, 76, 77, 78, 79] (by decide +kernel) (by decide +kernel)
set_option maxRecDepth 20000 in
theorem gX6_byCalm_X6_copies : GoodIn wsX6_byCalm (wsV RX6 188 RX6 yX6_copies wsX6_copies) := goodIn_app (goodIn_of _ (by decide +kernel)) ggX6_byCalm_X6_copies
set_option maxRecDepth 20000 in
theorem ggX6_byCalm_X6_yearOn : GoodIn wsX6_byCalm wsX6_yearOn := goodIn_r _ [11, 2, 12, 13, 14, 6, 15, 16, 17, 18, 19, 20, 21, 22, 23, 24, 25, 26, 27, 28, 29, 30, 31, 32, 33, 34, 35, 36, 37, 38, 39, 40, 41, 42, 43, 44, 45, 46, 47, 48, 49, 50, 54, 55, 56, 57, 58, 59, 60, 61, 62, 63, 64, 65, 66, 67, 68, 69, 70, 71, 72, 73, 74, 75, 76, 77, 78, 79] (by decide +kernel) (by decide +kernel)
set_option maxRecDepth 20000 in
theorem gX6_byCalm_X6_yearOn : GoodIn wsX6_byCalm (wsV RX6 185 RX6 yX6_yearOn wsX6_yearOn) := goodIn_app (goodIn_of _ (by decide +kernel)) ggX6_byCalm_X6_yearOn
set_option maxRecDepth 20000 in
theorem ggX6_byCalm_X6_leanOn : GoodIn wsX6_byCalm wsX6_leanOn := goodIn_r _ [23, 2, 24, 25, 26, 6, 27, 28, 29, 30, 31, 32, 33, 54, 55, 56, 57, 58, 59, 60, 61, 62, 63, 64, 65, 66, 67, 68, 69, 70, 71, 72, 73, 74, 75, 76, 77, 78, 79] (by decide +kernel) (by decide +kernel)
set_option maxRecDepth 20000 in
theorem gX6_byCalm_X6_leanOn : GoodIn wsX6_byCalm (wsV RX6 130 RX6 yX6_leanOn wsX6_leanOn) := goodIn_app (goodIn_of _ (by decide +kernel)) ggX6_byCalm_X6_leanOn
set_option maxRecDepth 20000 in
theorem ggX6_byCalm_X6_pointOn : GoodIn wsX6_byCalm wsX6_pointOn := goodIn_r _ [27, 2, 54, 55, 56, 57, 58, 59, 60, 61, 62, 63, 64, 65, 66, 67, 68, 69, 70, 71, 72, 73, 74, 75, 76, 77, 78, 79] (by decide +kernel) (by decide +kernel)
set_option maxRecDepth 20000 in
theorem gX6_byCalm_X6_pointOn : GoodIn wsX6_byCalm (wsV RX6 124 RX6 yX6_pointOn wsX6_pointOn) := goodIn_app (goodIn_of _ (by decide +kernel)) ggX6_byCalm_X6_pointOn
set_option maxRecDepth 20000 in
theorem ggX6_byCalm_X6_lowest : GoodIn wsX6_byCalm wsX6_lowest := goodIn_r _ [53] (by decide +kernel) (by decide +kernel)
set_option maxRecDepth 20000 in
theorem gX6_byCalm_X6_lowest : GoodIn wsX6_byCalm (va_wsS RX6 210 yX6_lowest wsX6_lowest) := goodIn_app (goodIn_of _ (by decide +kernel)) ggX6_byCalm_X6_lowest
theorem dX6_byCalm_0 : decode cX6_byCalm 0 = .ok (.lconst 0, 1) := by decide +kernel
theorem dX6_byCalm_1 : decode cX6_byCalm 1 = .ok (.lstore 5, 2) := by decide +kernel
theorem dX6_byCalm_3 : decode cX6_byCalm 3 = .ok (.lconst 1, 1) := by decide +kernel
theorem dX6_byCalm_4 : decode cX6_byCalm 4 = .ok (.lstore 7, 2) := by decide +kernel
theorem dX6_byCalm_6 : decode cX6_byCalm 6 = .ok (.iconst 0, 1) := by decide +kernel
theorem dX6_byCalm_7 : decode cX6_byCalm 7 = .ok (.istore 9, 2) := by decide +kernel
theorem dX6_byCalm_9 : decode cX6_byCalm 9 = .ok (.iload 9, 2) := by decide +kernel
theorem dX6_byCalm_11 : decode cX6_byCalm 11 = .ok (.iload_n 3, 1) := by decide +kernel
theorem dX6_byCalm_12 : decode cX6_byCalm 12 = .ok (.if_icmp .ge 17, 3) := by decide +kernel
theorem dX6_byCalm_15 : decode cX6_byCalm 15 = .ok (.lload 7, 2) := by decide +kernel
theorem dX6_byCalm_17 : decode cX6_byCalm 17 = .ok (.ldc2_w 217, 3) := by decide +kernel
theorem dX6_byCalm_20 : decode cX6_byCalm 20 = .ok (.lmul, 1) := by decide +kernel
theorem dX6_byCalm_21 : decode cX6_byCalm 21 = .ok (.lstore 7, 2) := by decide +kernel
theorem dX6_byCalm_23 : decode cX6_byCalm 23 = .ok (.iinc 9 1, 3) := by decide +kernel
theorem dX6_byCalm_26 : decode cX6_byCalm 26 = .ok (.goto (-17), 3) := by decide +kernel
theorem dX6_byCalm_29 : decode cX6_byCalm 29 = .ok (.iconst 0, 1) := by decide +kernel
theorem dX6_byCalm_30 : decode cX6_byCalm 30 = .ok (.istore 9, 2) := by decide +kernel
theorem dX6_byCalm_32 : decode cX6_byCalm 32 = .ok (.iload 9, 2) := by decide +kernel
theorem dX6_byCalm_34 : decode cX6_byCalm 34 = .ok (.iconst 1, 1) := by decide +kernel
theorem dX6_byCalm_35 : decode cX6_byCalm 35 = .ok (.iload_n 3, 1) := by decide +kernel
theorem dX6_byCalm_36 : decode cX6_byCalm 36 = .ok (.ishl, 1) := by decide +kernel
theorem dX6_byCalm_37 : decode cX6_byCalm 37 = .ok (.if_icmp .ge 122, 3) := by decide +kernel
theorem dX6_byCalm_40 : decode cX6_byCalm 40 = .ok (.lconst 1, 1) := by decide +kernel
theorem dX6_byCalm_41 : decode cX6_byCalm 41 = .ok (.lstore 10, 2) := by decide +kernel
theorem dX6_byCalm_43 : decode cX6_byCalm 43 = .ok (.aload_n 0, 1) := by decide +kernel
theorem dX6_byCalm_44 : decode cX6_byCalm 44 = .ok (.iconst 0, 1) := by decide +kernel
theorem dX6_byCalm_45 : decode cX6_byCalm 45 = .ok (.bipush 104, 2) := by decide +kernel
theorem dX6_byCalm_47 : decode cX6_byCalm 47 = .ok (.invokevirtual 188, 3) := by decide +kernel
theorem dX6_byCalm_50 : decode cX6_byCalm 50 = .ok (.iconst 0, 1) := by decide +kernel
theorem dX6_byCalm_51 : decode cX6_byCalm 51 = .ok (.istore 12, 2) := by decide +kernel
theorem dX6_byCalm_53 : decode cX6_byCalm 53 = .ok (.iload 12, 2) := by decide +kernel
theorem dX6_byCalm_55 : decode cX6_byCalm 55 = .ok (.iload_n 3, 1) := by decide +kernel
theorem dX6_byCalm_56 : decode cX6_byCalm 56 = .ok (.if_icmp .ge 58, 3) := by decide +kernel
theorem dX6_byCalm_59 : decode cX6_byCalm 59 = .ok (.iload 9, 2) := by decide +kernel
theorem dX6_byCalm_61 : decode cX6_byCalm 61 = .ok (.iload 12, 2) := by decide +kernel
theorem dX6_byCalm_63 : decode cX6_byCalm 63 = .ok (.ishr, 1) := by decide +kernel
theorem dX6_byCalm_64 : decode cX6_byCalm 64 = .ok (.iconst 1, 1) := by decide +kernel
theorem dX6_byCalm_65 : decode cX6_byCalm 65 = .ok (.iand, 1) := by decide +kernel
theorem dX6_byCalm_66 : decode cX6_byCalm 66 = .ok (.iconst 1, 1) := by decide +kernel
theorem dX6_byCalm_67 : decode cX6_byCalm 67 = .ok (.if_icmp .ne 25, 3) := by decide +kernel
theorem dX6_byCalm_70 : decode cX6_byCalm 70 = .ok (.lload 10, 2) := by decide +kernel
theorem dX6_byCalm_72 : decode cX6_byCalm 72 = .ok (.iload_n 1, 1) := by decide +kernel
theorem dX6_byCalm_73 : decode cX6_byCalm 73 = .ok (.i2l, 1) := by decide +kernel
theorem dX6_byCalm_74 : decode cX6_byCalm 74 = .ok (.lmul, 1) := by decide +kernel
theorem dX6_byCalm_75 : decode cX6_byCalm 75 = .ok (.lstore 10, 2) := by decide +kernel
theorem dX6_byCalm_77 : decode cX6_byCalm 77 = .ok (.aload_n 0, 1) := by decide +kernel
theorem dX6_byCalm_78 : decode cX6_byCalm 78 = .ok (.getfield 7, 3) := by decide +kernel
theorem dX6_byCalm_81 : decode cX6_byCalm 81 = .ok (.sipush 129, 3) := by decide +kernel
theorem dX6_byCalm_84 : decode cX6_byCalm 84 = .ok (.dup2, 1) := by decide +kernel
theorem dX6_byCalm_85 : decode cX6_byCalm 85 = .ok (.iaload, 1) := by decide +kernel
theorem dX6_byCalm_86 : decode cX6_byCalm 86 = .ok (.iconst 1, 1) := by decide +kernel
theorem dX6_byCalm_87 : decode cX6_byCalm 87 = .ok (.iadd, 1) := by decide +kernel
theorem dX6_byCalm_88 : decode cX6_byCalm 88 = .ok (.iastore, 1) := by decide +kernel
theorem dX6_byCalm_89 : decode cX6_byCalm 89 = .ok (.goto 19, 3) := by decide +kernel
theorem dX6_byCalm_92 : decode cX6_byCalm 92 = .ok (.lload 10, 2) := by decide +kernel
theorem dX6_byCalm_94 : decode cX6_byCalm 94 = .ok (.bipush 10, 2) := by decide +kernel
theorem dX6_byCalm_96 : decode cX6_byCalm 96 = .ok (.iload_n 1, 1) := by decide +kernel
theorem dX6_byCalm_97 : decode cX6_byCalm 97 = .ok (.isub, 1) := by decide +kernel
theorem dX6_byCalm_98 : decode cX6_byCalm 98 = .ok (.i2l, 1) := by decide +kernel
theorem dX6_byCalm_99 : decode cX6_byCalm 99 = .ok (.lmul, 1) := by decide +kernel
theorem dX6_byCalm_100 : decode cX6_byCalm 100 = .ok (.lstore 10, 2) := by decide +kernel
theorem dX6_byCalm_102 : decode cX6_byCalm 102 = .ok (.aload_n 0, 1) := by decide +kernel
theorem dX6_byCalm_103 : decode cX6_byCalm 103 = .ok (.bipush 104, 2) := by decide +kernel
theorem dX6_byCalm_105 : decode cX6_byCalm 105 = .ok (.invokevirtual 185, 3) := by decide +kernel
theorem dX6_byCalm_108 : decode cX6_byCalm 108 = .ok (.iinc 12 1, 3) := by decide +kernel
theorem dX6_byCalm_111 : decode cX6_byCalm 111 = .ok (.goto (-58), 3) := by decide +kernel
theorem dX6_byCalm_114 : decode cX6_byCalm 114 = .ok (.lload 5, 2) := by decide +kernel
theorem dX6_byCalm_116 : decode cX6_byCalm 116 = .ok (.lload 10, 2) := by decide +kernel
theorem dX6_byCalm_118 : decode cX6_byCalm 118 = .ok (.iload_n 2, 1) := by decide +kernel
theorem dX6_byCalm_119 : decode cX6_byCalm 119 = .ok (.bipush (-4), 2) := by decide +kernel
theorem dX6_byCalm_121 : decode cX6_byCalm 121 = .ok (.if_icmp .ne 12, 3) := by decide +kernel
theorem dX6_byCalm_124 : decode cX6_byCalm 124 = .ok (.aload_n 0, 1) := by decide +kernel
theorem dX6_byCalm_125 : decode cX6_byCalm 125 = .ok (.bipush 104, 2) := by decide +kernel
theorem dX6_byCalm_127 : decode cX6_byCalm 127 = .ok (.invokevirtual 130, 3) := by decide +kernel
theorem dX6_byCalm_130 : decode cX6_byCalm 130 = .ok (.goto 18, 3) := by decide +kernel
theorem dX6_byCalm_133 : decode cX6_byCalm 133 = .ok (.aload_n 0, 1) := by decide +kernel
theorem dX6_byCalm_134 : decode cX6_byCalm 134 = .ok (.bipush 104, 2) := by decide +kernel
theorem dX6_byCalm_136 : decode cX6_byCalm 136 = .ok (.invokevirtual 124, 3) := by decide +kernel
theorem dX6_byCalm_139 : decode cX6_byCalm 139 = .ok (.iload_n 2, 1) := by decide +kernel
theorem dX6_byCalm_140 : decode cX6_byCalm 140 = .ok (.if_icmp .ne 7, 3) := by decide +kernel
theorem dX6_byCalm_143 : decode cX6_byCalm 143 = .ok (.iconst 1, 1) := by decide +kernel
theorem dX6_byCalm_144 : decode cX6_byCalm 144 = .ok (.goto 4, 3) := by decide +kernel
theorem dX6_byCalm_147 : decode cX6_byCalm 147 = .ok (.iconst 0, 1) := by decide +kernel
theorem dX6_byCalm_148 : decode cX6_byCalm 148 = .ok (.i2l, 1) := by decide +kernel
theorem dX6_byCalm_149 : decode cX6_byCalm 149 = .ok (.lmul, 1) := by decide +kernel
theorem dX6_byCalm_150 : decode cX6_byCalm 150 = .ok (.ladd, 1) := by decide +kernel
theorem dX6_byCalm_151 : decode cX6_byCalm 151 = .ok (.lstore 5, 2) := by decide +kernel
theorem dX6_byCalm_153 : decode cX6_byCalm 153 = .ok (.iinc 9 1, 3) := by decide +kernel
theorem dX6_byCalm_156 : decode cX6_byCalm 156 = .ok (.goto (-124), 3) := by decide +kernel
theorem dX6_byCalm_159 : decode cX6_byCalm 159 = .ok (.lload 5, 2) := by decide +kernel
theorem dX6_byCalm_161 : decode cX6_byCalm 161 = .ok (.lload 7, 2) := by decide +kernel
theorem dX6_byCalm_163 : decode cX6_byCalm 163 = .ok (.iload 4, 2) := by decide +kernel
theorem dX6_byCalm_165 : decode cX6_byCalm 165 = .ok (.invokestatic 210, 3) := by decide +kernel
theorem dX6_byCalm_168 : decode cX6_byCalm 168 = .ok (.lreturn, 1) := by decide +kernel
set_option maxRecDepth 20000 in
theorem ggX6_luck_X6_in : GoodIn wsX6_luck wsX6_in := goodIn_r _ [7] (by decide +kernel) (by decide +kernel)
set_option maxRecDepth 20000 in
theorem gX6_luck_X6_in : GoodIn wsX6_luck (va_wsS RX6 50 yX6_in wsX6_in) := goodIn_app (goodIn_of _ (by decide +kernel)) ggX6_luck_X6_in
set_option maxRecDepth 20000 in
theorem ggX6_luck_X6_isCell : GoodIn wsX6_luck wsX6_isCell := goodIn_r _ [10, 11, 4, 5, 6, 7] (by decide +kernel) (by decide +kernel)
set_option maxRecDepth 20000 in
theorem gX6_luck_X6_isCell : GoodIn wsX6_luck (va_wsS RX6 160 yX6_isCell wsX6_isCell) := goodIn_app (goodIn_of _ (by decide +kernel)) ggX6_luck_X6_isCell
set_option maxRecDepth 20000 in
theorem ggX6_luck_X6_byCalm : GoodIn wsX6_luck wsX6_byCalm := goodIn_r _ [15, 1, 16, 17, 18, 19, 6, 20, 21, 22, 23, 24, 25, 26, 27, 28, 29, 30, 31, 32, 33, 34, 35, 36, 37, 38, 39, 40, 41, 42, 43, 44, 45, 46, 47, 48, 49, 50, 51, 52, 53, 54, 55, 56, 57, 58, 59, 60, 61, 62, 63, 64, 65, 66, 67, 68, 69, 70, 71, 72, 73, 74, 75, 76, 77, 78, 79, 80, 81, 82, 83, 84, 85, 86, 87, 88, 89, 90, 91, 92] (by decide +kernel) (by decide +kernel)
set_option maxRecDepth 20000 in
theorem gX6_luck_X6_byCalm : GoodIn wsX6_luck (wsV RX6 221 RX6 yX6_byCalm wsX6_byCalm) := goodIn_app (goodIn_of _ (by decide +kernel)) ggX6_luck_X6_byCalm
theorem dX6_luck_0 : decode cX6_luck 0 = .ok (.iload_n 1, 1) := by decide +kernel
theorem dX6_luck_1 : decode cX6_luck 1 = .ok (.i2l, 1) := by decide +kernel
theorem dX6_luck_2 : decode cX6_luck 2 = .ok (.lconst 0, 1) := by decide +kernel
theorem dX6_luck_3 : decode cX6_luck 3 = .ok (.ldc2_w 217, 3) := by decide +kernel
theorem dX6_luck_6 : decode cX6_luck 6 = .ok (.invokestatic 50, 3) := by decide +kernel
theorem dX6_luck_9 : decode cX6_luck 9 = .ok (.ifCond .eq 45, 3) := by decide +kernel
theorem dX6_luck_12 : decode cX6_luck 12 = .ok (.iload_n 2, 1) := by decide +kernel
theorem dX6_luck_13 : decode cX6_luck 13 = .ok (.invokestatic 160, 3) := by decide +kernel
theorem dX6_luck_16 : decode cX6_luck 16 = .ok (.ifCond .eq 38, 3) := by decide +kernel
theorem dX6_luck_19 : decode cX6_luck 19 = .ok (.iload_n 3, 1) := by decide +kernel
theorem dX6_luck_20 : decode cX6_luck 20 = .ok (.i2l, 1) := by decide +kernel
theorem dX6_luck_21 : decode cX6_luck 21 = .ok (.lconst 0, 1) := by decide +kernel
theorem dX6_luck_22 : decode cX6_luck 22 = .ok (.ldc2_w 219, 3) := by decide +kernel
theorem dX6_luck_25 : decode cX6_luck 25 = .ok (.invokestatic 50, 3) := by decide +kernel
theorem dX6_luck_28 : decode cX6_luck 28 = .ok (.ifCond .eq 26, 3) := by decide +kernel
theorem dX6_luck_31 : decode cX6_luck 31 = .ok (.iload 4, 2) := by decide +kernel
theorem dX6_luck_33 : decode cX6_luck 33 = .ok (.i2l, 1) := by decide +kernel
theorem dX6_luck_34 : decode cX6_luck 34 = .ok (.lconst 0, 1) := by decide +kernel
theorem dX6_luck_35 : decode cX6_luck 35 = .ok (.lconst 1, 1) := by decide +kernel
theorem dX6_luck_36 : decode cX6_luck 36 = .ok (.invokestatic 50, 3) := by decide +kernel
theorem dX6_luck_39 : decode cX6_luck 39 = .ok (.ifCond .eq 15, 3) := by decide +kernel
theorem dX6_luck_42 : decode cX6_luck 42 = .ok (.aload_n 0, 1) := by decide +kernel
theorem dX6_luck_43 : decode cX6_luck 43 = .ok (.iload_n 1, 1) := by decide +kernel
theorem dX6_luck_44 : decode cX6_luck 44 = .ok (.iload_n 2, 1) := by decide +kernel
theorem dX6_luck_45 : decode cX6_luck 45 = .ok (.iload_n 3, 1) := by decide +kernel
theorem dX6_luck_46 : decode cX6_luck 46 = .ok (.iload 4, 2) := by decide +kernel
theorem dX6_luck_48 : decode cX6_luck 48 = .ok (.invokevirtual 221, 3) := by decide +kernel
theorem dX6_luck_51 : decode cX6_luck 51 = .ok (.goto 6, 3) := by decide +kernel
theorem dX6_luck_54 : decode cX6_luck 54 = .ok (.ldc2_w 208, 3) := by decide +kernel
theorem dX6_luck_57 : decode cX6_luck 57 = .ok (.lreturn, 1) := by decide +kernel
set_option maxRecDepth 20000 in
theorem ggX6_mean_X6_in : GoodIn wsX6_mean wsX6_in := goodIn_r _ [7] (by decide +kernel) (by decide +kernel)
set_option maxRecDepth 20000 in
theorem gX6_mean_X6_in : GoodIn wsX6_mean (va_wsS RX6 50 yX6_in wsX6_in) := goodIn_app (goodIn_of _ (by decide +kernel)) ggX6_mean_X6_in
set_option maxRecDepth 20000 in
theorem ggX6_mean_X6_byCalm : GoodIn wsX6_mean wsX6_byCalm := goodIn_r _ [11, 1, 12, 13, 14, 15, 6, 16, 17, 18, 19, 20, 21, 22, 23, 24, 25, 26, 27, 28, 29, 30, 31, 32, 33, 34, 35, 36, 37, 38, 39, 40, 41, 42, 43, 44, 45, 46, 47, 48, 49, 50, 51, 52, 53, 54, 55, 56, 57, 58, 59, 60, 61, 62, 63, 64, 65, 66, 67, 68, 69, 70, 71, 72, 73, 74, 75, 76, 77, 78, 79, 80, 81, 82, 83, 84, 85, 86, 87, 88] (by decide +kernel) (by decide +kernel)
set_option maxRecDepth 20000 in
theorem gX6_mean_X6_byCalm : GoodIn wsX6_mean (wsV RX6 221 RX6 yX6_byCalm wsX6_byCalm) := goodIn_app (goodIn_of _ (by decide +kernel)) ggX6_mean_X6_byCalm
theorem dX6_mean_0 : decode cX6_mean 0 = .ok (.iload_n 1, 1) := by decide +kernel
theorem dX6_mean_1 : decode cX6_mean 1 = .ok (.i2l, 1) := by decide +kernel
theorem dX6_mean_2 : decode cX6_mean 2 = .ok (.lconst 0, 1) := by decide +kernel
theorem dX6_mean_3 : decode cX6_mean 3 = .ok (.ldc2_w 217, 3) := by decide +kernel
theorem dX6_mean_6 : decode cX6_mean 6 = .ok (.invokestatic 50, 3) := by decide +kernel
theorem dX6_mean_9 : decode cX6_mean 9 = .ok (.ifCond .eq 37, 3) := by decide +kernel
theorem dX6_mean_12 : decode cX6_mean 12 = .ok (.iload_n 2, 1) := by decide +kernel
theorem dX6_mean_13 : decode cX6_mean 13 = .ok (.i2l, 1) := by decide +kernel
theorem dX6_mean_14 : decode cX6_mean 14 = .ok (.lconst 0, 1) := by decide +kernel
theorem dX6_mean_15 : decode cX6_mean 15 = .ok (.ldc2_w 219, 3) := by decide +kernel
theorem dX6_mean_18 : decode cX6_mean 18 = .ok (.invokestatic 50, 3) := by decide +kernel
theorem dX6_mean_21 : decode cX6_mean 21 = .ok (.ifCond .eq 25, 3) := by decide +kernel
theorem dX6_mean_24 : decode cX6_mean 24 = .ok (.iload_n 3, 1) := by decide +kernel
theorem dX6_mean_25 : decode cX6_mean 25 = .ok (.i2l, 1) := by decide +kernel
theorem dX6_mean_26 : decode cX6_mean 26 = .ok (.lconst 0, 1) := by decide +kernel
theorem dX6_mean_27 : decode cX6_mean 27 = .ok (.lconst 1, 1) := by decide +kernel
theorem dX6_mean_28 : decode cX6_mean 28 = .ok (.invokestatic 50, 3) := by decide +kernel
theorem dX6_mean_31 : decode cX6_mean 31 = .ok (.ifCond .eq 15, 3) := by decide +kernel
theorem dX6_mean_34 : decode cX6_mean 34 = .ok (.aload_n 0, 1) := by decide +kernel
theorem dX6_mean_35 : decode cX6_mean 35 = .ok (.iload_n 1, 1) := by decide +kernel
theorem dX6_mean_36 : decode cX6_mean 36 = .ok (.bipush (-4), 2) := by decide +kernel
theorem dX6_mean_38 : decode cX6_mean 38 = .ok (.iload_n 2, 1) := by decide +kernel
theorem dX6_mean_39 : decode cX6_mean 39 = .ok (.iload_n 3, 1) := by decide +kernel
theorem dX6_mean_40 : decode cX6_mean 40 = .ok (.invokevirtual 221, 3) := by decide +kernel
theorem dX6_mean_43 : decode cX6_mean 43 = .ok (.goto 6, 3) := by decide +kernel
theorem dX6_mean_46 : decode cX6_mean 46 = .ok (.ldc2_w 208, 3) := by decide +kernel
theorem dX6_mean_49 : decode cX6_mean 49 = .ok (.lreturn, 1) := by decide +kernel
set_option maxRecDepth 20000 in
theorem ggX6_see_X6_in : GoodIn wsX6_see wsX6_in := goodIn_r _ [7] (by decide +kernel) (by decide +kernel)
set_option maxRecDepth 20000 in
theorem gX6_see_X6_in : GoodIn wsX6_see (va_wsS RX6 50 yX6_in wsX6_in) := goodIn_app (goodIn_of _ (by decide +kernel)) ggX6_see_X6_in
set_option maxRecDepth 20000 in
theorem ggX6_see_X6_isCell : GoodIn wsX6_see wsX6_isCell := goodIn_r _ [10, 11, 4, 5, 6, 7] (by decide +kernel) (by decide +kernel)
set_option maxRecDepth 20000 in
theorem gX6_see_X6_isCell : GoodIn wsX6_see (va_wsS RX6 160 yX6_isCell wsX6_isCell) := goodIn_app (goodIn_of _ (by decide +kernel)) ggX6_see_X6_isCell
theorem dX6_see_0 : decode cX6_see 0 = .ok (.iload_n 1, 1) := by decide +kernel
theorem dX6_see_1 : decode cX6_see 1 = .ok (.i2l, 1) := by decide +kernel
theorem dX6_see_2 : decode cX6_see 2 = .ok (.lconst 0, 1) := by decide +kernel
theorem dX6_see_3 : decode cX6_see 3 = .ok (.ldc2_w 183, 3) := by decide +kernel
theorem dX6_see_6 : decode cX6_see 6 = .ok (.invokestatic 50, 3) := by decide +kernel
theorem dX6_see_9 : decode cX6_see 9 = .ok (.ifCond .eq 10, 3) := by decide +kernel
theorem dX6_see_12 : decode cX6_see 12 = .ok (.iload_n 2, 1) := by decide +kernel
theorem dX6_see_13 : decode cX6_see 13 = .ok (.invokestatic 160, 3) := by decide +kernel
theorem dX6_see_16 : decode cX6_see 16 = .ok (.ifCond .ne 5, 3) := by decide +kernel
theorem dX6_see_19 : decode cX6_see 19 = .ok (.iconst (-1), 1) := by decide +kernel
theorem dX6_see_20 : decode cX6_see 20 = .ok (.ireturn, 1) := by decide +kernel
theorem dX6_see_21 : decode cX6_see 21 = .ok (.aload_n 0, 1) := by decide +kernel
theorem dX6_see_22 : decode cX6_see 22 = .ok (.getfield 116, 3) := by decide +kernel
theorem dX6_see_25 : decode cX6_see 25 = .ok (.bipush 6, 2) := by decide +kernel
theorem dX6_see_27 : decode cX6_see 27 = .ok (.if_icmp .ne 6, 3) := by decide +kernel
theorem dX6_see_30 : decode cX6_see 30 = .ok (.bipush (-3), 2) := by decide +kernel
theorem dX6_see_32 : decode cX6_see 32 = .ok (.ireturn, 1) := by decide +kernel
theorem dX6_see_33 : decode cX6_see 33 = .ok (.aload_n 0, 1) := by decide +kernel
theorem dX6_see_34 : decode cX6_see 34 = .ok (.getfield 29, 3) := by decide +kernel
theorem dX6_see_37 : decode cX6_see 37 = .ok (.iconst 2, 1) := by decide +kernel
theorem dX6_see_38 : decode cX6_see 38 = .ok (.aload_n 0, 1) := by decide +kernel
theorem dX6_see_39 : decode cX6_see 39 = .ok (.getfield 116, 3) := by decide +kernel
theorem dX6_see_42 : decode cX6_see 42 = .ok (.imul, 1) := by decide +kernel
theorem dX6_see_43 : decode cX6_see 43 = .ok (.iload_n 1, 1) := by decide +kernel
theorem dX6_see_44 : decode cX6_see 44 = .ok (.iastore, 1) := by decide +kernel
theorem dX6_see_45 : decode cX6_see 45 = .ok (.aload_n 0, 1) := by decide +kernel
theorem dX6_see_46 : decode cX6_see 46 = .ok (.getfield 29, 3) := by decide +kernel
theorem dX6_see_49 : decode cX6_see 49 = .ok (.iconst 2, 1) := by decide +kernel
theorem dX6_see_50 : decode cX6_see 50 = .ok (.aload_n 0, 1) := by decide +kernel
theorem dX6_see_51 : decode cX6_see 51 = .ok (.getfield 116, 3) := by decide +kernel
theorem dX6_see_54 : decode cX6_see 54 = .ok (.imul, 1) := by decide +kernel
theorem dX6_see_55 : decode cX6_see 55 = .ok (.iconst 1, 1) := by decide +kernel
theorem dX6_see_56 : decode cX6_see 56 = .ok (.iadd, 1) := by decide +kernel
theorem dX6_see_57 : decode cX6_see 57 = .ok (.iload_n 2, 1) := by decide +kernel
theorem dX6_see_58 : decode cX6_see 58 = .ok (.iastore, 1) := by decide +kernel
theorem dX6_see_59 : decode cX6_see 59 = .ok (.aload_n 0, 1) := by decide +kernel
theorem dX6_see_60 : decode cX6_see 60 = .ok (.dup, 1) := by decide +kernel
theorem dX6_see_61 : decode cX6_see 61 = .ok (.getfield 116, 3) := by decide +kernel
theorem dX6_see_64 : decode cX6_see 64 = .ok (.iconst 1, 1) := by decide +kernel
theorem dX6_see_65 : decode cX6_see 65 = .ok (.iadd, 1) := by decide +kernel
theorem dX6_see_66 : decode cX6_see 66 = .ok (.putfield 116, 3) := by decide +kernel
theorem dX6_see_69 : decode cX6_see 69 = .ok (.aload_n 0, 1) := by decide +kernel
theorem dX6_see_70 : decode cX6_see 70 = .ok (.getfield 116, 3) := by decide +kernel
theorem dX6_see_73 : decode cX6_see 73 = .ok (.ireturn, 1) := by decide +kernel
set_option maxRecDepth 20000 in
theorem ggX6_forget_X6_in : GoodIn wsX6_forget wsX6_in := goodIn_r _ [5] (by decide +kernel) (by decide +kernel)
set_option maxRecDepth 20000 in
theorem gX6_forget_X6_in : GoodIn wsX6_forget (va_wsS RX6 50 yX6_in wsX6_in) := goodIn_app (goodIn_of _ (by decide +kernel)) ggX6_forget_X6_in
theorem dX6_forget_0 : decode cX6_forget 0 = .ok (.iload_n 1, 1) := by decide +kernel
theorem dX6_forget_1 : decode cX6_forget 1 = .ok (.i2l, 1) := by decide +kernel
theorem dX6_forget_2 : decode cX6_forget 2 = .ok (.lconst 0, 1) := by decide +kernel
theorem dX6_forget_3 : decode cX6_forget 3 = .ok (.aload_n 0, 1) := by decide +kernel
theorem dX6_forget_4 : decode cX6_forget 4 = .ok (.getfield 116, 3) := by decide +kernel
theorem dX6_forget_7 : decode cX6_forget 7 = .ok (.i2l, 1) := by decide +kernel
theorem dX6_forget_8 : decode cX6_forget 8 = .ok (.invokestatic 50, 3) := by decide +kernel
theorem dX6_forget_11 : decode cX6_forget 11 = .ok (.ifCond .ne 5, 3) := by decide +kernel
theorem dX6_forget_14 : decode cX6_forget 14 = .ok (.iconst (-1), 1) := by decide +kernel
theorem dX6_forget_15 : decode cX6_forget 15 = .ok (.ireturn, 1) := by decide +kernel
theorem dX6_forget_16 : decode cX6_forget 16 = .ok (.aload_n 0, 1) := by decide +kernel
theorem dX6_forget_17 : decode cX6_forget 17 = .ok (.getfield 116, 3) := by decide +kernel
theorem dX6_forget_20 : decode cX6_forget 20 = .ok (.istore_n 2, 1) := by decide +kernel
theorem dX6_forget_21 : decode cX6_forget 21 = .ok (.aload_n 0, 1) := by decide +kernel
theorem dX6_forget_22 : decode cX6_forget 22 = .ok (.iload_n 1, 1) := by decide +kernel
theorem dX6_forget_23 : decode cX6_forget 23 = .ok (.putfield 116, 3) := by decide +kernel
theorem dX6_forget_26 : decode cX6_forget 26 = .ok (.iload_n 2, 1) := by decide +kernel
theorem dX6_forget_27 : decode cX6_forget 27 = .ok (.ireturn, 1) := by decide +kernel
set_option maxRecDepth 20000 in
theorem ggX6_isAsSeen_X6_copies : GoodIn wsX6_isAsSeen wsX6_copies := goodIn_r _ [8, 9, 53, 54, 55, 56, 57, 58, 59, 60, 61, 62, 63, 64, 65, 66, 67, 68, 69, 70, 71, 72, 73, 74, 75, 76, 77, 78] (by decide +kernel) (by decide +kernel)
set_option maxRecDepth 20000 in
theorem gX6_isAsSeen_X6_copies : GoodIn wsX6_isAsSeen (wsV RX6 188 RX6 yX6_copies wsX6_copies) := goodIn_app (goodIn_of _ (by decide +kernel)) ggX6_isAsSeen_X6_copies
set_option maxRecDepth 20000 in
theorem ggX6_isAsSeen_X6_pointOn : GoodIn wsX6_isAsSeen wsX6_pointOn := goodIn_r _ [13, 9, 53, 54, 55, 56, 57, 58, 59, 60, 61, 62, 63, 64, 65, 66, 67, 68, 69, 70, 71, 72, 73, 74, 75, 76, 77, 78] (by decide +kernel) (by decide +kernel)
set_option maxRecDepth 20000 in
theorem gX6_isAsSeen_X6_pointOn : GoodIn wsX6_isAsSeen (wsV RX6 124 RX6 yX6_pointOn wsX6_pointOn) := goodIn_app (goodIn_of _ (by decide +kernel)) ggX6_isAsSeen_X6_pointOn
set_option maxRecDepth 20000 in
theorem ggX6_isAsSeen_X6_yearOn : GoodIn wsX6_isAsSeen wsX6_yearOn := goodIn_r _ [17, 9, 18, 19, 20, 7, 21, 22, 23, 24, 25, 26, 27, 28, 29, 10, 11, 12, 13, 30, 31, 32, 33, 34, 35, 36, 37, 38, 39, 40, 41, 42, 43, 44, 45, 46, 47, 48, 49, 50, 51, 52, 53, 54, 55, 56, 57, 58, 59, 60, 61, 62, 63, 64, 65, 66, 67, 68, 69, 70, 71, 72, 73, 74, 75, 76, 77, 78] (by decide +kernel) (by decide +kernel)
set_option maxRecDepth 20000 in
theorem gX6_isAsSeen_X6_yearOn : GoodIn wsX6_isAsSeen (wsV RX6 185 RX6 yX6_yearOn wsX6_yearOn) := goodIn_app (goodIn_of _ (by decide +kernel)) ggX6_isAsSeen_X6_yearOn
theorem dX6_isAsSeen_0 : decode cX6_isAsSeen 0 = .ok (.aload_n 0, 1) := by decide +kernel
theorem dX6_isAsSeen_1 : decode cX6_isAsSeen 1 = .ok (.iconst 0, 1) := by decide +kernel
theorem dX6_isAsSeen_2 : decode cX6_isAsSeen 2 = .ok (.bipush 104, 2) := by decide +kernel
theorem dX6_isAsSeen_4 : decode cX6_isAsSeen 4 = .ok (.invokevirtual 188, 3) := by decide +kernel
theorem dX6_isAsSeen_7 : decode cX6_isAsSeen 7 = .ok (.iconst 1, 1) := by decide +kernel
theorem dX6_isAsSeen_8 : decode cX6_isAsSeen 8 = .ok (.istore_n 2, 1) := by decide +kernel
theorem dX6_isAsSeen_9 : decode cX6_isAsSeen 9 = .ok (.iconst 0, 1) := by decide +kernel
theorem dX6_isAsSeen_10 : decode cX6_isAsSeen 10 = .ok (.istore_n 3, 1) := by decide +kernel
theorem dX6_isAsSeen_11 : decode cX6_isAsSeen 11 = .ok (.iload_n 3, 1) := by decide +kernel
theorem dX6_isAsSeen_12 : decode cX6_isAsSeen 12 = .ok (.bipush 30, 2) := by decide +kernel
theorem dX6_isAsSeen_14 : decode cX6_isAsSeen 14 = .ok (.if_icmp .gt 93, 3) := by decide +kernel
theorem dX6_isAsSeen_17 : decode cX6_isAsSeen 17 = .ok (.aload_n 0, 1) := by decide +kernel
theorem dX6_isAsSeen_18 : decode cX6_isAsSeen 18 = .ok (.getfield 32, 3) := by decide +kernel
theorem dX6_isAsSeen_21 : decode cX6_isAsSeen 21 = .ok (.bipush 31, 2) := by decide +kernel
theorem dX6_isAsSeen_23 : decode cX6_isAsSeen 23 = .ok (.iload_n 1, 1) := by decide +kernel
theorem dX6_isAsSeen_24 : decode cX6_isAsSeen 24 = .ok (.imul, 1) := by decide +kernel
theorem dX6_isAsSeen_25 : decode cX6_isAsSeen 25 = .ok (.iload_n 3, 1) := by decide +kernel
theorem dX6_isAsSeen_26 : decode cX6_isAsSeen 26 = .ok (.iadd, 1) := by decide +kernel
theorem dX6_isAsSeen_27 : decode cX6_isAsSeen 27 = .ok (.aload_n 0, 1) := by decide +kernel
theorem dX6_isAsSeen_28 : decode cX6_isAsSeen 28 = .ok (.bipush 104, 2) := by decide +kernel
theorem dX6_isAsSeen_30 : decode cX6_isAsSeen 30 = .ok (.invokevirtual 124, 3) := by decide +kernel
theorem dX6_isAsSeen_33 : decode cX6_isAsSeen 33 = .ok (.iastore, 1) := by decide +kernel
theorem dX6_isAsSeen_34 : decode cX6_isAsSeen 34 = .ok (.iconst 0, 1) := by decide +kernel
theorem dX6_isAsSeen_35 : decode cX6_isAsSeen 35 = .ok (.istore 4, 2) := by decide +kernel
theorem dX6_isAsSeen_37 : decode cX6_isAsSeen 37 = .ok (.iload 4, 2) := by decide +kernel
theorem dX6_isAsSeen_39 : decode cX6_isAsSeen 39 = .ok (.aload_n 0, 1) := by decide +kernel
theorem dX6_isAsSeen_40 : decode cX6_isAsSeen 40 = .ok (.getfield 116, 3) := by decide +kernel
theorem dX6_isAsSeen_43 : decode cX6_isAsSeen 43 = .ok (.if_icmp .ge 52, 3) := by decide +kernel
theorem dX6_isAsSeen_46 : decode cX6_isAsSeen 46 = .ok (.iload_n 2, 1) := by decide +kernel
theorem dX6_isAsSeen_47 : decode cX6_isAsSeen 47 = .ok (.ifCond .eq 40, 3) := by decide +kernel
theorem dX6_isAsSeen_50 : decode cX6_isAsSeen 50 = .ok (.aload_n 0, 1) := by decide +kernel
theorem dX6_isAsSeen_51 : decode cX6_isAsSeen 51 = .ok (.getfield 29, 3) := by decide +kernel
theorem dX6_isAsSeen_54 : decode cX6_isAsSeen 54 = .ok (.iconst 2, 1) := by decide +kernel
theorem dX6_isAsSeen_55 : decode cX6_isAsSeen 55 = .ok (.iload 4, 2) := by decide +kernel
theorem dX6_isAsSeen_57 : decode cX6_isAsSeen 57 = .ok (.imul, 1) := by decide +kernel
theorem dX6_isAsSeen_58 : decode cX6_isAsSeen 58 = .ok (.iaload, 1) := by decide +kernel
theorem dX6_isAsSeen_59 : decode cX6_isAsSeen 59 = .ok (.iload_n 3, 1) := by decide +kernel
theorem dX6_isAsSeen_60 : decode cX6_isAsSeen 60 = .ok (.if_icmp .ne 23, 3) := by decide +kernel
theorem dX6_isAsSeen_63 : decode cX6_isAsSeen 63 = .ok (.aload_n 0, 1) := by decide +kernel
theorem dX6_isAsSeen_64 : decode cX6_isAsSeen 64 = .ok (.bipush 104, 2) := by decide +kernel
theorem dX6_isAsSeen_66 : decode cX6_isAsSeen 66 = .ok (.invokevirtual 124, 3) := by decide +kernel
theorem dX6_isAsSeen_69 : decode cX6_isAsSeen 69 = .ok (.aload_n 0, 1) := by decide +kernel
theorem dX6_isAsSeen_70 : decode cX6_isAsSeen 70 = .ok (.getfield 29, 3) := by decide +kernel
theorem dX6_isAsSeen_73 : decode cX6_isAsSeen 73 = .ok (.iconst 2, 1) := by decide +kernel
theorem dX6_isAsSeen_74 : decode cX6_isAsSeen 74 = .ok (.iload 4, 2) := by decide +kernel
theorem dX6_isAsSeen_76 : decode cX6_isAsSeen 76 = .ok (.imul, 1) := by decide +kernel
theorem dX6_isAsSeen_77 : decode cX6_isAsSeen 77 = .ok (.iconst 1, 1) := by decide +kernel
theorem dX6_isAsSeen_78 : decode cX6_isAsSeen 78 = .ok (.iadd, 1) := by decide +kernel
theorem dX6_isAsSeen_79 : decode cX6_isAsSeen 79 = .ok (.iaload, 1) := by decide +kernel
theorem dX6_isAsSeen_80 : decode cX6_isAsSeen 80 = .ok (.if_icmp .ne 7, 3) := by decide +kernel
theorem dX6_isAsSeen_83 : decode cX6_isAsSeen 83 = .ok (.iconst 1, 1) := by decide +kernel
theorem dX6_isAsSeen_84 : decode cX6_isAsSeen 84 = .ok (.goto 4, 3) := by decide +kernel
theorem dX6_isAsSeen_87 : decode cX6_isAsSeen 87 = .ok (.iconst 0, 1) := by decide +kernel
theorem dX6_isAsSeen_88 : decode cX6_isAsSeen 88 = .ok (.istore_n 2, 1) := by decide +kernel
theorem dX6_isAsSeen_89 : decode cX6_isAsSeen 89 = .ok (.iinc 4 1, 3) := by decide +kernel
theorem dX6_isAsSeen_92 : decode cX6_isAsSeen 92 = .ok (.goto (-55), 3) := by decide +kernel
theorem dX6_isAsSeen_95 : decode cX6_isAsSeen 95 = .ok (.aload_n 0, 1) := by decide +kernel
theorem dX6_isAsSeen_96 : decode cX6_isAsSeen 96 = .ok (.bipush 104, 2) := by decide +kernel
theorem dX6_isAsSeen_98 : decode cX6_isAsSeen 98 = .ok (.invokevirtual 185, 3) := by decide +kernel
theorem dX6_isAsSeen_101 : decode cX6_isAsSeen 101 = .ok (.iinc 3 1, 3) := by decide +kernel
theorem dX6_isAsSeen_104 : decode cX6_isAsSeen 104 = .ok (.goto (-93), 3) := by decide +kernel
theorem dX6_isAsSeen_107 : decode cX6_isAsSeen 107 = .ok (.iload_n 2, 1) := by decide +kernel
theorem dX6_isAsSeen_108 : decode cX6_isAsSeen 108 = .ok (.ireturn, 1) := by decide +kernel
set_option maxRecDepth 20000 in
theorem ggX6_kinds_X6_isDraw : GoodIn wsX6_kinds wsX6_isDraw := goodIn_r _ [6, 1, 7, 8, 5, 9, 64, 65, 66, 67, 68, 69, 70, 71, 72, 73, 74, 75, 76, 77, 78, 79, 80, 81, 82, 83, 84, 85, 86, 87, 88, 89] (by decide +kernel) (by decide +kernel)
set_option maxRecDepth 20000 in
theorem gX6_kinds_X6_isDraw : GoodIn wsX6_kinds (wsV RX6 153 RX6 yX6_isDraw wsX6_isDraw) := goodIn_app (goodIn_of _ (by decide +kernel)) ggX6_kinds_X6_isDraw
set_option maxRecDepth 20000 in
theorem ggX6_kinds_X6_isAsSeen : GoodIn wsX6_kinds wsX6_isAsSeen := goodIn_r _ [13, 14, 15, 16, 17, 18, 19, 5, 20, 1, 21, 22, 23, 24, 25, 26, 27, 28, 29, 30, 31, 32, 33, 34, 35, 36, 37, 38, 39, 40, 41, 42, 43, 44, 45, 46, 47, 48, 49, 50, 51, 52, 53, 54, 55, 56, 57, 58, 59, 60, 61, 62, 63, 64, 65, 66, 67, 68, 69, 70, 71, 72, 73, 74, 75, 76, 77, 78, 79, 80, 81, 82, 83, 84, 85, 86, 87, 88, 89] (by decide +kernel) (by decide +kernel)
set_option maxRecDepth 20000 in
theorem gX6_kinds_X6_isAsSeen : GoodIn wsX6_kinds (wsV RX6 225 RX6 yX6_isAsSeen wsX6_isAsSeen) := goodIn_app (goodIn_of _ (by decide +kernel)) ggX6_kinds_X6_isAsSeen
theorem dX6_kinds_0 : decode cX6_kinds 0 = .ok (.aload_n 0, 1) := by decide +kernel
theorem dX6_kinds_1 : decode cX6_kinds 1 = .ok (.iload_n 1, 1) := by decide +kernel
theorem dX6_kinds_2 : decode cX6_kinds 2 = .ok (.invokevirtual 153, 3) := by decide +kernel
theorem dX6_kinds_5 : decode cX6_kinds 5 = .ok (.ifCond .ne 5, 3) := by decide +kernel
theorem dX6_kinds_8 : decode cX6_kinds 8 = .ok (.iconst (-1), 1) := by decide +kernel
theorem dX6_kinds_9 : decode cX6_kinds 9 = .ok (.ireturn, 1) := by decide +kernel
theorem dX6_kinds_10 : decode cX6_kinds 10 = .ok (.aload_n 0, 1) := by decide +kernel
theorem dX6_kinds_11 : decode cX6_kinds 11 = .ok (.getfield 7, 3) := by decide +kernel
theorem dX6_kinds_14 : decode cX6_kinds 14 = .ok (.iload_n 1, 1) := by decide +kernel
theorem dX6_kinds_15 : decode cX6_kinds 15 = .ok (.iaload, 1) := by decide +kernel
theorem dX6_kinds_16 : decode cX6_kinds 16 = .ok (.istore_n 2, 1) := by decide +kernel
theorem dX6_kinds_17 : decode cX6_kinds 17 = .ok (.iconst 0, 1) := by decide +kernel
theorem dX6_kinds_18 : decode cX6_kinds 18 = .ok (.istore_n 3, 1) := by decide +kernel
theorem dX6_kinds_19 : decode cX6_kinds 19 = .ok (.iconst 0, 1) := by decide +kernel
theorem dX6_kinds_20 : decode cX6_kinds 20 = .ok (.istore 4, 2) := by decide +kernel
theorem dX6_kinds_22 : decode cX6_kinds 22 = .ok (.iload 4, 2) := by decide +kernel
theorem dX6_kinds_24 : decode cX6_kinds 24 = .ok (.iconst 4, 1) := by decide +kernel
theorem dX6_kinds_25 : decode cX6_kinds 25 = .ok (.if_icmp .ge 36, 3) := by decide +kernel
theorem dX6_kinds_28 : decode cX6_kinds 28 = .ok (.aload_n 0, 1) := by decide +kernel
theorem dX6_kinds_29 : decode cX6_kinds 29 = .ok (.getfield 7, 3) := by decide +kernel
theorem dX6_kinds_32 : decode cX6_kinds 32 = .ok (.iload_n 1, 1) := by decide +kernel
theorem dX6_kinds_33 : decode cX6_kinds 33 = .ok (.iload 4, 2) := by decide +kernel
theorem dX6_kinds_35 : decode cX6_kinds 35 = .ok (.iastore, 1) := by decide +kernel
theorem dX6_kinds_36 : decode cX6_kinds 36 = .ok (.iload_n 3, 1) := by decide +kernel
theorem dX6_kinds_37 : decode cX6_kinds 37 = .ok (.aload_n 0, 1) := by decide +kernel
theorem dX6_kinds_38 : decode cX6_kinds 38 = .ok (.iconst 0, 1) := by decide +kernel
theorem dX6_kinds_39 : decode cX6_kinds 39 = .ok (.invokevirtual 225, 3) := by decide +kernel
theorem dX6_kinds_42 : decode cX6_kinds 42 = .ok (.ifCond .eq 10, 3) := by decide +kernel
theorem dX6_kinds_45 : decode cX6_kinds 45 = .ok (.iconst 1, 1) := by decide +kernel
theorem dX6_kinds_46 : decode cX6_kinds 46 = .ok (.iload 4, 2) := by decide +kernel
theorem dX6_kinds_48 : decode cX6_kinds 48 = .ok (.ishl, 1) := by decide +kernel
theorem dX6_kinds_49 : decode cX6_kinds 49 = .ok (.goto 4, 3) := by decide +kernel
theorem dX6_kinds_52 : decode cX6_kinds 52 = .ok (.iconst 0, 1) := by decide +kernel
theorem dX6_kinds_53 : decode cX6_kinds 53 = .ok (.ior, 1) := by decide +kernel
theorem dX6_kinds_54 : decode cX6_kinds 54 = .ok (.istore_n 3, 1) := by decide +kernel
theorem dX6_kinds_55 : decode cX6_kinds 55 = .ok (.iinc 4 1, 3) := by decide +kernel
theorem dX6_kinds_58 : decode cX6_kinds 58 = .ok (.goto (-36), 3) := by decide +kernel
theorem dX6_kinds_61 : decode cX6_kinds 61 = .ok (.aload_n 0, 1) := by decide +kernel
theorem dX6_kinds_62 : decode cX6_kinds 62 = .ok (.getfield 7, 3) := by decide +kernel
theorem dX6_kinds_65 : decode cX6_kinds 65 = .ok (.iload_n 1, 1) := by decide +kernel
theorem dX6_kinds_66 : decode cX6_kinds 66 = .ok (.iload_n 2, 1) := by decide +kernel
theorem dX6_kinds_67 : decode cX6_kinds 67 = .ok (.iastore, 1) := by decide +kernel
theorem dX6_kinds_68 : decode cX6_kinds 68 = .ok (.iload_n 3, 1) := by decide +kernel
theorem dX6_kinds_69 : decode cX6_kinds 69 = .ok (.ireturn, 1) := by decide +kernel
set_option maxRecDepth 20000 in
theorem ggX6_pullsOf_X6_isAsSeen : GoodIn wsX6_pullsOf wsX6_isAsSeen := goodIn_r _ [6, 7, 8, 9, 10, 11, 12, 5, 13, 1, 14, 15, 16, 17, 18, 19, 20, 21, 22, 23, 24, 25, 26, 27, 28, 29, 30, 31, 32, 33, 34, 35, 36, 37, 38, 39, 40, 41, 42, 43, 44, 45, 46, 47, 48, 49, 50, 51, 52, 53, 54, 55, 56, 57, 58, 59, 60, 61, 62, 63, 64, 65, 66, 67, 68, 69, 70, 71, 72, 73, 74, 75, 76, 77, 78, 79, 80, 81, 82] (by decide +kernel) (by decide +kernel)
set_option maxRecDepth 20000 in
theorem gX6_pullsOf_X6_isAsSeen : GoodIn wsX6_pullsOf (wsV RX6 225 RX6 yX6_isAsSeen wsX6_isAsSeen) := goodIn_app (goodIn_of _ (by decide +kernel)) ggX6_pullsOf_X6_isAsSeen
theorem dX6_pullsOf_0 : decode cX6_pullsOf 0 = .ok (.aload_n 0, 1) := by decide +kernel
theorem dX6_pullsOf_1 : decode cX6_pullsOf 1 = .ok (.getfield 7, 3) := by decide +kernel
theorem dX6_pullsOf_4 : decode cX6_pullsOf 4 = .ok (.iconst 5, 1) := by decide +kernel
theorem dX6_pullsOf_5 : decode cX6_pullsOf 5 = .ok (.iload_n 1, 1) := by decide +kernel
theorem dX6_pullsOf_6 : decode cX6_pullsOf 6 = .ok (.iadd, 1) := by decide +kernel
theorem dX6_pullsOf_7 : decode cX6_pullsOf 7 = .ok (.iaload, 1) := by decide +kernel
theorem dX6_pullsOf_8 : decode cX6_pullsOf 8 = .ok (.istore_n 2, 1) := by decide +kernel
theorem dX6_pullsOf_9 : decode cX6_pullsOf 9 = .ok (.iconst 0, 1) := by decide +kernel
theorem dX6_pullsOf_10 : decode cX6_pullsOf 10 = .ok (.istore_n 3, 1) := by decide +kernel
theorem dX6_pullsOf_11 : decode cX6_pullsOf 11 = .ok (.iconst 1, 1) := by decide +kernel
theorem dX6_pullsOf_12 : decode cX6_pullsOf 12 = .ok (.istore 4, 2) := by decide +kernel
theorem dX6_pullsOf_14 : decode cX6_pullsOf 14 = .ok (.iload 4, 2) := by decide +kernel
theorem dX6_pullsOf_16 : decode cX6_pullsOf 16 = .ok (.bipush 20, 2) := by decide +kernel
theorem dX6_pullsOf_18 : decode cX6_pullsOf 18 = .ok (.if_icmp .gt 39, 3) := by decide +kernel
theorem dX6_pullsOf_21 : decode cX6_pullsOf 21 = .ok (.aload_n 0, 1) := by decide +kernel
theorem dX6_pullsOf_22 : decode cX6_pullsOf 22 = .ok (.getfield 7, 3) := by decide +kernel
theorem dX6_pullsOf_25 : decode cX6_pullsOf 25 = .ok (.iconst 5, 1) := by decide +kernel
theorem dX6_pullsOf_26 : decode cX6_pullsOf 26 = .ok (.iload_n 1, 1) := by decide +kernel
theorem dX6_pullsOf_27 : decode cX6_pullsOf 27 = .ok (.iadd, 1) := by decide +kernel
theorem dX6_pullsOf_28 : decode cX6_pullsOf 28 = .ok (.iload 4, 2) := by decide +kernel
theorem dX6_pullsOf_30 : decode cX6_pullsOf 30 = .ok (.iastore, 1) := by decide +kernel
theorem dX6_pullsOf_31 : decode cX6_pullsOf 31 = .ok (.iload_n 3, 1) := by decide +kernel
theorem dX6_pullsOf_32 : decode cX6_pullsOf 32 = .ok (.aload_n 0, 1) := by decide +kernel
theorem dX6_pullsOf_33 : decode cX6_pullsOf 33 = .ok (.iload 4, 2) := by decide +kernel
theorem dX6_pullsOf_35 : decode cX6_pullsOf 35 = .ok (.invokevirtual 225, 3) := by decide +kernel
theorem dX6_pullsOf_38 : decode cX6_pullsOf 38 = .ok (.ifCond .eq 10, 3) := by decide +kernel
theorem dX6_pullsOf_41 : decode cX6_pullsOf 41 = .ok (.iconst 1, 1) := by decide +kernel
theorem dX6_pullsOf_42 : decode cX6_pullsOf 42 = .ok (.iload 4, 2) := by decide +kernel
theorem dX6_pullsOf_44 : decode cX6_pullsOf 44 = .ok (.ishl, 1) := by decide +kernel
theorem dX6_pullsOf_45 : decode cX6_pullsOf 45 = .ok (.goto 4, 3) := by decide +kernel
theorem dX6_pullsOf_48 : decode cX6_pullsOf 48 = .ok (.iconst 0, 1) := by decide +kernel
theorem dX6_pullsOf_49 : decode cX6_pullsOf 49 = .ok (.ior, 1) := by decide +kernel
theorem dX6_pullsOf_50 : decode cX6_pullsOf 50 = .ok (.istore_n 3, 1) := by decide +kernel
theorem dX6_pullsOf_51 : decode cX6_pullsOf 51 = .ok (.iinc 4 1, 3) := by decide +kernel
theorem dX6_pullsOf_54 : decode cX6_pullsOf 54 = .ok (.goto (-40), 3) := by decide +kernel
theorem dX6_pullsOf_57 : decode cX6_pullsOf 57 = .ok (.aload_n 0, 1) := by decide +kernel
theorem dX6_pullsOf_58 : decode cX6_pullsOf 58 = .ok (.getfield 7, 3) := by decide +kernel
theorem dX6_pullsOf_61 : decode cX6_pullsOf 61 = .ok (.iconst 5, 1) := by decide +kernel
theorem dX6_pullsOf_62 : decode cX6_pullsOf 62 = .ok (.iload_n 1, 1) := by decide +kernel
theorem dX6_pullsOf_63 : decode cX6_pullsOf 63 = .ok (.iadd, 1) := by decide +kernel
theorem dX6_pullsOf_64 : decode cX6_pullsOf 64 = .ok (.iload_n 2, 1) := by decide +kernel
theorem dX6_pullsOf_65 : decode cX6_pullsOf 65 = .ok (.iastore, 1) := by decide +kernel
theorem dX6_pullsOf_66 : decode cX6_pullsOf 66 = .ok (.iload_n 3, 1) := by decide +kernel
theorem dX6_pullsOf_67 : decode cX6_pullsOf 67 = .ok (.ireturn, 1) := by decide +kernel
set_option maxRecDepth 20000 in
theorem ggX6_pulls_X6_isDraw : GoodIn wsX6_pulls wsX6_isDraw := goodIn_r _ [5, 6, 7, 8, 4, 9, 68, 69, 70, 71, 72, 73, 74, 75, 76, 77, 78, 79, 80, 81, 82, 83, 84, 85, 86, 87, 88, 89, 90, 91, 92, 93] (by decide +kernel) (by decide +kernel)
set_option maxRecDepth 20000 in
theorem gX6_pulls_X6_isDraw : GoodIn wsX6_pulls (wsV RX6 153 RX6 yX6_isDraw wsX6_isDraw) := goodIn_app (goodIn_of _ (by decide +kernel)) ggX6_pulls_X6_isDraw
set_option maxRecDepth 20000 in
theorem ggX6_pulls_X6_pullsOf : GoodIn wsX6_pulls wsX6_pullsOf := goodIn_r _ [13, 6, 14, 15, 16, 4, 17, 18, 19, 20, 21, 22, 23, 24, 25, 26, 27, 28, 29, 30, 31, 32, 33, 34, 35, 36, 37, 38, 39, 40, 41, 42, 43, 44, 45, 46, 47, 48, 49, 50, 51, 52, 53, 54, 55, 56, 57, 58, 59, 60, 61, 62, 63, 64, 65, 66, 67, 68, 69, 70, 71, 72, 73, 74, 75, 76, 77, 78, 79, 80, 81, 82, 83, 84, 85, 86, 87, 88, 89, 90, 91, 92, 93] (by decide +kernel) (by decide +kernel)
set_option maxRecDepth 20000 in
theorem gX6_pulls_X6_pullsOf : GoodIn wsX6_pulls (wsV RX6 228 RX6 yX6_pullsOf wsX6_pullsOf) := goodIn_app (goodIn_of _ (by decide +kernel)) ggX6_pulls_X6_pullsOf
theorem dX6_pulls_0 : decode cX6_pulls 0 = .ok (.aload_n 0, 1) := by decide +kernel
theorem dX6_pulls_1 : decode cX6_pulls 1 = .ok (.iload_n 1, 1) := by decide +kernel
theorem dX6_pulls_2 : decode cX6_pulls 2 = .ok (.invokevirtual 153, 3) := by decide +kernel
theorem dX6_pulls_5 : decode cX6_pulls 5 = .ok (.ifCond .eq 11, 3) := by decide +kernel
theorem dX6_pulls_8 : decode cX6_pulls 8 = .ok (.aload_n 0, 1) := by decide +kernel
theorem dX6_pulls_9 : decode cX6_pulls 9 = .ok (.iload_n 1, 1) := by decide +kernel
theorem dX6_pulls_10 : decode cX6_pulls 10 = .ok (.invokevirtual 228, 3) := by decide +kernel
theorem dX6_pulls_13 : decode cX6_pulls 13 = .ok (.goto 4, 3) := by decide +kernel
theorem dX6_pulls_16 : decode cX6_pulls 16 = .ok (.iconst (-1), 1) := by decide +kernel
theorem dX6_pulls_17 : decode cX6_pulls 17 = .ok (.ireturn, 1) := by decide +kernel
set_option maxRecDepth 20000 in
theorem ggX6_spots_X6_isDraw : GoodIn wsX6_spots wsX6_isDraw := goodIn_r _ [6, 1, 7, 8, 5, 9, 64, 65, 66, 67, 68, 69, 70, 71, 72, 73, 74, 75, 76, 77, 78, 79, 80, 81, 82, 83, 84, 85, 86, 87, 88, 89] (by decide +kernel) (by decide +kernel)
set_option maxRecDepth 20000 in
theorem gX6_spots_X6_isDraw : GoodIn wsX6_spots (wsV RX6 153 RX6 yX6_isDraw wsX6_isDraw) := goodIn_app (goodIn_of _ (by decide +kernel)) ggX6_spots_X6_isDraw
set_option maxRecDepth 20000 in
theorem ggX6_spots_X6_in : GoodIn wsX6_spots wsX6_in := goodIn_r _ [9] (by decide +kernel) (by decide +kernel)
set_option maxRecDepth 20000 in
theorem gX6_spots_X6_in : GoodIn wsX6_spots (va_wsS RX6 50 yX6_in wsX6_in) := goodIn_app (goodIn_of _ (by decide +kernel)) ggX6_spots_X6_in
set_option maxRecDepth 20000 in
theorem ggX6_spots_X6_isAsSeen : GoodIn wsX6_spots wsX6_isAsSeen := goodIn_r _ [13, 14, 15, 16, 17, 18, 19, 5, 20, 1, 21, 22, 23, 24, 25, 26, 27, 28, 29, 30, 31, 32, 33, 34, 35, 36, 37, 38, 39, 40, 41, 42, 43, 44, 45, 46, 47, 48, 49, 50, 51, 52, 53, 54, 55, 56, 57, 58, 59, 60, 61, 62, 63, 64, 65, 66, 67, 68, 69, 70, 71, 72, 73, 74, 75, 76, 77, 78, 79, 80, 81, 82, 83, 84, 85, 86, 87, 88, 89] (by decide +kernel) (by decide +kernel)
set_option maxRecDepth 20000 in
theorem gX6_spots_X6_isAsSeen : GoodIn wsX6_spots (wsV RX6 225 RX6 yX6_isAsSeen wsX6_isAsSeen) := goodIn_app (goodIn_of _ (by decide +kernel)) ggX6_spots_X6_isAsSeen
theorem dX6_spots_0 : decode cX6_spots 0 = .ok (.aload_n 0, 1) := by decide +kernel
theorem dX6_spots_1 : decode cX6_spots 1 = .ok (.iload_n 1, 1) := by decide +kernel
theorem dX6_spots_2 : decode cX6_spots 2 = .ok (.invokevirtual 153, 3) := by decide +kernel
theorem dX6_spots_5 : decode cX6_spots 5 = .ok (.ifCond .eq 13, 3) := by decide +kernel
theorem dX6_spots_8 : decode cX6_spots 8 = .ok (.iload_n 2, 1) := by decide +kernel
theorem dX6_spots_9 : decode cX6_spots 9 = .ok (.i2l, 1) := by decide +kernel
theorem dX6_spots_10 : decode cX6_spots 10 = .ok (.lconst 0, 1) := by decide +kernel
theorem dX6_spots_11 : decode cX6_spots 11 = .ok (.lconst 1, 1) := by decide +kernel
theorem dX6_spots_12 : decode cX6_spots 12 = .ok (.invokestatic 50, 3) := by decide +kernel
theorem dX6_spots_15 : decode cX6_spots 15 = .ok (.ifCond .ne 5, 3) := by decide +kernel
theorem dX6_spots_18 : decode cX6_spots 18 = .ok (.iconst (-1), 1) := by decide +kernel
theorem dX6_spots_19 : decode cX6_spots 19 = .ok (.ireturn, 1) := by decide +kernel
theorem dX6_spots_20 : decode cX6_spots 20 = .ok (.aload_n 0, 1) := by decide +kernel
theorem dX6_spots_21 : decode cX6_spots 21 = .ok (.getfield 7, 3) := by decide +kernel
theorem dX6_spots_24 : decode cX6_spots 24 = .ok (.bipush 10, 2) := by decide +kernel
theorem dX6_spots_26 : decode cX6_spots 26 = .ok (.iload_n 1, 1) := by decide +kernel
theorem dX6_spots_27 : decode cX6_spots 27 = .ok (.iadd, 1) := by decide +kernel
theorem dX6_spots_28 : decode cX6_spots 28 = .ok (.iaload, 1) := by decide +kernel
theorem dX6_spots_29 : decode cX6_spots 29 = .ok (.istore_n 3, 1) := by decide +kernel
theorem dX6_spots_30 : decode cX6_spots 30 = .ok (.iconst 0, 1) := by decide +kernel
theorem dX6_spots_31 : decode cX6_spots 31 = .ok (.istore 4, 2) := by decide +kernel
theorem dX6_spots_33 : decode cX6_spots 33 = .ok (.bipush (-4), 2) := by decide +kernel
theorem dX6_spots_35 : decode cX6_spots 35 = .ok (.istore 5, 2) := by decide +kernel
theorem dX6_spots_37 : decode cX6_spots 37 = .ok (.iconst 0, 1) := by decide +kernel
theorem dX6_spots_38 : decode cX6_spots 38 = .ok (.istore 6, 2) := by decide +kernel
theorem dX6_spots_40 : decode cX6_spots 40 = .ok (.iload 6, 2) := by decide +kernel
theorem dX6_spots_42 : decode cX6_spots 42 = .ok (.bipush 100, 2) := by decide +kernel
theorem dX6_spots_44 : decode cX6_spots 44 = .ok (.if_icmp .ge 61, 3) := by decide +kernel
theorem dX6_spots_47 : decode cX6_spots 47 = .ok (.aload_n 0, 1) := by decide +kernel
theorem dX6_spots_48 : decode cX6_spots 48 = .ok (.getfield 7, 3) := by decide +kernel
theorem dX6_spots_51 : decode cX6_spots 51 = .ok (.bipush 10, 2) := by decide +kernel
theorem dX6_spots_53 : decode cX6_spots 53 = .ok (.iload_n 1, 1) := by decide +kernel
theorem dX6_spots_54 : decode cX6_spots 54 = .ok (.iadd, 1) := by decide +kernel
theorem dX6_spots_55 : decode cX6_spots 55 = .ok (.iload 6, 2) := by decide +kernel
theorem dX6_spots_57 : decode cX6_spots 57 = .ok (.iastore, 1) := by decide +kernel
theorem dX6_spots_58 : decode cX6_spots 58 = .ok (.aload_n 0, 1) := by decide +kernel
theorem dX6_spots_59 : decode cX6_spots 59 = .ok (.iconst 0, 1) := by decide +kernel
theorem dX6_spots_60 : decode cX6_spots 60 = .ok (.invokevirtual 225, 3) := by decide +kernel
theorem dX6_spots_63 : decode cX6_spots 63 = .ok (.istore 7, 2) := by decide +kernel
theorem dX6_spots_65 : decode cX6_spots 65 = .ok (.iload 7, 2) := by decide +kernel
theorem dX6_spots_67 : decode cX6_spots 67 = .ok (.ifCond .eq 13, 3) := by decide +kernel
theorem dX6_spots_70 : decode cX6_spots 70 = .ok (.iload 4, 2) := by decide +kernel
theorem dX6_spots_72 : decode cX6_spots 72 = .ok (.ifCond .ne 8, 3) := by decide +kernel
theorem dX6_spots_75 : decode cX6_spots 75 = .ok (.iload 6, 2) := by decide +kernel
theorem dX6_spots_77 : decode cX6_spots 77 = .ok (.goto 5, 3) := by decide +kernel
theorem dX6_spots_80 : decode cX6_spots 80 = .ok (.iload 5, 2) := by decide +kernel
theorem dX6_spots_82 : decode cX6_spots 82 = .ok (.istore 5, 2) := by decide +kernel
theorem dX6_spots_84 : decode cX6_spots 84 = .ok (.iload 4, 2) := by decide +kernel
theorem dX6_spots_86 : decode cX6_spots 86 = .ok (.iload 7, 2) := by decide +kernel
theorem dX6_spots_88 : decode cX6_spots 88 = .ok (.ifCond .eq 7, 3) := by decide +kernel
theorem dX6_spots_91 : decode cX6_spots 91 = .ok (.iconst 1, 1) := by decide +kernel
theorem dX6_spots_92 : decode cX6_spots 92 = .ok (.goto 4, 3) := by decide +kernel
theorem dX6_spots_95 : decode cX6_spots 95 = .ok (.iconst 0, 1) := by decide +kernel
theorem dX6_spots_96 : decode cX6_spots 96 = .ok (.iadd, 1) := by decide +kernel
theorem dX6_spots_97 : decode cX6_spots 97 = .ok (.istore 4, 2) := by decide +kernel
theorem dX6_spots_99 : decode cX6_spots 99 = .ok (.iinc 6 1, 3) := by decide +kernel
theorem dX6_spots_102 : decode cX6_spots 102 = .ok (.goto (-62), 3) := by decide +kernel
theorem dX6_spots_105 : decode cX6_spots 105 = .ok (.aload_n 0, 1) := by decide +kernel
theorem dX6_spots_106 : decode cX6_spots 106 = .ok (.getfield 7, 3) := by decide +kernel
theorem dX6_spots_109 : decode cX6_spots 109 = .ok (.bipush 10, 2) := by decide +kernel
theorem dX6_spots_111 : decode cX6_spots 111 = .ok (.iload_n 1, 1) := by decide +kernel
theorem dX6_spots_112 : decode cX6_spots 112 = .ok (.iadd, 1) := by decide +kernel
theorem dX6_spots_113 : decode cX6_spots 113 = .ok (.iload_n 3, 1) := by decide +kernel
theorem dX6_spots_114 : decode cX6_spots 114 = .ok (.iastore, 1) := by decide +kernel
theorem dX6_spots_115 : decode cX6_spots 115 = .ok (.iload_n 2, 1) := by decide +kernel
theorem dX6_spots_116 : decode cX6_spots 116 = .ok (.ifCond .ne 8, 3) := by decide +kernel
theorem dX6_spots_119 : decode cX6_spots 119 = .ok (.iload 4, 2) := by decide +kernel
theorem dX6_spots_121 : decode cX6_spots 121 = .ok (.goto 5, 3) := by decide +kernel
theorem dX6_spots_124 : decode cX6_spots 124 = .ok (.iload 5, 2) := by decide +kernel
theorem dX6_spots_126 : decode cX6_spots 126 = .ok (.ireturn, 1) := by decide +kernel
theorem dX6_bitsOf_0 : decode cX6_bitsOf 0 = .ok (.iconst 0, 1) := by decide +kernel
theorem dX6_bitsOf_1 : decode cX6_bitsOf 1 = .ok (.istore_n 1, 1) := by decide +kernel
theorem dX6_bitsOf_2 : decode cX6_bitsOf 2 = .ok (.iload_n 0, 1) := by decide +kernel
theorem dX6_bitsOf_3 : decode cX6_bitsOf 3 = .ok (.istore_n 2, 1) := by decide +kernel
theorem dX6_bitsOf_4 : decode cX6_bitsOf 4 = .ok (.iload_n 2, 1) := by decide +kernel
theorem dX6_bitsOf_5 : decode cX6_bitsOf 5 = .ok (.ifCond .le 16, 3) := by decide +kernel
theorem dX6_bitsOf_8 : decode cX6_bitsOf 8 = .ok (.iload_n 1, 1) := by decide +kernel
theorem dX6_bitsOf_9 : decode cX6_bitsOf 9 = .ok (.iload_n 2, 1) := by decide +kernel
theorem dX6_bitsOf_10 : decode cX6_bitsOf 10 = .ok (.iconst 1, 1) := by decide +kernel
theorem dX6_bitsOf_11 : decode cX6_bitsOf 11 = .ok (.iand, 1) := by decide +kernel
theorem dX6_bitsOf_12 : decode cX6_bitsOf 12 = .ok (.iadd, 1) := by decide +kernel
theorem dX6_bitsOf_13 : decode cX6_bitsOf 13 = .ok (.istore_n 1, 1) := by decide +kernel
theorem dX6_bitsOf_14 : decode cX6_bitsOf 14 = .ok (.iload_n 2, 1) := by decide +kernel
theorem dX6_bitsOf_15 : decode cX6_bitsOf 15 = .ok (.iconst 1, 1) := by decide +kernel
theorem dX6_bitsOf_16 : decode cX6_bitsOf 16 = .ok (.ishr, 1) := by decide +kernel
theorem dX6_bitsOf_17 : decode cX6_bitsOf 17 = .ok (.istore_n 2, 1) := by decide +kernel
theorem dX6_bitsOf_18 : decode cX6_bitsOf 18 = .ok (.goto (-14), 3) := by decide +kernel
theorem dX6_bitsOf_21 : decode cX6_bitsOf 21 = .ok (.iload_n 1, 1) := by decide +kernel
theorem dX6_bitsOf_22 : decode cX6_bitsOf 22 = .ok (.ireturn, 1) := by decide +kernel
set_option maxRecDepth 20000 in
theorem ggX6_ask_X6_isDraw : GoodIn wsX6_ask wsX6_isDraw := goodIn_r _ [6, 7, 8, 9, 5, 10, 71, 72, 73, 74, 75, 76, 77, 78, 79, 80, 81, 82, 83, 84, 85, 86, 87, 88, 89, 90, 91, 92, 93, 94, 95, 96] (by decide +kernel) (by decide +kernel)
set_option maxRecDepth 20000 in
theorem gX6_ask_X6_isDraw : GoodIn wsX6_ask (wsV RX6 153 RX6 yX6_isDraw wsX6_isDraw) := goodIn_app (goodIn_of _ (by decide +kernel)) ggX6_ask_X6_isDraw
set_option maxRecDepth 20000 in
theorem ggX6_ask_X6_in : GoodIn wsX6_ask wsX6_in := goodIn_r _ [10] (by decide +kernel) (by decide +kernel)
set_option maxRecDepth 20000 in
theorem gX6_ask_X6_in : GoodIn wsX6_ask (va_wsS RX6 50 yX6_in wsX6_in) := goodIn_app (goodIn_of _ (by decide +kernel)) ggX6_ask_X6_in
set_option maxRecDepth 20000 in
theorem ggX6_ask_X6_pullsOf : GoodIn wsX6_ask wsX6_pullsOf := goodIn_r _ [14, 7, 15, 16, 17, 5, 18, 1, 19, 20, 21, 22, 23, 24, 25, 26, 27, 28, 29, 30, 31, 32, 33, 34, 35, 36, 37, 38, 39, 40, 41, 42, 43, 44, 45, 46, 47, 48, 49, 50, 51, 52, 53, 54, 55, 56, 57, 58, 59, 60, 61, 62, 63, 64, 65, 66, 67, 71, 72, 73, 74, 75, 76, 77, 78, 79, 80, 81, 82, 83, 84, 85, 86, 87, 88, 89, 90, 91, 92, 93, 94, 95, 96] (by decide +kernel) (by decide +kernel)
set_option maxRecDepth 20000 in
theorem gX6_ask_X6_pullsOf : GoodIn wsX6_ask (wsV RX6 228 RX6 yX6_pullsOf wsX6_pullsOf) := goodIn_app (goodIn_of _ (by decide +kernel)) ggX6_ask_X6_pullsOf
set_option maxRecDepth 20000 in
theorem ggX6_ask_X6_bitsOf : GoodIn wsX6_ask wsX6_bitsOf := goodIn_r _ [70] (by decide +kernel) (by decide +kernel)
set_option maxRecDepth 20000 in
theorem gX6_ask_X6_bitsOf : GoodIn wsX6_ask (va_wsS RX6 231 yX6_bitsOf wsX6_bitsOf) := goodIn_app (goodIn_of _ (by decide +kernel)) ggX6_ask_X6_bitsOf
theorem dX6_ask_0 : decode cX6_ask 0 = .ok (.aload_n 0, 1) := by decide +kernel
theorem dX6_ask_1 : decode cX6_ask 1 = .ok (.iload_n 1, 1) := by decide +kernel
theorem dX6_ask_2 : decode cX6_ask 2 = .ok (.invokevirtual 153, 3) := by decide +kernel
theorem dX6_ask_5 : decode cX6_ask 5 = .ok (.ifCond .eq 13, 3) := by decide +kernel
theorem dX6_ask_8 : decode cX6_ask 8 = .ok (.iload_n 2, 1) := by decide +kernel
theorem dX6_ask_9 : decode cX6_ask 9 = .ok (.i2l, 1) := by decide +kernel
theorem dX6_ask_10 : decode cX6_ask 10 = .ok (.lconst 0, 1) := by decide +kernel
theorem dX6_ask_11 : decode cX6_ask 11 = .ok (.lconst 1, 1) := by decide +kernel
theorem dX6_ask_12 : decode cX6_ask 12 = .ok (.invokestatic 50, 3) := by decide +kernel
theorem dX6_ask_15 : decode cX6_ask 15 = .ok (.ifCond .ne 5, 3) := by decide +kernel
theorem dX6_ask_18 : decode cX6_ask 18 = .ok (.iconst (-1), 1) := by decide +kernel
theorem dX6_ask_19 : decode cX6_ask 19 = .ok (.ireturn, 1) := by decide +kernel
theorem dX6_ask_20 : decode cX6_ask 20 = .ok (.aload_n 0, 1) := by decide +kernel
theorem dX6_ask_21 : decode cX6_ask 21 = .ok (.iload_n 1, 1) := by decide +kernel
theorem dX6_ask_22 : decode cX6_ask 22 = .ok (.invokevirtual 228, 3) := by decide +kernel
theorem dX6_ask_25 : decode cX6_ask 25 = .ok (.istore_n 3, 1) := by decide +kernel
theorem dX6_ask_26 : decode cX6_ask 26 = .ok (.iload_n 3, 1) := by decide +kernel
theorem dX6_ask_27 : decode cX6_ask 27 = .ok (.invokestatic 231, 3) := by decide +kernel
theorem dX6_ask_30 : decode cX6_ask 30 = .ok (.istore 4, 2) := by decide +kernel
theorem dX6_ask_32 : decode cX6_ask 32 = .ok (.bipush (-4), 2) := by decide +kernel
theorem dX6_ask_34 : decode cX6_ask 34 = .ok (.istore 5, 2) := by decide +kernel
theorem dX6_ask_36 : decode cX6_ask 36 = .ok (.iconst 0, 1) := by decide +kernel
theorem dX6_ask_37 : decode cX6_ask 37 = .ok (.istore 6, 2) := by decide +kernel
theorem dX6_ask_39 : decode cX6_ask 39 = .ok (.iload 6, 2) := by decide +kernel
theorem dX6_ask_41 : decode cX6_ask 41 = .ok (.bipush 30, 2) := by decide +kernel
theorem dX6_ask_43 : decode cX6_ask 43 = .ok (.if_icmp .gt 154, 3) := by decide +kernel
theorem dX6_ask_46 : decode cX6_ask 46 = .ok (.iconst 0, 1) := by decide +kernel
theorem dX6_ask_47 : decode cX6_ask 47 = .ok (.istore 7, 2) := by decide +kernel
theorem dX6_ask_49 : decode cX6_ask 49 = .ok (.iconst 1, 1) := by decide +kernel
theorem dX6_ask_50 : decode cX6_ask 50 = .ok (.istore 8, 2) := by decide +kernel
theorem dX6_ask_52 : decode cX6_ask 52 = .ok (.iload 8, 2) := by decide +kernel
theorem dX6_ask_54 : decode cX6_ask 54 = .ok (.bipush 20, 2) := by decide +kernel
theorem dX6_ask_56 : decode cX6_ask 56 = .ok (.if_icmp .gt 103, 3) := by decide +kernel
theorem dX6_ask_59 : decode cX6_ask 59 = .ok (.iconst 0, 1) := by decide +kernel
theorem dX6_ask_60 : decode cX6_ask 60 = .ok (.istore 9, 2) := by decide +kernel
theorem dX6_ask_62 : decode cX6_ask 62 = .ok (.iconst 1, 1) := by decide +kernel
theorem dX6_ask_63 : decode cX6_ask 63 = .ok (.istore 10, 2) := by decide +kernel
theorem dX6_ask_65 : decode cX6_ask 65 = .ok (.iload 10, 2) := by decide +kernel
theorem dX6_ask_67 : decode cX6_ask 67 = .ok (.bipush 20, 2) := by decide +kernel
theorem dX6_ask_69 : decode cX6_ask 69 = .ok (.if_icmp .gt 68, 3) := by decide +kernel
theorem dX6_ask_72 : decode cX6_ask 72 = .ok (.iload_n 3, 1) := by decide +kernel
theorem dX6_ask_73 : decode cX6_ask 73 = .ok (.iload 8, 2) := by decide +kernel
theorem dX6_ask_75 : decode cX6_ask 75 = .ok (.ishr, 1) := by decide +kernel
theorem dX6_ask_76 : decode cX6_ask 76 = .ok (.iconst 1, 1) := by decide +kernel
theorem dX6_ask_77 : decode cX6_ask 77 = .ok (.iand, 1) := by decide +kernel
theorem dX6_ask_78 : decode cX6_ask 78 = .ok (.iconst 1, 1) := by decide +kernel
theorem dX6_ask_79 : decode cX6_ask 79 = .ok (.if_icmp .ne 58, 3) := by decide +kernel
theorem dX6_ask_82 : decode cX6_ask 82 = .ok (.iload 9, 2) := by decide +kernel
theorem dX6_ask_84 : decode cX6_ask 84 = .ok (.iload_n 3, 1) := by decide +kernel
theorem dX6_ask_85 : decode cX6_ask 85 = .ok (.iload 10, 2) := by decide +kernel
theorem dX6_ask_87 : decode cX6_ask 87 = .ok (.ishr, 1) := by decide +kernel
theorem dX6_ask_88 : decode cX6_ask 88 = .ok (.iconst 1, 1) := by decide +kernel
theorem dX6_ask_89 : decode cX6_ask 89 = .ok (.iand, 1) := by decide +kernel
theorem dX6_ask_90 : decode cX6_ask 90 = .ok (.iconst 1, 1) := by decide +kernel
theorem dX6_ask_91 : decode cX6_ask 91 = .ok (.if_icmp .ne 36, 3) := by decide +kernel
theorem dX6_ask_94 : decode cX6_ask 94 = .ok (.aload_n 0, 1) := by decide +kernel
theorem dX6_ask_95 : decode cX6_ask 95 = .ok (.getfield 32, 3) := by decide +kernel
theorem dX6_ask_98 : decode cX6_ask 98 = .ok (.bipush 31, 2) := by decide +kernel
theorem dX6_ask_100 : decode cX6_ask 100 = .ok (.iload 8, 2) := by decide +kernel
theorem dX6_ask_102 : decode cX6_ask 102 = .ok (.imul, 1) := by decide +kernel
theorem dX6_ask_103 : decode cX6_ask 103 = .ok (.iload 6, 2) := by decide +kernel
theorem dX6_ask_105 : decode cX6_ask 105 = .ok (.iadd, 1) := by decide +kernel
theorem dX6_ask_106 : decode cX6_ask 106 = .ok (.iaload, 1) := by decide +kernel
theorem dX6_ask_107 : decode cX6_ask 107 = .ok (.aload_n 0, 1) := by decide +kernel
theorem dX6_ask_108 : decode cX6_ask 108 = .ok (.getfield 32, 3) := by decide +kernel
theorem dX6_ask_111 : decode cX6_ask 111 = .ok (.bipush 31, 2) := by decide +kernel
theorem dX6_ask_113 : decode cX6_ask 113 = .ok (.iload 10, 2) := by decide +kernel
theorem dX6_ask_115 : decode cX6_ask 115 = .ok (.imul, 1) := by decide +kernel
theorem dX6_ask_116 : decode cX6_ask 116 = .ok (.iload 6, 2) := by decide +kernel
theorem dX6_ask_118 : decode cX6_ask 118 = .ok (.iadd, 1) := by decide +kernel
theorem dX6_ask_119 : decode cX6_ask 119 = .ok (.iaload, 1) := by decide +kernel
theorem dX6_ask_120 : decode cX6_ask 120 = .ok (.if_icmp .ne 7, 3) := by decide +kernel
theorem dX6_ask_123 : decode cX6_ask 123 = .ok (.iconst 1, 1) := by decide +kernel
theorem dX6_ask_124 : decode cX6_ask 124 = .ok (.goto 4, 3) := by decide +kernel
theorem dX6_ask_127 : decode cX6_ask 127 = .ok (.iconst 0, 1) := by decide +kernel
theorem dX6_ask_128 : decode cX6_ask 128 = .ok (.iadd, 1) := by decide +kernel
theorem dX6_ask_129 : decode cX6_ask 129 = .ok (.istore 9, 2) := by decide +kernel
theorem dX6_ask_131 : decode cX6_ask 131 = .ok (.iinc 10 1, 3) := by decide +kernel
theorem dX6_ask_134 : decode cX6_ask 134 = .ok (.goto (-69), 3) := by decide +kernel
theorem dX6_ask_137 : decode cX6_ask 137 = .ok (.iload 9, 2) := by decide +kernel
theorem dX6_ask_139 : decode cX6_ask 139 = .ok (.iload 7, 2) := by decide +kernel
theorem dX6_ask_141 : decode cX6_ask 141 = .ok (.if_icmp .le 8, 3) := by decide +kernel
theorem dX6_ask_144 : decode cX6_ask 144 = .ok (.iload 9, 2) := by decide +kernel
theorem dX6_ask_146 : decode cX6_ask 146 = .ok (.goto 5, 3) := by decide +kernel
theorem dX6_ask_149 : decode cX6_ask 149 = .ok (.iload 7, 2) := by decide +kernel
theorem dX6_ask_151 : decode cX6_ask 151 = .ok (.istore 7, 2) := by decide +kernel
theorem dX6_ask_153 : decode cX6_ask 153 = .ok (.iinc 8 1, 3) := by decide +kernel
theorem dX6_ask_156 : decode cX6_ask 156 = .ok (.goto (-104), 3) := by decide +kernel
theorem dX6_ask_159 : decode cX6_ask 159 = .ok (.iload 7, 2) := by decide +kernel
theorem dX6_ask_161 : decode cX6_ask 161 = .ok (.iload 4, 2) := by decide +kernel
theorem dX6_ask_163 : decode cX6_ask 163 = .ok (.if_icmp .ge 8, 3) := by decide +kernel
theorem dX6_ask_166 : decode cX6_ask 166 = .ok (.iload 6, 2) := by decide +kernel
theorem dX6_ask_168 : decode cX6_ask 168 = .ok (.goto 5, 3) := by decide +kernel
theorem dX6_ask_171 : decode cX6_ask 171 = .ok (.iload 5, 2) := by decide +kernel
theorem dX6_ask_173 : decode cX6_ask 173 = .ok (.istore 5, 2) := by decide +kernel
theorem dX6_ask_175 : decode cX6_ask 175 = .ok (.iload 7, 2) := by decide +kernel
theorem dX6_ask_177 : decode cX6_ask 177 = .ok (.iload 4, 2) := by decide +kernel
theorem dX6_ask_179 : decode cX6_ask 179 = .ok (.if_icmp .ge 8, 3) := by decide +kernel
theorem dX6_ask_182 : decode cX6_ask 182 = .ok (.iload 7, 2) := by decide +kernel
theorem dX6_ask_184 : decode cX6_ask 184 = .ok (.goto 5, 3) := by decide +kernel
theorem dX6_ask_187 : decode cX6_ask 187 = .ok (.iload 4, 2) := by decide +kernel
theorem dX6_ask_189 : decode cX6_ask 189 = .ok (.istore 4, 2) := by decide +kernel
theorem dX6_ask_191 : decode cX6_ask 191 = .ok (.iinc 6 1, 3) := by decide +kernel
theorem dX6_ask_194 : decode cX6_ask 194 = .ok (.goto (-155), 3) := by decide +kernel
theorem dX6_ask_197 : decode cX6_ask 197 = .ok (.iload 5, 2) := by decide +kernel
theorem dX6_ask_199 : decode cX6_ask 199 = .ok (.bipush (-4), 2) := by decide +kernel
theorem dX6_ask_201 : decode cX6_ask 201 = .ok (.if_icmp .eq 7, 3) := by decide +kernel
theorem dX6_ask_204 : decode cX6_ask 204 = .ok (.iload_n 2, 1) := by decide +kernel
theorem dX6_ask_205 : decode cX6_ask 205 = .ok (.ifCond .ne 8, 3) := by decide +kernel
theorem dX6_ask_208 : decode cX6_ask 208 = .ok (.iload 5, 2) := by decide +kernel
theorem dX6_ask_210 : decode cX6_ask 210 = .ok (.goto 5, 3) := by decide +kernel
theorem dX6_ask_213 : decode cX6_ask 213 = .ok (.iload 4, 2) := by decide +kernel
theorem dX6_ask_215 : decode cX6_ask 215 = .ok (.ireturn, 1) := by decide +kernel
set_option maxRecDepth 20000 in
theorem ggX6_drift_X6_in : GoodIn wsX6_drift wsX6_in := goodIn_r _ [7] (by decide +kernel) (by decide +kernel)
set_option maxRecDepth 20000 in
theorem gX6_drift_X6_in : GoodIn wsX6_drift (va_wsS RX6 50 yX6_in wsX6_in) := goodIn_app (goodIn_of _ (by decide +kernel)) ggX6_drift_X6_in
set_option maxRecDepth 20000 in
theorem ggX6_drift_X6_copies : GoodIn wsX6_drift wsX6_copies := goodIn_r _ [11, 2, 55, 56, 57, 58, 59, 60, 61, 62, 63, 64, 65, 66, 67, 68, 69, 70, 71, 72, 73, 74, 75, 76, 77, 78, 79, 80] (by decide +kernel) (by decide +kernel)
set_option maxRecDepth 20000 in
theorem gX6_drift_X6_copies : GoodIn wsX6_drift (wsV RX6 188 RX6 yX6_copies wsX6_copies) := goodIn_app (goodIn_of _ (by decide +kernel)) ggX6_drift_X6_copies
set_option maxRecDepth 20000 in
theorem ggX6_drift_X6_leanOn : GoodIn wsX6_drift wsX6_leanOn := goodIn_r _ [15, 2, 16, 17, 18, 6, 19, 20, 21, 22, 23, 24, 25, 55, 56, 57, 58, 59, 60, 61, 62, 63, 64, 65, 66, 67, 68, 69, 70, 71, 72, 73, 74, 75, 76, 77, 78, 79, 80] (by decide +kernel) (by decide +kernel)
set_option maxRecDepth 20000 in
theorem gX6_drift_X6_leanOn : GoodIn wsX6_drift (wsV RX6 130 RX6 yX6_leanOn wsX6_leanOn) := goodIn_app (goodIn_of _ (by decide +kernel)) ggX6_drift_X6_leanOn
set_option maxRecDepth 20000 in
theorem ggX6_drift_X6_yearOn : GoodIn wsX6_drift wsX6_yearOn := goodIn_r _ [29, 2, 30, 31, 32, 6, 33, 34, 35, 36, 37, 12, 13, 14, 15, 16, 17, 18, 19, 20, 21, 22, 23, 24, 25, 38, 39, 40, 41, 42, 43, 44, 45, 46, 47, 48, 49, 50, 51, 52, 53, 54, 55, 56, 57, 58, 59, 60, 61, 62, 63, 64, 65, 66, 67, 68, 69, 70, 71, 72, 73, 74, 75, 76, 77, 78, 79, 80] (by decide +kernel) (by decide +kernel)
set_option maxRecDepth 20000 in
theorem gX6_drift_X6_yearOn : GoodIn wsX6_drift (wsV RX6 185 RX6 yX6_yearOn wsX6_yearOn) := goodIn_app (goodIn_of _ (by decide +kernel)) ggX6_drift_X6_yearOn
set_option maxRecDepth 20000 in
theorem ggX6_drift_X6_pointOn : GoodIn wsX6_drift wsX6_pointOn := goodIn_r _ [19, 2, 55, 56, 57, 58, 59, 60, 61, 62, 63, 64, 65, 66, 67, 68, 69, 70, 71, 72, 73, 74, 75, 76, 77, 78, 79, 80] (by decide +kernel) (by decide +kernel)
set_option maxRecDepth 20000 in
theorem gX6_drift_X6_pointOn : GoodIn wsX6_drift (wsV RX6 124 RX6 yX6_pointOn wsX6_pointOn) := goodIn_app (goodIn_of _ (by decide +kernel)) ggX6_drift_X6_pointOn
theorem dX6_drift_0 : decode cX6_drift 0 = .ok (.iload_n 2, 1) := by decide +kernel
theorem dX6_drift_1 : decode cX6_drift 1 = .ok (.i2l, 1) := by decide +kernel
theorem dX6_drift_2 : decode cX6_drift 2 = .ok (.lconst 1, 1) := by decide +kernel
theorem dX6_drift_3 : decode cX6_drift 3 = .ok (.ldc2_w 163, 3) := by decide +kernel
theorem dX6_drift_6 : decode cX6_drift 6 = .ok (.invokestatic 50, 3) := by decide +kernel
theorem dX6_drift_9 : decode cX6_drift 9 = .ok (.ifCond .eq 13, 3) := by decide +kernel
theorem dX6_drift_12 : decode cX6_drift 12 = .ok (.iload_n 3, 1) := by decide +kernel
theorem dX6_drift_13 : decode cX6_drift 13 = .ok (.i2l, 1) := by decide +kernel
theorem dX6_drift_14 : decode cX6_drift 14 = .ok (.lconst 0, 1) := by decide +kernel
theorem dX6_drift_15 : decode cX6_drift 15 = .ok (.lconst 1, 1) := by decide +kernel
theorem dX6_drift_16 : decode cX6_drift 16 = .ok (.invokestatic 50, 3) := by decide +kernel
theorem dX6_drift_19 : decode cX6_drift 19 = .ok (.ifCond .ne 5, 3) := by decide +kernel
theorem dX6_drift_22 : decode cX6_drift 22 = .ok (.iconst (-1), 1) := by decide +kernel
theorem dX6_drift_23 : decode cX6_drift 23 = .ok (.ireturn, 1) := by decide +kernel
theorem dX6_drift_24 : decode cX6_drift 24 = .ok (.aload_n 0, 1) := by decide +kernel
theorem dX6_drift_25 : decode cX6_drift 25 = .ok (.getfield 7, 3) := by decide +kernel
theorem dX6_drift_28 : decode cX6_drift 28 = .ok (.bipush 20, 2) := by decide +kernel
theorem dX6_drift_30 : decode cX6_drift 30 = .ok (.iaload, 1) := by decide +kernel
theorem dX6_drift_31 : decode cX6_drift 31 = .ok (.ifCond .ne 6, 3) := by decide +kernel
theorem dX6_drift_34 : decode cX6_drift 34 = .ok (.bipush (-2), 2) := by decide +kernel
theorem dX6_drift_36 : decode cX6_drift 36 = .ok (.ireturn, 1) := by decide +kernel
theorem dX6_drift_37 : decode cX6_drift 37 = .ok (.aload_n 0, 1) := by decide +kernel
theorem dX6_drift_38 : decode cX6_drift 38 = .ok (.iconst 0, 1) := by decide +kernel
theorem dX6_drift_39 : decode cX6_drift 39 = .ok (.bipush 104, 2) := by decide +kernel
theorem dX6_drift_41 : decode cX6_drift 41 = .ok (.invokevirtual 188, 3) := by decide +kernel
theorem dX6_drift_44 : decode cX6_drift 44 = .ok (.iload_n 1, 1) := by decide +kernel
theorem dX6_drift_45 : decode cX6_drift 45 = .ok (.istore 4, 2) := by decide +kernel
theorem dX6_drift_47 : decode cX6_drift 47 = .ok (.aload_n 0, 1) := by decide +kernel
theorem dX6_drift_48 : decode cX6_drift 48 = .ok (.bipush 104, 2) := by decide +kernel
theorem dX6_drift_50 : decode cX6_drift 50 = .ok (.invokevirtual 130, 3) := by decide +kernel
theorem dX6_drift_53 : decode cX6_drift 53 = .ok (.istore 5, 2) := by decide +kernel
theorem dX6_drift_55 : decode cX6_drift 55 = .ok (.iconst 0, 1) := by decide +kernel
theorem dX6_drift_56 : decode cX6_drift 56 = .ok (.istore 6, 2) := by decide +kernel
theorem dX6_drift_58 : decode cX6_drift 58 = .ok (.iload 6, 2) := by decide +kernel
theorem dX6_drift_60 : decode cX6_drift 60 = .ok (.iload_n 2, 1) := by decide +kernel
theorem dX6_drift_61 : decode cX6_drift 61 = .ok (.if_icmp .ge 87, 3) := by decide +kernel
theorem dX6_drift_64 : decode cX6_drift 64 = .ok (.iload 4, 2) := by decide +kernel
theorem dX6_drift_66 : decode cX6_drift 66 = .ok (.ldc 234, 2) := by decide +kernel
theorem dX6_drift_68 : decode cX6_drift 68 = .ok (.imul, 1) := by decide +kernel
theorem dX6_drift_69 : decode cX6_drift 69 = .ok (.sipush 12345, 3) := by decide +kernel
theorem dX6_drift_72 : decode cX6_drift 72 = .ok (.iadd, 1) := by decide +kernel
theorem dX6_drift_73 : decode cX6_drift 73 = .ok (.istore 4, 2) := by decide +kernel
theorem dX6_drift_75 : decode cX6_drift 75 = .ok (.iload 4, 2) := by decide +kernel
theorem dX6_drift_77 : decode cX6_drift 77 = .ok (.bipush 16, 2) := by decide +kernel
theorem dX6_drift_79 : decode cX6_drift 79 = .ok (.ishr, 1) := by decide +kernel
theorem dX6_drift_80 : decode cX6_drift 80 = .ok (.sipush 32767, 3) := by decide +kernel
theorem dX6_drift_83 : decode cX6_drift 83 = .ok (.iand, 1) := by decide +kernel
theorem dX6_drift_84 : decode cX6_drift 84 = .ok (.istore 7, 2) := by decide +kernel
theorem dX6_drift_86 : decode cX6_drift 86 = .ok (.aload_n 0, 1) := by decide +kernel
theorem dX6_drift_87 : decode cX6_drift 87 = .ok (.getfield 7, 3) := by decide +kernel
theorem dX6_drift_90 : decode cX6_drift 90 = .ok (.bipush 114, 2) := by decide +kernel
theorem dX6_drift_92 : decode cX6_drift 92 = .ok (.iload 7, 2) := by decide +kernel
theorem dX6_drift_94 : decode cX6_drift 94 = .ok (.aload_n 0, 1) := by decide +kernel
theorem dX6_drift_95 : decode cX6_drift 95 = .ok (.getfield 7, 3) := by decide +kernel
theorem dX6_drift_98 : decode cX6_drift 98 = .ok (.bipush 20, 2) := by decide +kernel
theorem dX6_drift_100 : decode cX6_drift 100 = .ok (.iaload, 1) := by decide +kernel
theorem dX6_drift_101 : decode cX6_drift 101 = .ok (.irem, 1) := by decide +kernel
theorem dX6_drift_102 : decode cX6_drift 102 = .ok (.iadd, 1) := by decide +kernel
theorem dX6_drift_103 : decode cX6_drift 103 = .ok (.iload 7, 2) := by decide +kernel
theorem dX6_drift_105 : decode cX6_drift 105 = .ok (.bipush 8, 2) := by decide +kernel
theorem dX6_drift_107 : decode cX6_drift 107 = .ok (.idiv, 1) := by decide +kernel
theorem dX6_drift_108 : decode cX6_drift 108 = .ok (.bipush 100, 2) := by decide +kernel
theorem dX6_drift_110 : decode cX6_drift 110 = .ok (.irem, 1) := by decide +kernel
theorem dX6_drift_111 : decode cX6_drift 111 = .ok (.iastore, 1) := by decide +kernel
theorem dX6_drift_112 : decode cX6_drift 112 = .ok (.aload_n 0, 1) := by decide +kernel
theorem dX6_drift_113 : decode cX6_drift 113 = .ok (.bipush 104, 2) := by decide +kernel
theorem dX6_drift_115 : decode cX6_drift 115 = .ok (.invokevirtual 185, 3) := by decide +kernel
theorem dX6_drift_118 : decode cX6_drift 118 = .ok (.aload_n 0, 1) := by decide +kernel
theorem dX6_drift_119 : decode cX6_drift 119 = .ok (.bipush 104, 2) := by decide +kernel
theorem dX6_drift_121 : decode cX6_drift 121 = .ok (.invokevirtual 130, 3) := by decide +kernel
theorem dX6_drift_124 : decode cX6_drift 124 = .ok (.iload 5, 2) := by decide +kernel
theorem dX6_drift_126 : decode cX6_drift 126 = .ok (.if_icmp .le 12, 3) := by decide +kernel
theorem dX6_drift_129 : decode cX6_drift 129 = .ok (.aload_n 0, 1) := by decide +kernel
theorem dX6_drift_130 : decode cX6_drift 130 = .ok (.bipush 104, 2) := by decide +kernel
theorem dX6_drift_132 : decode cX6_drift 132 = .ok (.invokevirtual 130, 3) := by decide +kernel
theorem dX6_drift_135 : decode cX6_drift 135 = .ok (.goto 5, 3) := by decide +kernel
theorem dX6_drift_138 : decode cX6_drift 138 = .ok (.iload 5, 2) := by decide +kernel
theorem dX6_drift_140 : decode cX6_drift 140 = .ok (.istore 5, 2) := by decide +kernel
theorem dX6_drift_142 : decode cX6_drift 142 = .ok (.iinc 6 1, 3) := by decide +kernel
theorem dX6_drift_145 : decode cX6_drift 145 = .ok (.goto (-87), 3) := by decide +kernel
theorem dX6_drift_148 : decode cX6_drift 148 = .ok (.iload_n 3, 1) := by decide +kernel
theorem dX6_drift_149 : decode cX6_drift 149 = .ok (.ifCond .ne 12, 3) := by decide +kernel
theorem dX6_drift_152 : decode cX6_drift 152 = .ok (.aload_n 0, 1) := by decide +kernel
theorem dX6_drift_153 : decode cX6_drift 153 = .ok (.bipush 104, 2) := by decide +kernel
theorem dX6_drift_155 : decode cX6_drift 155 = .ok (.invokevirtual 124, 3) := by decide +kernel
theorem dX6_drift_158 : decode cX6_drift 158 = .ok (.goto 5, 3) := by decide +kernel
theorem dX6_drift_161 : decode cX6_drift 161 = .ok (.iload 5, 2) := by decide +kernel
theorem dX6_drift_163 : decode cX6_drift 163 = .ok (.ireturn, 1) := by decide +kernel
set_option maxRecDepth 20000 in
theorem ggX6_keep_X6_in : GoodIn wsX6_keep wsX6_in := goodIn_r _ [5] (by decide +kernel) (by decide +kernel)
set_option maxRecDepth 20000 in
theorem gX6_keep_X6_in : GoodIn wsX6_keep (va_wsS RX6 50 yX6_in wsX6_in) := goodIn_app (goodIn_of _ (by decide +kernel)) ggX6_keep_X6_in
set_option maxRecDepth 20000 in
theorem ggX6_keep_X6_copies : GoodIn wsX6_keep wsX6_copies := goodIn_r _ [9, 10, 11, 12, 13, 14, 15, 16, 17, 18, 19, 20, 21, 22, 23, 24, 25, 26, 27, 28, 29, 30, 31, 32, 33, 34, 35, 36] (by decide +kernel) (by decide +kernel)
set_option maxRecDepth 20000 in
theorem gX6_keep_X6_copies : GoodIn wsX6_keep (wsV RX6 188 RX6 yX6_copies wsX6_copies) := goodIn_app (goodIn_of _ (by decide +kernel)) ggX6_keep_X6_copies
theorem dX6_keep_0 : decode cX6_keep 0 = .ok (.iload_n 1, 1) := by decide +kernel
theorem dX6_keep_1 : decode cX6_keep 1 = .ok (.i2l, 1) := by decide +kernel
theorem dX6_keep_2 : decode cX6_keep 2 = .ok (.lconst 0, 1) := by decide +kernel
theorem dX6_keep_3 : decode cX6_keep 3 = .ok (.lconst 1, 1) := by decide +kernel
theorem dX6_keep_4 : decode cX6_keep 4 = .ok (.invokestatic 50, 3) := by decide +kernel
theorem dX6_keep_7 : decode cX6_keep 7 = .ok (.ifCond .ne 5, 3) := by decide +kernel
theorem dX6_keep_10 : decode cX6_keep 10 = .ok (.iconst (-1), 1) := by decide +kernel
theorem dX6_keep_11 : decode cX6_keep 11 = .ok (.ireturn, 1) := by decide +kernel
theorem dX6_keep_12 : decode cX6_keep 12 = .ok (.aload_n 0, 1) := by decide +kernel
theorem dX6_keep_13 : decode cX6_keep 13 = .ok (.iconst 0, 1) := by decide +kernel
theorem dX6_keep_14 : decode cX6_keep 14 = .ok (.bipush 26, 2) := by decide +kernel
theorem dX6_keep_16 : decode cX6_keep 16 = .ok (.iload_n 1, 1) := by decide +kernel
theorem dX6_keep_17 : decode cX6_keep 17 = .ok (.iconst 1, 1) := by decide +kernel
theorem dX6_keep_18 : decode cX6_keep 18 = .ok (.iadd, 1) := by decide +kernel
theorem dX6_keep_19 : decode cX6_keep 19 = .ok (.imul, 1) := by decide +kernel
theorem dX6_keep_20 : decode cX6_keep 20 = .ok (.invokevirtual 188, 3) := by decide +kernel
theorem dX6_keep_23 : decode cX6_keep 23 = .ok (.aload_n 0, 1) := by decide +kernel
theorem dX6_keep_24 : decode cX6_keep 24 = .ok (.getfield 35, 3) := by decide +kernel
theorem dX6_keep_27 : decode cX6_keep 27 = .ok (.iload_n 1, 1) := by decide +kernel
theorem dX6_keep_28 : decode cX6_keep 28 = .ok (.baload, 1) := by decide +kernel
theorem dX6_keep_29 : decode cX6_keep 29 = .ok (.ifCond .eq 7, 3) := by decide +kernel
theorem dX6_keep_32 : decode cX6_keep 32 = .ok (.iconst 1, 1) := by decide +kernel
theorem dX6_keep_33 : decode cX6_keep 33 = .ok (.goto 4, 3) := by decide +kernel
theorem dX6_keep_36 : decode cX6_keep 36 = .ok (.iconst 0, 1) := by decide +kernel
theorem dX6_keep_37 : decode cX6_keep 37 = .ok (.istore_n 2, 1) := by decide +kernel
theorem dX6_keep_38 : decode cX6_keep 38 = .ok (.aload_n 0, 1) := by decide +kernel
theorem dX6_keep_39 : decode cX6_keep 39 = .ok (.getfield 35, 3) := by decide +kernel
theorem dX6_keep_42 : decode cX6_keep 42 = .ok (.iload_n 1, 1) := by decide +kernel
theorem dX6_keep_43 : decode cX6_keep 43 = .ok (.iconst 1, 1) := by decide +kernel
theorem dX6_keep_44 : decode cX6_keep 44 = .ok (.bastore, 1) := by decide +kernel
theorem dX6_keep_45 : decode cX6_keep 45 = .ok (.iload_n 2, 1) := by decide +kernel
theorem dX6_keep_46 : decode cX6_keep 46 = .ok (.ireturn, 1) := by decide +kernel
set_option maxRecDepth 20000 in
theorem ggX6_back_X6_in : GoodIn wsX6_back wsX6_in := goodIn_r _ [6] (by decide +kernel) (by decide +kernel)
set_option maxRecDepth 20000 in
theorem gX6_back_X6_in : GoodIn wsX6_back (va_wsS RX6 50 yX6_in wsX6_in) := goodIn_app (goodIn_of _ (by decide +kernel)) ggX6_back_X6_in
set_option maxRecDepth 20000 in
theorem ggX6_back_X6_copies : GoodIn wsX6_back wsX6_copies := goodIn_r _ [10, 2, 11, 12, 13, 14, 15, 16, 17, 18, 19, 20, 21, 22, 23, 24, 25, 26, 27, 28, 29, 30, 31, 32, 33, 34, 35, 36] (by decide +kernel) (by decide +kernel)
set_option maxRecDepth 20000 in
theorem gX6_back_X6_copies : GoodIn wsX6_back (wsV RX6 188 RX6 yX6_copies wsX6_copies) := goodIn_app (goodIn_of _ (by decide +kernel)) ggX6_back_X6_copies
theorem dX6_back_0 : decode cX6_back 0 = .ok (.iload_n 1, 1) := by decide +kernel
theorem dX6_back_1 : decode cX6_back 1 = .ok (.i2l, 1) := by decide +kernel
theorem dX6_back_2 : decode cX6_back 2 = .ok (.lconst 0, 1) := by decide +kernel
theorem dX6_back_3 : decode cX6_back 3 = .ok (.lconst 1, 1) := by decide +kernel
theorem dX6_back_4 : decode cX6_back 4 = .ok (.invokestatic 50, 3) := by decide +kernel
theorem dX6_back_7 : decode cX6_back 7 = .ok (.ifCond .ne 5, 3) := by decide +kernel
theorem dX6_back_10 : decode cX6_back 10 = .ok (.iconst (-1), 1) := by decide +kernel
theorem dX6_back_11 : decode cX6_back 11 = .ok (.ireturn, 1) := by decide +kernel
theorem dX6_back_12 : decode cX6_back 12 = .ok (.aload_n 0, 1) := by decide +kernel
theorem dX6_back_13 : decode cX6_back 13 = .ok (.getfield 35, 3) := by decide +kernel
theorem dX6_back_16 : decode cX6_back 16 = .ok (.iload_n 1, 1) := by decide +kernel
theorem dX6_back_17 : decode cX6_back 17 = .ok (.baload, 1) := by decide +kernel
theorem dX6_back_18 : decode cX6_back 18 = .ok (.ifCond .ne 6, 3) := by decide +kernel
theorem dX6_back_21 : decode cX6_back 21 = .ok (.bipush (-2), 2) := by decide +kernel
theorem dX6_back_23 : decode cX6_back 23 = .ok (.ireturn, 1) := by decide +kernel
theorem dX6_back_24 : decode cX6_back 24 = .ok (.aload_n 0, 1) := by decide +kernel
theorem dX6_back_25 : decode cX6_back 25 = .ok (.bipush 26, 2) := by decide +kernel
theorem dX6_back_27 : decode cX6_back 27 = .ok (.iload_n 1, 1) := by decide +kernel
theorem dX6_back_28 : decode cX6_back 28 = .ok (.iconst 1, 1) := by decide +kernel
theorem dX6_back_29 : decode cX6_back 29 = .ok (.iadd, 1) := by decide +kernel
theorem dX6_back_30 : decode cX6_back 30 = .ok (.imul, 1) := by decide +kernel
theorem dX6_back_31 : decode cX6_back 31 = .ok (.iconst 0, 1) := by decide +kernel
theorem dX6_back_32 : decode cX6_back 32 = .ok (.invokevirtual 188, 3) := by decide +kernel
theorem dX6_back_35 : decode cX6_back 35 = .ok (.aload_n 0, 1) := by decide +kernel
theorem dX6_back_36 : decode cX6_back 36 = .ok (.getfield 7, 3) := by decide +kernel
theorem dX6_back_39 : decode cX6_back 39 = .ok (.bipush 25, 2) := by decide +kernel
theorem dX6_back_41 : decode cX6_back 41 = .ok (.iaload, 1) := by decide +kernel
theorem dX6_back_42 : decode cX6_back 42 = .ok (.ireturn, 1) := by decide +kernel
set_option maxRecDepth 20000 in
theorem ggX6_sheet_X6_in : GoodIn wsX6_sheet wsX6_in := goodIn_r _ [9] (by decide +kernel) (by decide +kernel)
set_option maxRecDepth 20000 in
theorem gX6_sheet_X6_in : GoodIn wsX6_sheet (va_wsS RX6 50 yX6_in wsX6_in) := goodIn_app (goodIn_of _ (by decide +kernel)) ggX6_sheet_X6_in
theorem dX6_sheet_0 : decode cX6_sheet 0 = .ok (.iload_n 1, 1) := by decide +kernel
theorem dX6_sheet_1 : decode cX6_sheet 1 = .ok (.i2l, 1) := by decide +kernel
theorem dX6_sheet_2 : decode cX6_sheet 2 = .ok (.lconst 0, 1) := by decide +kernel
theorem dX6_sheet_3 : decode cX6_sheet 3 = .ok (.ldc2_w 156, 3) := by decide +kernel
theorem dX6_sheet_6 : decode cX6_sheet 6 = .ok (.invokestatic 50, 3) := by decide +kernel
theorem dX6_sheet_9 : decode cX6_sheet 9 = .ok (.ifCond .eq 21, 3) := by decide +kernel
theorem dX6_sheet_12 : decode cX6_sheet 12 = .ok (.iload_n 2, 1) := by decide +kernel
theorem dX6_sheet_13 : decode cX6_sheet 13 = .ok (.i2l, 1) := by decide +kernel
theorem dX6_sheet_14 : decode cX6_sheet 14 = .ok (.lconst 0, 1) := by decide +kernel
theorem dX6_sheet_15 : decode cX6_sheet 15 = .ok (.ldc2_w 235, 3) := by decide +kernel
theorem dX6_sheet_18 : decode cX6_sheet 18 = .ok (.invokestatic 50, 3) := by decide +kernel
theorem dX6_sheet_21 : decode cX6_sheet 21 = .ok (.ifCond .eq 9, 3) := by decide +kernel
theorem dX6_sheet_24 : decode cX6_sheet 24 = .ok (.iload_n 3, 1) := by decide +kernel
theorem dX6_sheet_25 : decode cX6_sheet 25 = .ok (.bipush 40, 2) := by decide +kernel
theorem dX6_sheet_27 : decode cX6_sheet 27 = .ok (.if_icmp .le 5, 3) := by decide +kernel
theorem dX6_sheet_30 : decode cX6_sheet 30 = .ok (.iconst (-1), 1) := by decide +kernel
theorem dX6_sheet_31 : decode cX6_sheet 31 = .ok (.ireturn, 1) := by decide +kernel
theorem dX6_sheet_32 : decode cX6_sheet 32 = .ok (.iload_n 3, 1) := by decide +kernel
theorem dX6_sheet_33 : decode cX6_sheet 33 = .ok (.ifCond .ge 6, 3) := by decide +kernel
theorem dX6_sheet_36 : decode cX6_sheet 36 = .ok (.bipush (-14), 2) := by decide +kernel
theorem dX6_sheet_38 : decode cX6_sheet 38 = .ok (.ireturn, 1) := by decide +kernel
theorem dX6_sheet_39 : decode cX6_sheet 39 = .ok (.aload_n 0, 1) := by decide +kernel
theorem dX6_sheet_40 : decode cX6_sheet 40 = .ok (.getfield 39, 3) := by decide +kernel
theorem dX6_sheet_43 : decode cX6_sheet 43 = .ok (.iload_n 1, 1) := by decide +kernel
theorem dX6_sheet_44 : decode cX6_sheet 44 = .ok (.iload_n 2, 1) := by decide +kernel
theorem dX6_sheet_45 : decode cX6_sheet 45 = .ok (.iastore, 1) := by decide +kernel
theorem dX6_sheet_46 : decode cX6_sheet 46 = .ok (.aload_n 0, 1) := by decide +kernel
theorem dX6_sheet_47 : decode cX6_sheet 47 = .ok (.getfield 42, 3) := by decide +kernel
theorem dX6_sheet_50 : decode cX6_sheet 50 = .ok (.iload_n 1, 1) := by decide +kernel
theorem dX6_sheet_51 : decode cX6_sheet 51 = .ok (.iload_n 3, 1) := by decide +kernel
theorem dX6_sheet_52 : decode cX6_sheet 52 = .ok (.iastore, 1) := by decide +kernel
theorem dX6_sheet_53 : decode cX6_sheet 53 = .ok (.iconst 0, 1) := by decide +kernel
theorem dX6_sheet_54 : decode cX6_sheet 54 = .ok (.istore 4, 2) := by decide +kernel
theorem dX6_sheet_56 : decode cX6_sheet 56 = .ok (.iload 4, 2) := by decide +kernel
theorem dX6_sheet_58 : decode cX6_sheet 58 = .ok (.bipush 40, 2) := by decide +kernel
theorem dX6_sheet_60 : decode cX6_sheet 60 = .ok (.if_icmp .ge 22, 3) := by decide +kernel
theorem dX6_sheet_63 : decode cX6_sheet 63 = .ok (.aload_n 0, 1) := by decide +kernel
theorem dX6_sheet_64 : decode cX6_sheet 64 = .ok (.getfield 45, 3) := by decide +kernel
theorem dX6_sheet_67 : decode cX6_sheet 67 = .ok (.bipush 40, 2) := by decide +kernel
theorem dX6_sheet_69 : decode cX6_sheet 69 = .ok (.iload_n 1, 1) := by decide +kernel
theorem dX6_sheet_70 : decode cX6_sheet 70 = .ok (.imul, 1) := by decide +kernel
theorem dX6_sheet_71 : decode cX6_sheet 71 = .ok (.iload 4, 2) := by decide +kernel
theorem dX6_sheet_73 : decode cX6_sheet 73 = .ok (.iadd, 1) := by decide +kernel
theorem dX6_sheet_74 : decode cX6_sheet 74 = .ok (.iconst 0, 1) := by decide +kernel
theorem dX6_sheet_75 : decode cX6_sheet 75 = .ok (.iastore, 1) := by decide +kernel
theorem dX6_sheet_76 : decode cX6_sheet 76 = .ok (.iinc 4 1, 3) := by decide +kernel
theorem dX6_sheet_79 : decode cX6_sheet 79 = .ok (.goto (-23), 3) := by decide +kernel
theorem dX6_sheet_82 : decode cX6_sheet 82 = .ok (.iconst 1, 1) := by decide +kernel
theorem dX6_sheet_83 : decode cX6_sheet 83 = .ok (.ireturn, 1) := by decide +kernel
set_option maxRecDepth 20000 in
theorem ggX6_lay_X6_in : GoodIn wsX6_lay wsX6_in := goodIn_r _ [8] (by decide +kernel) (by decide +kernel)
set_option maxRecDepth 20000 in
theorem gX6_lay_X6_in : GoodIn wsX6_lay (va_wsS RX6 50 yX6_in wsX6_in) := goodIn_app (goodIn_of _ (by decide +kernel)) ggX6_lay_X6_in
theorem dX6_lay_0 : decode cX6_lay 0 = .ok (.iload_n 1, 1) := by decide +kernel
theorem dX6_lay_1 : decode cX6_lay 1 = .ok (.i2l, 1) := by decide +kernel
theorem dX6_lay_2 : decode cX6_lay 2 = .ok (.lconst 0, 1) := by decide +kernel
theorem dX6_lay_3 : decode cX6_lay 3 = .ok (.ldc2_w 156, 3) := by decide +kernel
theorem dX6_lay_6 : decode cX6_lay 6 = .ok (.invokestatic 50, 3) := by decide +kernel
theorem dX6_lay_9 : decode cX6_lay 9 = .ok (.ifCond .ne 5, 3) := by decide +kernel
theorem dX6_lay_12 : decode cX6_lay 12 = .ok (.iconst (-1), 1) := by decide +kernel
theorem dX6_lay_13 : decode cX6_lay 13 = .ok (.ireturn, 1) := by decide +kernel
theorem dX6_lay_14 : decode cX6_lay 14 = .ok (.aload_n 0, 1) := by decide +kernel
theorem dX6_lay_15 : decode cX6_lay 15 = .ok (.getfield 39, 3) := by decide +kernel
theorem dX6_lay_18 : decode cX6_lay 18 = .ok (.iload_n 1, 1) := by decide +kernel
theorem dX6_lay_19 : decode cX6_lay 19 = .ok (.iaload, 1) := by decide +kernel
theorem dX6_lay_20 : decode cX6_lay 20 = .ok (.bipush (-4), 2) := by decide +kernel
theorem dX6_lay_22 : decode cX6_lay 22 = .ok (.if_icmp .ne 6, 3) := by decide +kernel
theorem dX6_lay_25 : decode cX6_lay 25 = .ok (.bipush (-11), 2) := by decide +kernel
theorem dX6_lay_27 : decode cX6_lay 27 = .ok (.ireturn, 1) := by decide +kernel
theorem dX6_lay_28 : decode cX6_lay 28 = .ok (.iload_n 2, 1) := by decide +kernel
theorem dX6_lay_29 : decode cX6_lay 29 = .ok (.i2l, 1) := by decide +kernel
theorem dX6_lay_30 : decode cX6_lay 30 = .ok (.lconst 0, 1) := by decide +kernel
theorem dX6_lay_31 : decode cX6_lay 31 = .ok (.aload_n 0, 1) := by decide +kernel
theorem dX6_lay_32 : decode cX6_lay 32 = .ok (.getfield 42, 3) := by decide +kernel
theorem dX6_lay_35 : decode cX6_lay 35 = .ok (.iload_n 1, 1) := by decide +kernel
theorem dX6_lay_36 : decode cX6_lay 36 = .ok (.iaload, 1) := by decide +kernel
theorem dX6_lay_37 : decode cX6_lay 37 = .ok (.iconst 1, 1) := by decide +kernel
theorem dX6_lay_38 : decode cX6_lay 38 = .ok (.isub, 1) := by decide +kernel
theorem dX6_lay_39 : decode cX6_lay 39 = .ok (.i2l, 1) := by decide +kernel
theorem dX6_lay_40 : decode cX6_lay 40 = .ok (.invokestatic 50, 3) := by decide +kernel
theorem dX6_lay_43 : decode cX6_lay 43 = .ok (.ifCond .ne 6, 3) := by decide +kernel
theorem dX6_lay_46 : decode cX6_lay 46 = .ok (.bipush (-12), 2) := by decide +kernel
theorem dX6_lay_48 : decode cX6_lay 48 = .ok (.ireturn, 1) := by decide +kernel
theorem dX6_lay_49 : decode cX6_lay 49 = .ok (.aload_n 0, 1) := by decide +kernel
theorem dX6_lay_50 : decode cX6_lay 50 = .ok (.getfield 45, 3) := by decide +kernel
theorem dX6_lay_53 : decode cX6_lay 53 = .ok (.bipush 40, 2) := by decide +kernel
theorem dX6_lay_55 : decode cX6_lay 55 = .ok (.iload_n 1, 1) := by decide +kernel
theorem dX6_lay_56 : decode cX6_lay 56 = .ok (.imul, 1) := by decide +kernel
theorem dX6_lay_57 : decode cX6_lay 57 = .ok (.iload_n 2, 1) := by decide +kernel
theorem dX6_lay_58 : decode cX6_lay 58 = .ok (.iadd, 1) := by decide +kernel
theorem dX6_lay_59 : decode cX6_lay 59 = .ok (.aload_n 0, 1) := by decide +kernel
theorem dX6_lay_60 : decode cX6_lay 60 = .ok (.getfield 39, 3) := by decide +kernel
theorem dX6_lay_63 : decode cX6_lay 63 = .ok (.iload_n 1, 1) := by decide +kernel
theorem dX6_lay_64 : decode cX6_lay 64 = .ok (.iaload, 1) := by decide +kernel
theorem dX6_lay_65 : decode cX6_lay 65 = .ok (.ifCond .ne 13, 3) := by decide +kernel
theorem dX6_lay_68 : decode cX6_lay 68 = .ok (.iload_n 3, 1) := by decide +kernel
theorem dX6_lay_69 : decode cX6_lay 69 = .ok (.bipush 24, 2) := by decide +kernel
theorem dX6_lay_71 : decode cX6_lay 71 = .ok (.ishl, 1) := by decide +kernel
theorem dX6_lay_72 : decode cX6_lay 72 = .ok (.bipush 24, 2) := by decide +kernel
theorem dX6_lay_74 : decode cX6_lay 74 = .ok (.ishr, 1) := by decide +kernel
theorem dX6_lay_75 : decode cX6_lay 75 = .ok (.goto 24, 3) := by decide +kernel
theorem dX6_lay_78 : decode cX6_lay 78 = .ok (.aload_n 0, 1) := by decide +kernel
theorem dX6_lay_79 : decode cX6_lay 79 = .ok (.getfield 39, 3) := by decide +kernel
theorem dX6_lay_82 : decode cX6_lay 82 = .ok (.iload_n 1, 1) := by decide +kernel
theorem dX6_lay_83 : decode cX6_lay 83 = .ok (.iaload, 1) := by decide +kernel
theorem dX6_lay_84 : decode cX6_lay 84 = .ok (.iconst 1, 1) := by decide +kernel
theorem dX6_lay_85 : decode cX6_lay 85 = .ok (.if_icmp .ne 13, 3) := by decide +kernel
theorem dX6_lay_88 : decode cX6_lay 88 = .ok (.iload_n 3, 1) := by decide +kernel
theorem dX6_lay_89 : decode cX6_lay 89 = .ok (.bipush 16, 2) := by decide +kernel
theorem dX6_lay_91 : decode cX6_lay 91 = .ok (.ishl, 1) := by decide +kernel
theorem dX6_lay_92 : decode cX6_lay 92 = .ok (.bipush 16, 2) := by decide +kernel
theorem dX6_lay_94 : decode cX6_lay 94 = .ok (.ishr, 1) := by decide +kernel
theorem dX6_lay_95 : decode cX6_lay 95 = .ok (.goto 4, 3) := by decide +kernel
theorem dX6_lay_98 : decode cX6_lay 98 = .ok (.iload_n 3, 1) := by decide +kernel
theorem dX6_lay_99 : decode cX6_lay 99 = .ok (.iastore, 1) := by decide +kernel
theorem dX6_lay_100 : decode cX6_lay 100 = .ok (.iconst 1, 1) := by decide +kernel
theorem dX6_lay_101 : decode cX6_lay 101 = .ok (.ireturn, 1) := by decide +kernel
set_option maxRecDepth 20000 in
theorem ggX6_read_X6_in : GoodIn wsX6_read wsX6_in := goodIn_r _ [12] (by decide +kernel) (by decide +kernel)
set_option maxRecDepth 20000 in
theorem gX6_read_X6_in : GoodIn wsX6_read (va_wsS RX6 50 yX6_in wsX6_in) := goodIn_app (goodIn_of _ (by decide +kernel)) ggX6_read_X6_in
set_option maxRecDepth 20000 in
theorem ggX6_read_X6_copies : GoodIn wsX6_read wsX6_copies := goodIn_r _ [16, 6, 77, 78, 79, 80, 81, 82, 83, 84, 85, 86, 87, 88, 89, 90, 91, 92, 93, 94, 95, 96, 97, 98, 99, 100, 101, 102] (by decide +kernel) (by decide +kernel)
set_option maxRecDepth 20000 in
theorem gX6_read_X6_copies : GoodIn wsX6_read (wsV RX6 188 RX6 yX6_copies wsX6_copies) := goodIn_app (goodIn_of _ (by decide +kernel)) ggX6_read_X6_copies
set_option maxRecDepth 20000 in
theorem ggX6_read_X6_alters : GoodIn wsX6_read wsX6_alters := goodIn_r _ [20, 1, 3, 21, 9, 10, 11, 12, 22, 23, 24, 25, 26, 27, 28, 29, 6, 30, 31, 32, 33, 77, 78, 79, 80, 81, 82, 83, 84, 85, 86, 87, 88, 89, 90, 91, 92, 93, 94, 95, 96, 97, 98, 99, 100, 101, 102] (by decide +kernel) (by decide +kernel)
set_option maxRecDepth 20000 in
theorem gX6_read_X6_alters : GoodIn wsX6_read (wsV RX6 169 RX6 yX6_alters wsX6_alters) := goodIn_app (goodIn_of _ (by decide +kernel)) ggX6_read_X6_alters
set_option maxRecDepth 20000 in
theorem ggX6_read_X6_yearOn : GoodIn wsX6_read wsX6_yearOn := goodIn_r _ [37, 6, 38, 39, 40, 11, 41, 42, 43, 44, 45, 46, 47, 48, 49, 50, 51, 52, 53, 54, 55, 56, 57, 58, 59, 60, 61, 62, 63, 64, 65, 66, 67, 68, 69, 70, 71, 72, 73, 74, 75, 76, 77, 78, 79, 80, 81, 82, 83, 84, 85, 86, 87, 88, 89, 90, 91, 92, 93, 94, 95, 96, 97, 98, 99, 100, 101, 102] (by decide +kernel) (by decide +kernel)
set_option maxRecDepth 20000 in
theorem gX6_read_X6_yearOn : GoodIn wsX6_read (wsV RX6 185 RX6 yX6_yearOn wsX6_yearOn) := goodIn_app (goodIn_of _ (by decide +kernel)) ggX6_read_X6_yearOn
theorem dX6_read_0 : decode cX6_read 0 = .ok (.iload_n 1, 1) := by decide +kernel
theorem dX6_read_1 : decode cX6_read 1 = .ok (.i2l, 1) := by decide +kernel
theorem dX6_read_2 : decode cX6_read 2 = .ok (.lconst 0, 1) := by decide +kernel
theorem dX6_read_3 : decode cX6_read 3 = .ok (.ldc2_w 156, 3) := by decide +kernel
theorem dX6_read_6 : decode cX6_read 6 = .ok (.invokestatic 50, 3) := by decide +kernel
theorem dX6_read_9 : decode cX6_read 9 = .ok (.ifCond .eq 28, 3) := by decide +kernel
theorem dX6_read_12 : decode cX6_read 12 = .ok (.iload_n 2, 1) := by decide +kernel
theorem dX6_read_13 : decode cX6_read 13 = .ok (.i2l, 1) := by decide +kernel
theorem dX6_read_14 : decode cX6_read 14 = .ok (.lconst 0, 1) := by decide +kernel
theorem dX6_read_15 : decode cX6_read 15 = .ok (.ldc2_w 235, 3) := by decide +kernel
theorem dX6_read_18 : decode cX6_read 18 = .ok (.invokestatic 50, 3) := by decide +kernel
theorem dX6_read_21 : decode cX6_read 21 = .ok (.ifCond .eq 16, 3) := by decide +kernel
theorem dX6_read_24 : decode cX6_read 24 = .ok (.iload 4, 2) := by decide +kernel
theorem dX6_read_26 : decode cX6_read 26 = .ok (.i2l, 1) := by decide +kernel
theorem dX6_read_27 : decode cX6_read 27 = .ok (.lconst 0, 1) := by decide +kernel
theorem dX6_read_28 : decode cX6_read 28 = .ok (.ldc2_w 158, 3) := by decide +kernel
theorem dX6_read_31 : decode cX6_read 31 = .ok (.invokestatic 50, 3) := by decide +kernel
theorem dX6_read_34 : decode cX6_read 34 = .ok (.ifCond .ne 5, 3) := by decide +kernel
theorem dX6_read_37 : decode cX6_read 37 = .ok (.iconst (-1), 1) := by decide +kernel
theorem dX6_read_38 : decode cX6_read 38 = .ok (.ireturn, 1) := by decide +kernel
theorem dX6_read_39 : decode cX6_read 39 = .ok (.aload_n 0, 1) := by decide +kernel
theorem dX6_read_40 : decode cX6_read 40 = .ok (.iconst 0, 1) := by decide +kernel
theorem dX6_read_41 : decode cX6_read 41 = .ok (.bipush 78, 2) := by decide +kernel
theorem dX6_read_43 : decode cX6_read 43 = .ok (.invokevirtual 188, 3) := by decide +kernel
theorem dX6_read_46 : decode cX6_read 46 = .ok (.iconst 0, 1) := by decide +kernel
theorem dX6_read_47 : decode cX6_read 47 = .ok (.istore 5, 2) := by decide +kernel
theorem dX6_read_49 : decode cX6_read 49 = .ok (.iconst 0, 1) := by decide +kernel
theorem dX6_read_50 : decode cX6_read 50 = .ok (.istore 6, 2) := by decide +kernel
theorem dX6_read_52 : decode cX6_read 52 = .ok (.iconst 0, 1) := by decide +kernel
theorem dX6_read_53 : decode cX6_read 53 = .ok (.istore 7, 2) := by decide +kernel
theorem dX6_read_55 : decode cX6_read 55 = .ok (.iload 7, 2) := by decide +kernel
theorem dX6_read_57 : decode cX6_read 57 = .ok (.iconst 2, 1) := by decide +kernel
theorem dX6_read_58 : decode cX6_read 58 = .ok (.iload 4, 2) := by decide +kernel
theorem dX6_read_60 : decode cX6_read 60 = .ok (.imul, 1) := by decide +kernel
theorem dX6_read_61 : decode cX6_read 61 = .ok (.if_icmp .ge 154, 3) := by decide +kernel
theorem dX6_read_64 : decode cX6_read 64 = .ok (.iload 5, 2) := by decide +kernel
theorem dX6_read_66 : decode cX6_read 66 = .ok (.ifCond .ne 149, 3) := by decide +kernel
theorem dX6_read_69 : decode cX6_read 69 = .ok (.aload_n 0, 1) := by decide +kernel
theorem dX6_read_70 : decode cX6_read 70 = .ok (.getfield 39, 3) := by decide +kernel
theorem dX6_read_73 : decode cX6_read 73 = .ok (.iload_n 1, 1) := by decide +kernel
theorem dX6_read_74 : decode cX6_read 74 = .ok (.iaload, 1) := by decide +kernel
theorem dX6_read_75 : decode cX6_read 75 = .ok (.bipush (-4), 2) := by decide +kernel
theorem dX6_read_77 : decode cX6_read 77 = .ok (.if_icmp .ne 7, 3) := by decide +kernel
theorem dX6_read_80 : decode cX6_read 80 = .ok (.iconst 1, 1) := by decide +kernel
theorem dX6_read_81 : decode cX6_read 81 = .ok (.goto 44, 3) := by decide +kernel
theorem dX6_read_84 : decode cX6_read 84 = .ok (.aload_n 0, 1) := by decide +kernel
theorem dX6_read_85 : decode cX6_read 85 = .ok (.getfield 39, 3) := by decide +kernel
theorem dX6_read_88 : decode cX6_read 88 = .ok (.iload_n 1, 1) := by decide +kernel
theorem dX6_read_89 : decode cX6_read 89 = .ok (.iaload, 1) := by decide +kernel
theorem dX6_read_90 : decode cX6_read 90 = .ok (.iload_n 2, 1) := by decide +kernel
theorem dX6_read_91 : decode cX6_read 91 = .ok (.if_icmp .eq 7, 3) := by decide +kernel
theorem dX6_read_94 : decode cX6_read 94 = .ok (.iconst 3, 1) := by decide +kernel
theorem dX6_read_95 : decode cX6_read 95 = .ok (.goto 30, 3) := by decide +kernel
theorem dX6_read_98 : decode cX6_read 98 = .ok (.iload_n 3, 1) := by decide +kernel
theorem dX6_read_99 : decode cX6_read 99 = .ok (.i2l, 1) := by decide +kernel
theorem dX6_read_100 : decode cX6_read 100 = .ok (.iload 7, 2) := by decide +kernel
theorem dX6_read_102 : decode cX6_read 102 = .ok (.i2l, 1) := by decide +kernel
theorem dX6_read_103 : decode cX6_read 103 = .ok (.ladd, 1) := by decide +kernel
theorem dX6_read_104 : decode cX6_read 104 = .ok (.lconst 0, 1) := by decide +kernel
theorem dX6_read_105 : decode cX6_read 105 = .ok (.aload_n 0, 1) := by decide +kernel
theorem dX6_read_106 : decode cX6_read 106 = .ok (.getfield 42, 3) := by decide +kernel
theorem dX6_read_109 : decode cX6_read 109 = .ok (.iload_n 1, 1) := by decide +kernel
theorem dX6_read_110 : decode cX6_read 110 = .ok (.iaload, 1) := by decide +kernel
theorem dX6_read_111 : decode cX6_read 111 = .ok (.iconst 1, 1) := by decide +kernel
theorem dX6_read_112 : decode cX6_read 112 = .ok (.isub, 1) := by decide +kernel
theorem dX6_read_113 : decode cX6_read 113 = .ok (.i2l, 1) := by decide +kernel
theorem dX6_read_114 : decode cX6_read 114 = .ok (.invokestatic 50, 3) := by decide +kernel
theorem dX6_read_117 : decode cX6_read 117 = .ok (.ifCond .ne 7, 3) := by decide +kernel
theorem dX6_read_120 : decode cX6_read 120 = .ok (.iconst 2, 1) := by decide +kernel
theorem dX6_read_121 : decode cX6_read 121 = .ok (.goto 4, 3) := by decide +kernel
theorem dX6_read_124 : decode cX6_read 124 = .ok (.iconst 0, 1) := by decide +kernel
theorem dX6_read_125 : decode cX6_read 125 = .ok (.istore 5, 2) := by decide +kernel
theorem dX6_read_127 : decode cX6_read 127 = .ok (.iload 5, 2) := by decide +kernel
theorem dX6_read_129 : decode cX6_read 129 = .ok (.ifCond .ne 80, 3) := by decide +kernel
theorem dX6_read_132 : decode cX6_read 132 = .ok (.iload 7, 2) := by decide +kernel
theorem dX6_read_134 : decode cX6_read 134 = .ok (.iconst 2, 1) := by decide +kernel
theorem dX6_read_135 : decode cX6_read 135 = .ok (.irem, 1) := by decide +kernel
theorem dX6_read_136 : decode cX6_read 136 = .ok (.iconst 1, 1) := by decide +kernel
theorem dX6_read_137 : decode cX6_read 137 = .ok (.if_icmp .ne 72, 3) := by decide +kernel
theorem dX6_read_140 : decode cX6_read 140 = .ok (.bipush 40, 2) := by decide +kernel
theorem dX6_read_142 : decode cX6_read 142 = .ok (.iload_n 1, 1) := by decide +kernel
theorem dX6_read_143 : decode cX6_read 143 = .ok (.imul, 1) := by decide +kernel
theorem dX6_read_144 : decode cX6_read 144 = .ok (.iload_n 3, 1) := by decide +kernel
theorem dX6_read_145 : decode cX6_read 145 = .ok (.iadd, 1) := by decide +kernel
theorem dX6_read_146 : decode cX6_read 146 = .ok (.iload 7, 2) := by decide +kernel
theorem dX6_read_148 : decode cX6_read 148 = .ok (.iadd, 1) := by decide +kernel
theorem dX6_read_149 : decode cX6_read 149 = .ok (.istore 8, 2) := by decide +kernel
theorem dX6_read_151 : decode cX6_read 151 = .ok (.aload_n 0, 1) := by decide +kernel
theorem dX6_read_152 : decode cX6_read 152 = .ok (.getfield 7, 3) := by decide +kernel
theorem dX6_read_155 : decode cX6_read 155 = .ok (.bipush 25, 2) := by decide +kernel
theorem dX6_read_157 : decode cX6_read 157 = .ok (.iaload, 1) := by decide +kernel
theorem dX6_read_158 : decode cX6_read 158 = .ok (.sipush 999, 3) := by decide +kernel
theorem dX6_read_161 : decode cX6_read 161 = .ok (.if_icmp .eq 27, 3) := by decide +kernel
theorem dX6_read_164 : decode cX6_read 164 = .ok (.aload_n 0, 1) := by decide +kernel
theorem dX6_read_165 : decode cX6_read 165 = .ok (.aload_n 0, 1) := by decide +kernel
theorem dX6_read_166 : decode cX6_read 166 = .ok (.getfield 45, 3) := by decide +kernel
theorem dX6_read_169 : decode cX6_read 169 = .ok (.iload 8, 2) := by decide +kernel
theorem dX6_read_171 : decode cX6_read 171 = .ok (.iconst 1, 1) := by decide +kernel
theorem dX6_read_172 : decode cX6_read 172 = .ok (.isub, 1) := by decide +kernel
theorem dX6_read_173 : decode cX6_read 173 = .ok (.iaload, 1) := by decide +kernel
theorem dX6_read_174 : decode cX6_read 174 = .ok (.iconst 2, 1) := by decide +kernel
theorem dX6_read_175 : decode cX6_read 175 = .ok (.aload_n 0, 1) := by decide +kernel
theorem dX6_read_176 : decode cX6_read 176 = .ok (.getfield 45, 3) := by decide +kernel
theorem dX6_read_179 : decode cX6_read 179 = .ok (.iload 8, 2) := by decide +kernel
theorem dX6_read_181 : decode cX6_read 181 = .ok (.iaload, 1) := by decide +kernel
theorem dX6_read_182 : decode cX6_read 182 = .ok (.invokevirtual 169, 3) := by decide +kernel
theorem dX6_read_185 : decode cX6_read 185 = .ok (.ifCond .ge 16, 3) := by decide +kernel
theorem dX6_read_188 : decode cX6_read 188 = .ok (.aload_n 0, 1) := by decide +kernel
theorem dX6_read_189 : decode cX6_read 189 = .ok (.bipush 78, 2) := by decide +kernel
theorem dX6_read_191 : decode cX6_read 191 = .ok (.iconst 0, 1) := by decide +kernel
theorem dX6_read_192 : decode cX6_read 192 = .ok (.invokevirtual 188, 3) := by decide +kernel
theorem dX6_read_195 : decode cX6_read 195 = .ok (.bipush (-20), 2) := by decide +kernel
theorem dX6_read_197 : decode cX6_read 197 = .ok (.iload 6, 2) := by decide +kernel
theorem dX6_read_199 : decode cX6_read 199 = .ok (.isub, 1) := by decide +kernel
theorem dX6_read_200 : decode cX6_read 200 = .ok (.ireturn, 1) := by decide +kernel
theorem dX6_read_201 : decode cX6_read 201 = .ok (.aload_n 0, 1) := by decide +kernel
theorem dX6_read_202 : decode cX6_read 202 = .ok (.iconst 0, 1) := by decide +kernel
theorem dX6_read_203 : decode cX6_read 203 = .ok (.invokevirtual 185, 3) := by decide +kernel
theorem dX6_read_206 : decode cX6_read 206 = .ok (.iinc 6 1, 3) := by decide +kernel
theorem dX6_read_209 : decode cX6_read 209 = .ok (.iinc 7 1, 3) := by decide +kernel
theorem dX6_read_212 : decode cX6_read 212 = .ok (.goto (-157), 3) := by decide +kernel
theorem dX6_read_215 : decode cX6_read 215 = .ok (.aload_n 0, 1) := by decide +kernel
theorem dX6_read_216 : decode cX6_read 216 = .ok (.iload 5, 2) := by decide +kernel
theorem dX6_read_218 : decode cX6_read 218 = .ok (.putfield 237, 3) := by decide +kernel
theorem dX6_read_221 : decode cX6_read 221 = .ok (.iload 6, 2) := by decide +kernel
theorem dX6_read_223 : decode cX6_read 223 = .ok (.ireturn, 1) := by decide +kernel
theorem dX6_torn_0 : decode cX6_torn 0 = .ok (.aload_n 0, 1) := by decide +kernel
theorem dX6_torn_1 : decode cX6_torn 1 = .ok (.getfield 237, 3) := by decide +kernel
theorem dX6_torn_4 : decode cX6_torn 4 = .ok (.ireturn, 1) := by decide +kernel
theorem dX6_count_0 : decode cX6_count 0 = .ok (.iconst 0, 1) := by decide +kernel
theorem dX6_count_1 : decode cX6_count 1 = .ok (.istore_n 2, 1) := by decide +kernel
theorem dX6_count_2 : decode cX6_count 2 = .ok (.iconst 0, 1) := by decide +kernel
theorem dX6_count_3 : decode cX6_count 3 = .ok (.istore_n 3, 1) := by decide +kernel
theorem dX6_count_4 : decode cX6_count 4 = .ok (.iconst 0, 1) := by decide +kernel
theorem dX6_count_5 : decode cX6_count 5 = .ok (.istore 4, 2) := by decide +kernel
theorem dX6_count_7 : decode cX6_count 7 = .ok (.iload 4, 2) := by decide +kernel
theorem dX6_count_9 : decode cX6_count 9 = .ok (.aload_n 0, 1) := by decide +kernel
theorem dX6_count_10 : decode cX6_count 10 = .ok (.getfield 7, 3) := by decide +kernel
theorem dX6_count_13 : decode cX6_count 13 = .ok (.bipush 20, 2) := by decide +kernel
theorem dX6_count_15 : decode cX6_count 15 = .ok (.iaload, 1) := by decide +kernel
theorem dX6_count_16 : decode cX6_count 16 = .ok (.if_icmp .ge 49, 3) := by decide +kernel
theorem dX6_count_19 : decode cX6_count 19 = .ok (.iload_n 2, 1) := by decide +kernel
theorem dX6_count_20 : decode cX6_count 20 = .ok (.aload_n 0, 1) := by decide +kernel
theorem dX6_count_21 : decode cX6_count 21 = .ok (.getfield 7, 3) := by decide +kernel
theorem dX6_count_24 : decode cX6_count 24 = .ok (.iconst 5, 1) := by decide +kernel
theorem dX6_count_25 : decode cX6_count 25 = .ok (.iload 4, 2) := by decide +kernel
theorem dX6_count_27 : decode cX6_count 27 = .ok (.iadd, 1) := by decide +kernel
theorem dX6_count_28 : decode cX6_count 28 = .ok (.iaload, 1) := by decide +kernel
theorem dX6_count_29 : decode cX6_count 29 = .ok (.iadd, 1) := by decide +kernel
theorem dX6_count_30 : decode cX6_count 30 = .ok (.istore_n 2, 1) := by decide +kernel
theorem dX6_count_31 : decode cX6_count 31 = .ok (.iload_n 3, 1) := by decide +kernel
theorem dX6_count_32 : decode cX6_count 32 = .ok (.aload_n 0, 1) := by decide +kernel
theorem dX6_count_33 : decode cX6_count 33 = .ok (.getfield 7, 3) := by decide +kernel
theorem dX6_count_36 : decode cX6_count 36 = .ok (.bipush 25, 2) := by decide +kernel
theorem dX6_count_38 : decode cX6_count 38 = .ok (.iaload, 1) := by decide +kernel
theorem dX6_count_39 : decode cX6_count 39 = .ok (.aload_n 0, 1) := by decide +kernel
theorem dX6_count_40 : decode cX6_count 40 = .ok (.getfield 7, 3) := by decide +kernel
theorem dX6_count_43 : decode cX6_count 43 = .ok (.bipush 15, 2) := by decide +kernel
theorem dX6_count_45 : decode cX6_count 45 = .ok (.iload 4, 2) := by decide +kernel
theorem dX6_count_47 : decode cX6_count 47 = .ok (.iadd, 1) := by decide +kernel
theorem dX6_count_48 : decode cX6_count 48 = .ok (.iaload, 1) := by decide +kernel
theorem dX6_count_49 : decode cX6_count 49 = .ok (.if_icmp .lt 7, 3) := by decide +kernel
theorem dX6_count_52 : decode cX6_count 52 = .ok (.iconst 1, 1) := by decide +kernel
theorem dX6_count_53 : decode cX6_count 53 = .ok (.goto 4, 3) := by decide +kernel
theorem dX6_count_56 : decode cX6_count 56 = .ok (.iconst 0, 1) := by decide +kernel
theorem dX6_count_57 : decode cX6_count 57 = .ok (.iadd, 1) := by decide +kernel
theorem dX6_count_58 : decode cX6_count 58 = .ok (.istore_n 3, 1) := by decide +kernel
theorem dX6_count_59 : decode cX6_count 59 = .ok (.iinc 4 1, 3) := by decide +kernel
theorem dX6_count_62 : decode cX6_count 62 = .ok (.goto (-55), 3) := by decide +kernel
theorem dX6_count_65 : decode cX6_count 65 = .ok (.iload_n 1, 1) := by decide +kernel
theorem dX6_count_66 : decode cX6_count 66 = .ok (.tableswitch 105 0 5 #[38, 43, 73, 78, 101, 103], 38) := by decide +kernel
theorem dX6_count_104 : decode cX6_count 104 = .ok (.aload_n 0, 1) := by decide +kernel
theorem dX6_count_105 : decode cX6_count 105 = .ok (.getfield 116, 3) := by decide +kernel
theorem dX6_count_108 : decode cX6_count 108 = .ok (.ireturn, 1) := by decide +kernel
theorem dX6_count_109 : decode cX6_count 109 = .ok (.aload_n 0, 1) := by decide +kernel
theorem dX6_count_110 : decode cX6_count 110 = .ok (.getfield 35, 3) := by decide +kernel
theorem dX6_count_113 : decode cX6_count 113 = .ok (.iconst 0, 1) := by decide +kernel
theorem dX6_count_114 : decode cX6_count 114 = .ok (.baload, 1) := by decide +kernel
theorem dX6_count_115 : decode cX6_count 115 = .ok (.ifCond .eq 7, 3) := by decide +kernel
theorem dX6_count_118 : decode cX6_count 118 = .ok (.iconst 1, 1) := by decide +kernel
theorem dX6_count_119 : decode cX6_count 119 = .ok (.goto 4, 3) := by decide +kernel
theorem dX6_count_122 : decode cX6_count 122 = .ok (.iconst 0, 1) := by decide +kernel
theorem dX6_count_123 : decode cX6_count 123 = .ok (.aload_n 0, 1) := by decide +kernel
theorem dX6_count_124 : decode cX6_count 124 = .ok (.getfield 35, 3) := by decide +kernel
theorem dX6_count_127 : decode cX6_count 127 = .ok (.iconst 1, 1) := by decide +kernel
theorem dX6_count_128 : decode cX6_count 128 = .ok (.baload, 1) := by decide +kernel
theorem dX6_count_129 : decode cX6_count 129 = .ok (.ifCond .eq 7, 3) := by decide +kernel
theorem dX6_count_132 : decode cX6_count 132 = .ok (.iconst 1, 1) := by decide +kernel
theorem dX6_count_133 : decode cX6_count 133 = .ok (.goto 4, 3) := by decide +kernel
theorem dX6_count_136 : decode cX6_count 136 = .ok (.iconst 0, 1) := by decide +kernel
theorem dX6_count_137 : decode cX6_count 137 = .ok (.iadd, 1) := by decide +kernel
theorem dX6_count_138 : decode cX6_count 138 = .ok (.ireturn, 1) := by decide +kernel
theorem dX6_count_139 : decode cX6_count 139 = .ok (.aload_n 0, 1) := by decide +kernel
theorem dX6_count_140 : decode cX6_count 140 = .ok (.getfield 54, 3) := by decide +kernel
theorem dX6_count_143 : decode cX6_count 143 = .ok (.ireturn, 1) := by decide +kernel
theorem dX6_count_144 : decode cX6_count 144 = .ok (.aload_n 0, 1) := by decide +kernel
theorem dX6_count_145 : decode cX6_count 145 = .ok (.getfield 39, 3) := by decide +kernel
theorem dX6_count_148 : decode cX6_count 148 = .ok (.iconst 0, 1) := by decide +kernel
theorem dX6_count_149 : decode cX6_count 149 = .ok (.iaload, 1) := by decide +kernel
theorem dX6_count_150 : decode cX6_count 150 = .ok (.bipush (-4), 2) := by decide +kernel
theorem dX6_count_152 : decode cX6_count 152 = .ok (.if_icmp .ne 8, 3) := by decide +kernel
theorem dX6_count_155 : decode cX6_count 155 = .ok (.bipush (-4), 2) := by decide +kernel
theorem dX6_count_157 : decode cX6_count 157 = .ok (.goto 9, 3) := by decide +kernel
theorem dX6_count_160 : decode cX6_count 160 = .ok (.aload_n 0, 1) := by decide +kernel
theorem dX6_count_161 : decode cX6_count 161 = .ok (.getfield 42, 3) := by decide +kernel
theorem dX6_count_164 : decode cX6_count 164 = .ok (.iconst 0, 1) := by decide +kernel
theorem dX6_count_165 : decode cX6_count 165 = .ok (.iaload, 1) := by decide +kernel
theorem dX6_count_166 : decode cX6_count 166 = .ok (.ireturn, 1) := by decide +kernel
theorem dX6_count_167 : decode cX6_count 167 = .ok (.iload_n 2, 1) := by decide +kernel
theorem dX6_count_168 : decode cX6_count 168 = .ok (.ireturn, 1) := by decide +kernel
theorem dX6_count_169 : decode cX6_count 169 = .ok (.iload_n 3, 1) := by decide +kernel
theorem dX6_count_170 : decode cX6_count 170 = .ok (.ireturn, 1) := by decide +kernel
theorem dX6_count_171 : decode cX6_count 171 = .ok (.iconst (-1), 1) := by decide +kernel
theorem dX6_count_172 : decode cX6_count 172 = .ok (.ireturn, 1) := by decide +kernel
theorem dJ6_bitCount_0f7a4_0 : decode cJ6_bitCount_0f7a4 0 = .ok (.iload_n 0, 1) := by decide +kernel
theorem dJ6_bitCount_0f7a4_1 : decode cJ6_bitCount_0f7a4 1 = .ok (.iload_n 0, 1) := by decide +kernel
theorem dJ6_bitCount_0f7a4_2 : decode cJ6_bitCount_0f7a4 2 = .ok (.iconst 1, 1) := by decide +kernel
theorem dJ6_bitCount_0f7a4_3 : decode cJ6_bitCount_0f7a4 3 = .ok (.iushr, 1) := by decide +kernel
theorem dJ6_bitCount_0f7a4_4 : decode cJ6_bitCount_0f7a4 4 = .ok (.ldc_w 265, 3) := by decide +kernel
theorem dJ6_bitCount_0f7a4_7 : decode cJ6_bitCount_0f7a4 7 = .ok (.iand, 1) := by decide +kernel
theorem dJ6_bitCount_0f7a4_8 : decode cJ6_bitCount_0f7a4 8 = .ok (.isub, 1) := by decide +kernel
theorem dJ6_bitCount_0f7a4_9 : decode cJ6_bitCount_0f7a4 9 = .ok (.istore_n 0, 1) := by decide +kernel
theorem dJ6_bitCount_0f7a4_10 : decode cJ6_bitCount_0f7a4 10 = .ok (.iload_n 0, 1) := by decide +kernel
theorem dJ6_bitCount_0f7a4_11 : decode cJ6_bitCount_0f7a4 11 = .ok (.ldc_w 266, 3) := by decide +kernel
theorem dJ6_bitCount_0f7a4_14 : decode cJ6_bitCount_0f7a4 14 = .ok (.iand, 1) := by decide +kernel
theorem dJ6_bitCount_0f7a4_15 : decode cJ6_bitCount_0f7a4 15 = .ok (.iload_n 0, 1) := by decide +kernel
theorem dJ6_bitCount_0f7a4_16 : decode cJ6_bitCount_0f7a4 16 = .ok (.iconst 2, 1) := by decide +kernel
theorem dJ6_bitCount_0f7a4_17 : decode cJ6_bitCount_0f7a4 17 = .ok (.iushr, 1) := by decide +kernel
theorem dJ6_bitCount_0f7a4_18 : decode cJ6_bitCount_0f7a4 18 = .ok (.ldc_w 266, 3) := by decide +kernel
theorem dJ6_bitCount_0f7a4_21 : decode cJ6_bitCount_0f7a4 21 = .ok (.iand, 1) := by decide +kernel
theorem dJ6_bitCount_0f7a4_22 : decode cJ6_bitCount_0f7a4 22 = .ok (.iadd, 1) := by decide +kernel
theorem dJ6_bitCount_0f7a4_23 : decode cJ6_bitCount_0f7a4 23 = .ok (.istore_n 0, 1) := by decide +kernel
theorem dJ6_bitCount_0f7a4_24 : decode cJ6_bitCount_0f7a4 24 = .ok (.iload_n 0, 1) := by decide +kernel
theorem dJ6_bitCount_0f7a4_25 : decode cJ6_bitCount_0f7a4 25 = .ok (.iload_n 0, 1) := by decide +kernel
theorem dJ6_bitCount_0f7a4_26 : decode cJ6_bitCount_0f7a4 26 = .ok (.iconst 4, 1) := by decide +kernel
theorem dJ6_bitCount_0f7a4_27 : decode cJ6_bitCount_0f7a4 27 = .ok (.iushr, 1) := by decide +kernel
theorem dJ6_bitCount_0f7a4_28 : decode cJ6_bitCount_0f7a4 28 = .ok (.iadd, 1) := by decide +kernel
theorem dJ6_bitCount_0f7a4_29 : decode cJ6_bitCount_0f7a4 29 = .ok (.ldc_w 267, 3) := by decide +kernel
theorem dJ6_bitCount_0f7a4_32 : decode cJ6_bitCount_0f7a4 32 = .ok (.iand, 1) := by decide +kernel
theorem dJ6_bitCount_0f7a4_33 : decode cJ6_bitCount_0f7a4 33 = .ok (.istore_n 0, 1) := by decide +kernel
theorem dJ6_bitCount_0f7a4_34 : decode cJ6_bitCount_0f7a4 34 = .ok (.iload_n 0, 1) := by decide +kernel
theorem dJ6_bitCount_0f7a4_35 : decode cJ6_bitCount_0f7a4 35 = .ok (.iload_n 0, 1) := by decide +kernel
theorem dJ6_bitCount_0f7a4_36 : decode cJ6_bitCount_0f7a4 36 = .ok (.bipush 8, 2) := by decide +kernel
theorem dJ6_bitCount_0f7a4_38 : decode cJ6_bitCount_0f7a4 38 = .ok (.iushr, 1) := by decide +kernel
theorem dJ6_bitCount_0f7a4_39 : decode cJ6_bitCount_0f7a4 39 = .ok (.iadd, 1) := by decide +kernel
theorem dJ6_bitCount_0f7a4_40 : decode cJ6_bitCount_0f7a4 40 = .ok (.istore_n 0, 1) := by decide +kernel
theorem dJ6_bitCount_0f7a4_41 : decode cJ6_bitCount_0f7a4 41 = .ok (.iload_n 0, 1) := by decide +kernel
theorem dJ6_bitCount_0f7a4_42 : decode cJ6_bitCount_0f7a4 42 = .ok (.iload_n 0, 1) := by decide +kernel
theorem dJ6_bitCount_0f7a4_43 : decode cJ6_bitCount_0f7a4 43 = .ok (.bipush 16, 2) := by decide +kernel
theorem dJ6_bitCount_0f7a4_45 : decode cJ6_bitCount_0f7a4 45 = .ok (.iushr, 1) := by decide +kernel
theorem dJ6_bitCount_0f7a4_46 : decode cJ6_bitCount_0f7a4 46 = .ok (.iadd, 1) := by decide +kernel
theorem dJ6_bitCount_0f7a4_47 : decode cJ6_bitCount_0f7a4 47 = .ok (.istore_n 0, 1) := by decide +kernel
