theorem mem_r {big : List Cond} (ws : List Cond) (ps : List Nat) (hp : ws = ps.filterMap (fun i => big[i]?)) : ∀ w ∈ ws, w ∈ big := by
  intro w hw
  rw [hp] at hw
  obtain ⟨i, -, hi⟩ := List.mem_filterMap.mp hw
  exact List.mem_of_getElem? hi
set_option maxRecDepth 100000 in
theorem wl_wsL_law_r1 : ∀ w ∈ wsL_law_r1, w ∈ lw_tbl := mem_r _ [99, 100, 85, 827, 828, 91, 101, 102, 103, 104, 105, 106, 107, 108, 86, 249, 250, 251, 191, 252, 154, 155, 87, 253] (by decide +kernel)
set_option maxRecDepth 100000 in
theorem wl_wsL_law_r2 : ∀ w ∈ wsL_law_r2, w ∈ lw_tbl := mem_r _ [193, 194, 88, 254, 210, 211, 89, 255, 229, 256, 152, 257, 258, 231, 90, 110, 111, 112, 117, 113, 115, 0, 116, 118] (by decide +kernel)
set_option maxRecDepth 100000 in
theorem wl_wsL_law_r3 : ∀ w ∈ wsL_law_r3, w ∈ lw_tbl := mem_r _ [120, 124, 128, 131, 134, 157, 158, 159, 192, 160, 196, 197, 198, 199, 200, 213, 214, 215, 228, 216, 218, 233, 234, 235] (by decide +kernel)
set_option maxRecDepth 100000 in
theorem wl_wsL_law_r4 : ∀ w ∈ wsL_law_r4, w ∈ lw_tbl := mem_r _ [236, 238, 829, 830, 831, 832, 833, 834, 836, 845, 846, 847, 851, 853, 854, 855, 856, 857, 286, 287, 288, 289, 290, 291] (by decide +kernel)
set_option maxRecDepth 100000 in
theorem wl_wsL_law_r5 : ∀ w ∈ wsL_law_r5, w ∈ lw_tbl := mem_r _ [292, 295, 1, 296, 161, 912, 913, 914, 915, 916, 837, 917, 918, 919, 297, 298, 299, 300, 920, 921, 922, 923, 301, 302] (by decide +kernel)
set_option maxRecDepth 100000 in
theorem wl_wsL_law_r6 : ∀ w ∈ wsL_law_r6, w ∈ lw_tbl := mem_r _ [303, 304, 259, 308, 2, 309, 163, 167, 168, 170, 164, 310, 312, 3, 313, 165, 314, 315, 316, 317, 319, 4, 320, 321] (by decide +kernel)
set_option maxRecDepth 100000 in
theorem wl_wsL_law_r7 : ∀ w ∈ wsL_law_r7, w ∈ lw_tbl := mem_r _ [322, 323, 324, 326, 5, 327, 166, 328, 330, 6, 331, 332, 334, 7, 335, 336, 337, 338, 346, 348, 8, 349, 350, 351] (by decide +kernel)
set_option maxRecDepth 100000 in
theorem wl_wsL_law_r8 : ∀ w ∈ wsL_law_r8, w ∈ lw_tbl := mem_r _ [352, 92, 353, 1223, 354, 355, 356, 357, 358, 1224, 360, 361, 362, 363, 364, 365, 366, 367, 368, 369, 93, 370, 371, 372] (by decide +kernel)
set_option maxRecDepth 100000 in
theorem wl_wsL_law_r9 : ∀ w ∈ wsL_law_r9, w ∈ lw_tbl := mem_r _ [373, 374, 376, 377, 94, 378, 379, 380, 95, 381, 382, 383, 384, 385, 386, 387, 388, 389, 390, 391, 392, 394, 396, 398] (by decide +kernel)
set_option maxRecDepth 100000 in
theorem wl_wsL_law_r10 : ∀ w ∈ wsL_law_r10, w ∈ lw_tbl := mem_r _ [400, 9, 401, 404, 10, 405, 410, 412, 11, 413, 415, 417, 12, 418, 421, 13, 422, 423, 424, 426, 14, 427, 428, 430] (by decide +kernel)
set_option maxRecDepth 100000 in
theorem wl_wsL_law_r11 : ∀ w ∈ wsL_law_r11, w ∈ lw_tbl := mem_r _ [15, 431, 432, 433, 434, 437, 16, 438, 439, 441, 440, 96, 924, 925, 926, 927, 839, 841, 835, 843, 838, 840, 852, 928] (by decide +kernel)
set_option maxRecDepth 100000 in
theorem wl_wsL_law_r12 : ∀ w ∈ wsL_law_r12, w ∈ lw_tbl := mem_r _ [930, 57, 931, 842, 844, 936, 937, 938, 939, 932, 934, 58, 935, 940, 942, 59, 943, 944, 946, 60, 947, 952, 948, 950] (by decide +kernel)
set_option maxRecDepth 100000 in
theorem wl_wsL_law_r13 : ∀ w ∈ wsL_law_r13, w ∈ lw_tbl := mem_r _ [61, 951, 953, 955, 62, 956, 957, 959, 63, 960, 442, 443, 444, 445, 961, 962, 963, 964, 446, 447, 448, 449, 452, 17] (by decide +kernel)
set_option maxRecDepth 100000 in
theorem wl_wsL_law_r14 : ∀ w ∈ wsL_law_r14, w ∈ lw_tbl := mem_r _ [453, 455, 456, 459, 18, 460, 461, 464, 19, 465, 466, 468, 20, 469, 470, 472, 21, 473, 474, 475, 476, 479, 22, 480] (by decide +kernel)
set_option maxRecDepth 100000 in
theorem wl_wsL_law_r15 : ∀ w ∈ wsL_law_r15, w ∈ lw_tbl := mem_r _ [965, 966, 967, 968, 969, 971, 64, 972, 973, 975, 65, 976, 977, 978, 979, 980, 981, 982, 983, 985, 66, 986, 987, 989] (by decide +kernel)
set_option maxRecDepth 100000 in
theorem wl_wsL_law_r16 : ∀ w ∈ wsL_law_r16, w ∈ lw_tbl := mem_r _ [67, 990, 991, 993, 68, 994, 995, 997, 69, 998, 999, 1001, 70, 1002, 481, 482, 483, 484, 487, 23, 488, 494, 24, 495] (by decide +kernel)
set_option maxRecDepth 100000 in
theorem wl_wsL_law_r17 : ∀ w ∈ wsL_law_r17, w ∈ lw_tbl := mem_r _ [1003, 1004, 1005, 1006, 1007, 1009, 71, 1010, 496, 497, 498, 499, 500, 501, 502, 503, 504, 1011, 1012, 1013, 1014, 1015, 1017, 72] (by decide +kernel)
set_option maxRecDepth 100000 in
theorem wl_wsL_law_r18 : ∀ w ∈ wsL_law_r18, w ∈ lw_tbl := mem_r _ [1018, 1019, 1020, 1025, 1021, 1022, 1023, 1024, 1026, 1028, 73, 1029, 506, 507, 508, 509, 1030, 1031, 1032, 1033, 510, 511, 512, 513] (by decide +kernel)
set_option maxRecDepth 100000 in
theorem wl_wsL_law_r19 : ∀ w ∈ wsL_law_r19, w ∈ lw_tbl := mem_r _ [1034, 1035, 1036, 1037, 1038, 514, 515, 516, 517, 518, 519, 520, 1039, 1040, 1041, 1042, 521, 522, 523, 524, 1043, 1044, 1045, 1046] (by decide +kernel)
set_option maxRecDepth 100000 in
theorem wl_wsL_law_r20 : ∀ w ∈ wsL_law_r20, w ∈ lw_tbl := mem_r _ [1047, 1048, 1049, 1050, 1052, 74, 1053, 527, 528, 529, 530, 1054, 1055, 1056, 1057, 531, 532, 533, 534, 537, 25, 538, 539, 541] (by decide +kernel)
set_option maxRecDepth 100000 in
theorem wl_wsL_law_r21 : ∀ w ∈ wsL_law_r21, w ∈ lw_tbl := mem_r _ [26, 542, 543, 544, 546, 27, 547, 548, 549, 551, 28, 552, 553, 554, 97, 555, 557, 558, 1058, 1059, 1060, 1061, 1062, 1063] (by decide +kernel)
set_option maxRecDepth 100000 in
theorem wl_wsL_law_r22 : ∀ w ∈ wsL_law_r22, w ∈ lw_tbl := mem_r _ [1065, 75, 1066, 1067, 1069, 76, 1070, 559, 560, 561, 562, 565, 29, 566, 567, 568, 569, 572, 30, 573, 576, 31, 577, 1071] (by decide +kernel)
set_option maxRecDepth 100000 in
theorem wl_wsL_law_r23 : ∀ w ∈ wsL_law_r23, w ∈ lw_tbl := mem_r _ [1072, 1073, 1074, 1075, 848, 849, 850, 1076, 1078, 77, 1079, 1080, 1082, 78, 1083, 578, 579, 580, 581, 584, 32, 585, 1084, 1085] (by decide +kernel)
set_option maxRecDepth 100000 in
theorem wl_wsL_law_r24 : ∀ w ∈ wsL_law_r24, w ∈ lw_tbl := mem_r _ [1086, 1087, 586, 587, 588, 589, 592, 33, 593, 1088, 1089, 1090, 1091, 1092, 1094, 79, 1095, 594, 595, 596, 597, 601, 598, 599] (by decide +kernel)
set_option maxRecDepth 100000 in
theorem wl_wsL_law_r25 : ∀ w ∈ wsL_law_r25, w ∈ lw_tbl := mem_r _ [600, 604, 34, 605, 606, 607, 608, 609, 610, 611, 1096, 1097, 1098, 1099, 1100, 1101, 1102, 1103, 612, 613, 614, 615, 1104, 1105] (by decide +kernel)
set_option maxRecDepth 100000 in
theorem wl_wsL_law_r26 : ∀ w ∈ wsL_law_r26, w ∈ lw_tbl := mem_r _ [1106, 1107, 617, 618, 619, 620, 1108, 1109, 1110, 1111, 1112, 1114, 80, 1115, 621, 622, 623, 624, 1116, 1117, 1118, 1119, 625, 626] (by decide +kernel)
set_option maxRecDepth 100000 in
theorem wl_wsL_law_r27 : ∀ w ∈ wsL_law_r27, w ∈ lw_tbl := mem_r _ [627, 628, 629, 631, 35, 632, 1120, 1121, 1122, 1123, 633, 634, 635, 636, 637, 638, 639, 1124, 1125, 1126, 1127, 640, 641, 642] (by decide +kernel)
set_option maxRecDepth 100000 in
theorem wl_wsL_law_r28 : ∀ w ∈ wsL_law_r28, w ∈ lw_tbl := mem_r _ [643, 648, 644, 646, 36, 647, 1128, 1129, 1130, 1131, 649, 650, 651, 652, 1132, 1133, 1134, 1135, 653, 654, 655, 656, 1136, 1137] (by decide +kernel)
set_option maxRecDepth 100000 in
theorem wl_wsL_law_r29 : ∀ w ∈ wsL_law_r29, w ∈ lw_tbl := mem_r _ [1138, 1139, 657, 658, 659, 660, 663, 37, 664, 219, 675, 665, 666, 667, 668, 670, 38, 671, 674, 1140, 1141, 1142, 1143, 1144] (by decide +kernel)
set_option maxRecDepth 100000 in
theorem wl_wsL_law_r30 : ∀ w ∈ wsL_law_r30, w ∈ lw_tbl := mem_r _ [1145, 1146, 1148, 81, 1149, 676, 677, 678, 679, 682, 39, 683, 1150, 1151, 1152, 1153, 685, 686, 687, 688, 691, 40, 692, 201] (by decide +kernel)
set_option maxRecDepth 100000 in
theorem wl_wsL_law_r31 : ∀ w ∈ wsL_law_r31, w ∈ lw_tbl := mem_r _ [1154, 1155, 1156, 1157, 693, 694, 695, 696, 1158, 1159, 1160, 1161, 697, 698, 699, 700, 701, 703, 41, 704, 707, 42, 708, 709] (by decide +kernel)
set_option maxRecDepth 100000 in
theorem wl_wsL_law_r32 : ∀ w ∈ wsL_law_r32, w ∈ lw_tbl := mem_r _ [711, 43, 712, 713, 714, 716, 44, 717, 1162, 1163, 1164, 1165, 1166, 1168, 82, 1169, 719, 720, 721, 722, 1170, 1171, 1172, 1173] (by decide +kernel)
set_option maxRecDepth 100000 in
theorem wl_wsL_law_r33 : ∀ w ∈ wsL_law_r33, w ∈ lw_tbl := mem_r _ [1174, 1176, 83, 1177, 723, 724, 725, 726, 1178, 1179, 1180, 1181, 727, 728, 729, 730, 731, 733, 45, 734, 735, 736, 98, 737] (by decide +kernel)
set_option maxRecDepth 100000 in
theorem wl_wsL_law_r34 : ∀ w ∈ wsL_law_r34, w ∈ lw_tbl := mem_r _ [738, 739, 740, 741, 743, 46, 744, 745, 746, 748, 47, 749, 1182, 1183, 1184, 1185, 1186, 1187, 1188, 750, 751, 752, 753, 754] (by decide +kernel)
set_option maxRecDepth 100000 in
theorem wl_wsL_law_r35 : ∀ w ∈ wsL_law_r35, w ∈ lw_tbl := mem_r _ [1189, 1190, 1191, 1192, 1193, 755, 756, 757, 758, 1194, 1195, 1196, 1197, 759, 760, 761, 762, 1198, 1199, 1200, 1201, 763, 764, 765] (by decide +kernel)
set_option maxRecDepth 100000 in
theorem wl_wsL_law_r36 : ∀ w ∈ wsL_law_r36, w ∈ lw_tbl := mem_r _ [766, 767, 768, 769, 770, 771, 772, 775, 48, 776, 240, 1202, 1203, 1204, 1205, 1206, 777, 778, 779, 780, 783, 49, 784, 785] (by decide +kernel)
set_option maxRecDepth 100000 in
theorem wl_wsL_law_r37 : ∀ w ∈ wsL_law_r37, w ∈ lw_tbl := mem_r _ [787, 50, 788, 791, 51, 792, 1207, 1208, 1209, 1210, 793, 794, 795, 796, 260, 799, 52, 800, 801, 802, 804, 53, 805, 1211] (by decide +kernel)
set_option maxRecDepth 100000 in
theorem wl_wsL_law_r38 : ∀ w ∈ wsL_law_r38, w ∈ lw_tbl := mem_r _ [1212, 1213, 1214, 858, 806, 807, 808, 809, 1215, 1216, 1217, 1218, 810, 811, 812, 813, 814, 816, 54, 817, 821, 55, 822, 825] (by decide +kernel)
set_option maxRecDepth 100000 in
theorem wl_wsL_law_r39 : ∀ w ∈ wsL_law_r39, w ∈ lw_tbl := mem_r _ [56, 826, 1219, 1220, 1221, 1222] (by decide +kernel)
set_option maxRecDepth 100000 in
theorem wl_X5 : ∀ w ∈ wsX50, w ∈ lw_tbl := mem_r _ [261, 263, 265, 267, 269, 271, 273, 275, 277, 279, 281, 283] (by decide +kernel)
set_option maxRecDepth 100000 in
theorem wl_X6 : ∀ w ∈ wsX60, w ∈ lw_tbl := mem_r _ [859, 861, 863, 865, 867, 869, 871, 873, 875, 877, 879, 881, 883, 885, 887, 889, 891, 893, 895, 897, 899, 901, 903, 905, 907, 909] (by decide +kernel)
set_option maxRecDepth 100000 in
theorem wl_X4 : ∀ w ∈ wsX40, w ∈ lw_tbl := mem_r _ [137, 139, 141, 143, 145, 147, 149] (by decide +kernel)
set_option maxRecDepth 100000 in
theorem wl_X3 : ∀ w ∈ wsX30, w ∈ lw_tbl := mem_r _ [172, 174, 176, 178, 180, 182, 184, 186, 188] (by decide +kernel)
set_option maxRecDepth 100000 in
theorem wl_X2 : ∀ w ∈ wsX20, w ∈ lw_tbl := mem_r _ [203, 205, 207] (by decide +kernel)
set_option maxRecDepth 100000 in
theorem wl_X0 : ∀ w ∈ wsX00, w ∈ lw_tbl := mem_r _ [221, 223, 225] (by decide +kernel)
set_option maxRecDepth 100000 in
theorem wl_X1 : ∀ w ∈ wsX10, w ∈ lw_tbl := mem_r _ [242, 244, 246] (by decide +kernel)
theorem wsL_law_in : ∀ w ∈ wsL_law, w ∈ lw_tbl := (List.forall_mem_append.mpr ⟨(List.forall_mem_append.mpr ⟨(List.forall_mem_append.mpr ⟨(List.forall_mem_append.mpr ⟨(List.forall_mem_append.mpr ⟨(List.forall_mem_append.mpr ⟨(List.forall_mem_append.mpr ⟨(List.forall_mem_append.mpr ⟨(List.forall_mem_append.mpr ⟨wl_wsL_law_r1, List.forall_mem_append.mpr ⟨wl_wsL_law_r2, List.forall_mem_append.mpr ⟨wl_wsL_law_r3, List.forall_mem_append.mpr ⟨wl_wsL_law_r4, List.forall_mem_append.mpr ⟨wl_wsL_law_r5, List.forall_mem_append.mpr ⟨wl_wsL_law_r6, List.forall_mem_append.mpr ⟨wl_wsL_law_r7, List.forall_mem_append.mpr ⟨wl_wsL_law_r8, List.forall_mem_append.mpr ⟨wl_wsL_law_r9, List.forall_mem_append.mpr ⟨wl_wsL_law_r10, List.forall_mem_append.mpr ⟨wl_wsL_law_r11, List.forall_mem_append.mpr ⟨wl_wsL_law_r12, List.forall_mem_append.mpr ⟨wl_wsL_law_r13, List.forall_mem_append.mpr ⟨wl_wsL_law_r14, List.forall_mem_append.mpr ⟨wl_wsL_law_r15, List.forall_mem_append.mpr ⟨wl_wsL_law_r16, List.forall_mem_append.mpr ⟨wl_wsL_law_r17, List.forall_mem_append.mpr ⟨wl_wsL_law_r18, List.forall_mem_append.mpr ⟨wl_wsL_law_r19, List.forall_mem_append.mpr ⟨wl_wsL_law_r20, List.forall_mem_append.mpr ⟨wl_wsL_law_r21, List.forall_mem_append.mpr ⟨wl_wsL_law_r22, List.forall_mem_append.mpr ⟨wl_wsL_law_r23, List.forall_mem_append.mpr ⟨wl_wsL_law_r24, List.forall_mem_append.mpr ⟨wl_wsL_law_r25, List.forall_mem_append.mpr ⟨wl_wsL_law_r26, List.forall_mem_append.mpr ⟨wl_wsL_law_r27, List.forall_mem_append.mpr ⟨wl_wsL_law_r28, List.forall_mem_append.mpr ⟨wl_wsL_law_r29, List.forall_mem_append.mpr ⟨wl_wsL_law_r30, List.forall_mem_append.mpr ⟨wl_wsL_law_r31, List.forall_mem_append.mpr ⟨wl_wsL_law_r32, List.forall_mem_append.mpr ⟨wl_wsL_law_r33, List.forall_mem_append.mpr ⟨wl_wsL_law_r34, List.forall_mem_append.mpr ⟨wl_wsL_law_r35, List.forall_mem_append.mpr ⟨wl_wsL_law_r36, List.forall_mem_append.mpr ⟨wl_wsL_law_r37, List.forall_mem_append.mpr ⟨wl_wsL_law_r38, wl_wsL_law_r39⟩⟩⟩⟩⟩⟩⟩⟩⟩⟩⟩⟩⟩⟩⟩⟩⟩⟩⟩⟩⟩⟩⟩⟩⟩⟩⟩⟩⟩⟩⟩⟩⟩⟩⟩⟩⟩⟩), wl_X5⟩), wl_X6⟩), wl_X4⟩), wl_X3⟩), wl_X2⟩), wl_X0⟩), wl_X1⟩), fun _ h => absurd h List.not_mem_nil⟩)
