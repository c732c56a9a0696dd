theorem mem_r {big : List Cond} (ws : List Cond) (ps : List Nat) (hp : ws = ps.filterMap (fun i => big[i]?)) : ∀ w ∈ ws, w ∈ big := by
  intro w hw
  rw [hp] at hw
  obtain ⟨i, -, hi⟩ := List.mem_filterMap.mp hw
  exact List.mem_of_getElem? hi
set_option maxRecDepth 100000 in
theorem wl_wsL_law_r1 : ∀ w ∈ wsL_law_r1, w ∈ lw_tbl := mem_r _ [98, 99, 84, 824, 825, 90, 100, 101, 102, 103, 104, 105, 106, 107, 85, 250, 251, 252, 190, 253, 153, 154, 86, 254] (by decide +kernel)
set_option maxRecDepth 100000 in
theorem wl_wsL_law_r2 : ∀ w ∈ wsL_law_r2, w ∈ lw_tbl := mem_r _ [192, 193, 87, 255, 209, 210, 88, 256, 228, 257, 230, 151, 258, 259, 232, 89, 109, 110, 111, 116, 112, 114, 0, 115] (by decide +kernel)
set_option maxRecDepth 100000 in
theorem wl_wsL_law_r3 : ∀ w ∈ wsL_law_r3, w ∈ lw_tbl := mem_r _ [117, 119, 123, 127, 130, 133, 156, 157, 158, 191, 159, 195, 196, 197, 198, 199, 212, 213, 214, 227, 215, 217, 234, 235] (by decide +kernel)
set_option maxRecDepth 100000 in
theorem wl_wsL_law_r4 : ∀ w ∈ wsL_law_r4, w ∈ lw_tbl := mem_r _ [236, 237, 239, 826, 827, 828, 829, 830, 831, 833, 842, 843, 844, 848, 850, 851, 852, 853, 854, 287, 288, 289, 290, 291] (by decide +kernel)
set_option maxRecDepth 100000 in
theorem wl_wsL_law_r5 : ∀ w ∈ wsL_law_r5, w ∈ lw_tbl := mem_r _ [292, 293, 296, 1, 297, 160, 909, 910, 911, 912, 913, 834, 914, 915, 916, 298, 299, 300, 301, 917, 918, 919, 920, 302] (by decide +kernel)
set_option maxRecDepth 100000 in
theorem wl_wsL_law_r6 : ∀ w ∈ wsL_law_r6, w ∈ lw_tbl := mem_r _ [303, 304, 305, 260, 309, 2, 310, 162, 166, 167, 169, 163, 311, 313, 3, 314, 164, 315, 316, 317, 318, 320, 4, 321] (by decide +kernel)
set_option maxRecDepth 100000 in
theorem wl_wsL_law_r7 : ∀ w ∈ wsL_law_r7, w ∈ lw_tbl := mem_r _ [322, 323, 324, 325, 327, 5, 328, 165, 329, 331, 6, 332, 333, 335, 7, 336, 337, 338, 339, 347, 349, 8, 350, 351] (by decide +kernel)
set_option maxRecDepth 100000 in
theorem wl_wsL_law_r8 : ∀ w ∈ wsL_law_r8, w ∈ lw_tbl := mem_r _ [352, 353, 91, 354, 1220, 355, 356, 357, 358, 359, 1221, 361, 362, 363, 364, 365, 366, 367, 368, 369, 370, 92, 371, 372] (by decide +kernel)
set_option maxRecDepth 100000 in
theorem wl_wsL_law_r9 : ∀ w ∈ wsL_law_r9, w ∈ lw_tbl := mem_r _ [373, 374, 375, 377, 378, 93, 379, 380, 381, 94, 382, 383, 384, 385, 386, 387, 388, 389, 390, 391, 392, 393, 395, 397] (by decide +kernel)
set_option maxRecDepth 100000 in
theorem wl_wsL_law_r10 : ∀ w ∈ wsL_law_r10, w ∈ lw_tbl := mem_r _ [399, 401, 9, 402, 405, 10, 406, 411, 413, 11, 414, 416, 418, 12, 419, 422, 13, 423, 424, 425, 427, 14, 428, 429] (by decide +kernel)
set_option maxRecDepth 100000 in
theorem wl_wsL_law_r11 : ∀ w ∈ wsL_law_r11, w ∈ lw_tbl := mem_r _ [431, 15, 432, 433, 434, 435, 438, 16, 439, 440, 442, 441, 95, 921, 922, 923, 924, 836, 838, 832, 840, 835, 837, 849] (by decide +kernel)
set_option maxRecDepth 100000 in
theorem wl_wsL_law_r12 : ∀ w ∈ wsL_law_r12, w ∈ lw_tbl := mem_r _ [925, 927, 56, 928, 839, 841, 933, 934, 935, 936, 929, 931, 57, 932, 937, 939, 58, 940, 941, 943, 59, 944, 949, 945] (by decide +kernel)
set_option maxRecDepth 100000 in
theorem wl_wsL_law_r13 : ∀ w ∈ wsL_law_r13, w ∈ lw_tbl := mem_r _ [947, 60, 948, 950, 952, 61, 953, 954, 956, 62, 957, 443, 444, 445, 446, 958, 959, 960, 961, 447, 448, 449, 450, 453] (by decide +kernel)
set_option maxRecDepth 100000 in
theorem wl_wsL_law_r14 : ∀ w ∈ wsL_law_r14, w ∈ lw_tbl := mem_r _ [17, 454, 456, 457, 460, 18, 461, 462, 465, 19, 466, 467, 469, 20, 470, 471, 473, 21, 474, 475, 476, 477, 480, 22] (by decide +kernel)
set_option maxRecDepth 100000 in
theorem wl_wsL_law_r15 : ∀ w ∈ wsL_law_r15, w ∈ lw_tbl := mem_r _ [481, 962, 963, 964, 965, 966, 968, 63, 969, 970, 972, 64, 973, 974, 975, 976, 977, 978, 979, 980, 982, 65, 983, 984] (by decide +kernel)
set_option maxRecDepth 100000 in
theorem wl_wsL_law_r16 : ∀ w ∈ wsL_law_r16, w ∈ lw_tbl := mem_r _ [986, 66, 987, 988, 990, 67, 991, 992, 994, 68, 995, 996, 998, 69, 999, 482, 483, 484, 485, 488, 23, 489, 495, 24] (by decide +kernel)
set_option maxRecDepth 100000 in
theorem wl_wsL_law_r17 : ∀ w ∈ wsL_law_r17, w ∈ lw_tbl := mem_r _ [496, 1000, 1001, 1002, 1003, 1004, 1006, 70, 1007, 497, 498, 499, 500, 501, 502, 503, 504, 505, 1008, 1009, 1010, 1011, 1012, 1014] (by decide +kernel)
set_option maxRecDepth 100000 in
theorem wl_wsL_law_r18 : ∀ w ∈ wsL_law_r18, w ∈ lw_tbl := mem_r _ [71, 1015, 1016, 1017, 1022, 1018, 1019, 1020, 1021, 1023, 1025, 72, 1026, 507, 508, 509, 510, 1027, 1028, 1029, 1030, 511, 512, 513] (by decide +kernel)
set_option maxRecDepth 100000 in
theorem wl_wsL_law_r19 : ∀ w ∈ wsL_law_r19, w ∈ lw_tbl := mem_r _ [514, 1031, 1032, 1033, 1034, 1035, 515, 516, 517, 518, 519, 520, 521, 1036, 1037, 1038, 1039, 522, 523, 524, 525, 1040, 1041, 1042] (by decide +kernel)
set_option maxRecDepth 100000 in
theorem wl_wsL_law_r20 : ∀ w ∈ wsL_law_r20, w ∈ lw_tbl := mem_r _ [1043, 1044, 1045, 1046, 1047, 1049, 73, 1050, 528, 529, 530, 531, 1051, 1052, 1053, 1054, 532, 533, 534, 535, 538, 25, 539, 540] (by decide +kernel)
set_option maxRecDepth 100000 in
theorem wl_wsL_law_r21 : ∀ w ∈ wsL_law_r21, w ∈ lw_tbl := mem_r _ [542, 26, 543, 544, 545, 547, 27, 548, 549, 550, 552, 28, 553, 554, 555, 96, 556, 558, 559, 1055, 1056, 1057, 1058, 1059] (by decide +kernel)
set_option maxRecDepth 100000 in
theorem wl_wsL_law_r22 : ∀ w ∈ wsL_law_r22, w ∈ lw_tbl := mem_r _ [1060, 1062, 74, 1063, 1064, 1066, 75, 1067, 560, 561, 562, 563, 566, 29, 567, 568, 569, 570, 573, 30, 574, 577, 31, 578] (by decide +kernel)
set_option maxRecDepth 100000 in
theorem wl_wsL_law_r23 : ∀ w ∈ wsL_law_r23, w ∈ lw_tbl := mem_r _ [1068, 1069, 1070, 1071, 1072, 845, 846, 847, 1073, 1075, 76, 1076, 1077, 1079, 77, 1080, 579, 580, 581, 582, 585, 32, 586, 1081] (by decide +kernel)
set_option maxRecDepth 100000 in
theorem wl_wsL_law_r24 : ∀ w ∈ wsL_law_r24, w ∈ lw_tbl := mem_r _ [1082, 1083, 1084, 587, 588, 589, 590, 593, 33, 594, 1085, 1086, 1087, 1088, 1089, 1091, 78, 1092, 595, 596, 597, 598, 602, 599] (by decide +kernel)
set_option maxRecDepth 100000 in
theorem wl_wsL_law_r25 : ∀ w ∈ wsL_law_r25, w ∈ lw_tbl := mem_r _ [600, 601, 605, 34, 606, 607, 608, 609, 610, 611, 612, 1093, 1094, 1095, 1096, 1097, 1098, 1099, 1100, 613, 614, 615, 616, 1101] (by decide +kernel)
set_option maxRecDepth 100000 in
theorem wl_wsL_law_r26 : ∀ w ∈ wsL_law_r26, w ∈ lw_tbl := mem_r _ [1102, 1103, 1104, 618, 619, 620, 621, 1105, 1106, 1107, 1108, 1109, 1111, 79, 1112, 622, 623, 624, 625, 1113, 1114, 1115, 1116, 626] (by decide +kernel)
set_option maxRecDepth 100000 in
theorem wl_wsL_law_r27 : ∀ w ∈ wsL_law_r27, w ∈ lw_tbl := mem_r _ [627, 628, 629, 630, 632, 35, 633, 1117, 1118, 1119, 1120, 634, 635, 636, 637, 638, 639, 640, 1121, 1122, 1123, 1124, 641, 642] (by decide +kernel)
set_option maxRecDepth 100000 in
theorem wl_wsL_law_r28 : ∀ w ∈ wsL_law_r28, w ∈ lw_tbl := mem_r _ [643, 644, 649, 645, 647, 36, 648, 1125, 1126, 1127, 1128, 650, 651, 652, 653, 1129, 1130, 1131, 1132, 654, 655, 656, 657, 1133] (by decide +kernel)
set_option maxRecDepth 100000 in
theorem wl_wsL_law_r29 : ∀ w ∈ wsL_law_r29, w ∈ lw_tbl := mem_r _ [1134, 1135, 1136, 658, 659, 660, 661, 664, 37, 665, 218, 676, 666, 667, 668, 669, 671, 38, 672, 675, 1137, 1138, 1139, 1140] (by decide +kernel)
set_option maxRecDepth 100000 in
theorem wl_wsL_law_r30 : ∀ w ∈ wsL_law_r30, w ∈ lw_tbl := mem_r _ [1141, 1142, 1143, 1145, 80, 1146, 677, 678, 679, 680, 683, 39, 684, 1147, 1148, 1149, 1150, 686, 687, 688, 689, 692, 40, 693] (by decide +kernel)
set_option maxRecDepth 100000 in
theorem wl_wsL_law_r31 : ∀ w ∈ wsL_law_r31, w ∈ lw_tbl := mem_r _ [200, 1151, 1152, 1153, 1154, 694, 695, 696, 697, 1155, 1156, 1157, 1158, 698, 699, 700, 701, 702, 704, 41, 705, 708, 42, 709] (by decide +kernel)
set_option maxRecDepth 100000 in
theorem wl_wsL_law_r32 : ∀ w ∈ wsL_law_r32, w ∈ lw_tbl := mem_r _ [710, 712, 43, 713, 714, 715, 717, 44, 718, 1159, 1160, 1161, 1162, 1163, 1165, 81, 1166, 720, 721, 722, 723, 1167, 1168, 1169] (by decide +kernel)
set_option maxRecDepth 100000 in
theorem wl_wsL_law_r33 : ∀ w ∈ wsL_law_r33, w ∈ lw_tbl := mem_r _ [1170, 1171, 1173, 82, 1174, 724, 725, 726, 727, 1175, 1176, 1177, 1178, 728, 729, 730, 731, 732, 734, 45, 735, 736, 737, 97] (by decide +kernel)
set_option maxRecDepth 100000 in
theorem wl_wsL_law_r34 : ∀ w ∈ wsL_law_r34, w ∈ lw_tbl := mem_r _ [738, 739, 740, 741, 742, 744, 46, 745, 746, 1179, 1180, 1181, 1182, 1183, 1184, 1185, 747, 748, 749, 750, 751, 1186, 1187, 1188] (by decide +kernel)
set_option maxRecDepth 100000 in
theorem wl_wsL_law_r35 : ∀ w ∈ wsL_law_r35, w ∈ lw_tbl := mem_r _ [1189, 1190, 752, 753, 754, 755, 1191, 1192, 1193, 1194, 756, 757, 758, 759, 1195, 1196, 1197, 1198, 760, 761, 762, 763, 764, 765] (by decide +kernel)
set_option maxRecDepth 100000 in
theorem wl_wsL_law_r36 : ∀ w ∈ wsL_law_r36, w ∈ lw_tbl := mem_r _ [766, 767, 768, 769, 772, 47, 773, 241, 1199, 1200, 1201, 1202, 1203, 774, 775, 776, 777, 780, 48, 781, 782, 784, 49, 785] (by decide +kernel)
set_option maxRecDepth 100000 in
theorem wl_wsL_law_r37 : ∀ w ∈ wsL_law_r37, w ∈ lw_tbl := mem_r _ [788, 50, 789, 1204, 1205, 1206, 1207, 790, 791, 792, 793, 261, 796, 51, 797, 798, 799, 801, 52, 802, 1208, 1209, 1210, 1211] (by decide +kernel)
set_option maxRecDepth 100000 in
theorem wl_wsL_law_r38 : ∀ w ∈ wsL_law_r38, w ∈ lw_tbl := mem_r _ [855, 803, 804, 805, 806, 1212, 1213, 1214, 1215, 807, 808, 809, 810, 811, 813, 53, 814, 818, 54, 819, 822, 55, 823, 1216] (by decide +kernel)
set_option maxRecDepth 100000 in
theorem wl_wsL_law_r39 : ∀ w ∈ wsL_law_r39, w ∈ lw_tbl := mem_r _ [1217, 1218, 1219] (by decide +kernel)
set_option maxRecDepth 100000 in
theorem wl_X5 : ∀ w ∈ wsX50, w ∈ lw_tbl := mem_r _ [262, 264, 266, 268, 270, 272, 274, 276, 278, 280, 282, 284] (by decide +kernel)
set_option maxRecDepth 100000 in
theorem wl_X6 : ∀ w ∈ wsX60, w ∈ lw_tbl := mem_r _ [856, 858, 860, 862, 864, 866, 868, 870, 872, 874, 876, 878, 880, 882, 884, 886, 888, 890, 892, 894, 896, 898, 900, 902, 904, 906] (by decide +kernel)
set_option maxRecDepth 100000 in
theorem wl_X4 : ∀ w ∈ wsX40, w ∈ lw_tbl := mem_r _ [136, 138, 140, 142, 144, 146, 148] (by decide +kernel)
set_option maxRecDepth 100000 in
theorem wl_X3 : ∀ w ∈ wsX30, w ∈ lw_tbl := mem_r _ [171, 173, 175, 177, 179, 181, 183, 185, 187] (by decide +kernel)
set_option maxRecDepth 100000 in
theorem wl_X2 : ∀ w ∈ wsX20, w ∈ lw_tbl := mem_r _ [202, 204, 206] (by decide +kernel)
set_option maxRecDepth 100000 in
theorem wl_X0 : ∀ w ∈ wsX00, w ∈ lw_tbl := mem_r _ [220, 222, 224] (by decide +kernel)
set_option maxRecDepth 100000 in
theorem wl_X1 : ∀ w ∈ wsX10, w ∈ lw_tbl := mem_r _ [243, 245, 247] (by decide +kernel)
theorem wsL_law_in : ∀ w ∈ wsL_law, w ∈ lw_tbl := (List.forall_mem_append.mpr ⟨(List.forall_mem_append.mpr ⟨(List.forall_mem_append.mpr ⟨(List.forall_mem_append.mpr ⟨(List.forall_mem_append.mpr ⟨(List.forall_mem_append.mpr ⟨(List.forall_mem_append.mpr ⟨(List.forall_mem_append.mpr ⟨(List.forall_mem_append.mpr ⟨wl_wsL_law_r1, List.forall_mem_append.mpr ⟨wl_wsL_law_r2, List.forall_mem_append.mpr ⟨wl_wsL_law_r3, List.forall_mem_append.mpr ⟨wl_wsL_law_r4, List.forall_mem_append.mpr ⟨wl_wsL_law_r5, List.forall_mem_append.mpr ⟨wl_wsL_law_r6, List.forall_mem_append.mpr ⟨wl_wsL_law_r7, List.forall_mem_append.mpr ⟨wl_wsL_law_r8, List.forall_mem_append.mpr ⟨wl_wsL_law_r9, List.forall_mem_append.mpr ⟨wl_wsL_law_r10, List.forall_mem_append.mpr ⟨wl_wsL_law_r11, List.forall_mem_append.mpr ⟨wl_wsL_law_r12, List.forall_mem_append.mpr ⟨wl_wsL_law_r13, List.forall_mem_append.mpr ⟨wl_wsL_law_r14, List.forall_mem_append.mpr ⟨wl_wsL_law_r15, List.forall_mem_append.mpr ⟨wl_wsL_law_r16, List.forall_mem_append.mpr ⟨wl_wsL_law_r17, List.forall_mem_append.mpr ⟨wl_wsL_law_r18, List.forall_mem_append.mpr ⟨wl_wsL_law_r19, List.forall_mem_append.mpr ⟨wl_wsL_law_r20, List.forall_mem_append.mpr ⟨wl_wsL_law_r21, List.forall_mem_append.mpr ⟨wl_wsL_law_r22, List.forall_mem_append.mpr ⟨wl_wsL_law_r23, List.forall_mem_append.mpr ⟨wl_wsL_law_r24, List.forall_mem_append.mpr ⟨wl_wsL_law_r25, List.forall_mem_append.mpr ⟨wl_wsL_law_r26, List.forall_mem_append.mpr ⟨wl_wsL_law_r27, List.forall_mem_append.mpr ⟨wl_wsL_law_r28, List.forall_mem_append.mpr ⟨wl_wsL_law_r29, List.forall_mem_append.mpr ⟨wl_wsL_law_r30, List.forall_mem_append.mpr ⟨wl_wsL_law_r31, List.forall_mem_append.mpr ⟨wl_wsL_law_r32, List.forall_mem_append.mpr ⟨wl_wsL_law_r33, List.forall_mem_append.mpr ⟨wl_wsL_law_r34, List.forall_mem_append.mpr ⟨wl_wsL_law_r35, List.forall_mem_append.mpr ⟨wl_wsL_law_r36, List.forall_mem_append.mpr ⟨wl_wsL_law_r37, List.forall_mem_append.mpr ⟨wl_wsL_law_r38, wl_wsL_law_r39⟩⟩⟩⟩⟩⟩⟩⟩⟩⟩⟩⟩⟩⟩⟩⟩⟩⟩⟩⟩⟩⟩⟩⟩⟩⟩⟩⟩⟩⟩⟩⟩⟩⟩⟩⟩⟩⟩), wl_X5⟩), wl_X6⟩), wl_X4⟩), wl_X3⟩), wl_X2⟩), wl_X0⟩), wl_X1⟩), fun _ h => absurd h List.not_mem_nil⟩)
