set_option maxRecDepth 20000 in
theorem ggL_law_X5_init : GoodIn wsL_law wsX5_init := goodIn_r _ [8, 9, 10, 11, 12, 13, 14, 15, 16, 17, 18, 19, 20, 21, 22, 23, 24, 25, 26, 27, 28, 29, 30, 31, 32, 33, 34, 35, 36, 37, 38, 39, 40, 41, 42, 43, 44, 45, 46, 47, 48, 49, 50, 51, 52, 53, 54, 55, 56, 57, 58, 59, 60, 61, 62, 63, 64, 65, 66, 67, 68, 69, 70, 71, 72, 73, 74, 953, 954, 955, 956, 957, 958, 959, 915, 916, 917, 918, 919, 920, 921, 922, 923, 924, 925, 926, 960, 961, 962, 963, 964, 965, 966, 967, 968, 969, 970, 971, 972, 973, 974, 975, 976, 977] (by decide +kernel) (by decide +kernel)
set_option maxRecDepth 20000 in
theorem gL_law_X5_init : GoodIn wsL_law (wsX5_init) := ggL_law_X5_init
set_option maxRecDepth 20000 in
theorem ggL_law_X6_init : GoodIn wsL_law wsX6_init := goodIn_r _ [77, 78, 10, 11, 35, 79, 80, 81, 82, 83, 84, 85, 86, 18, 87, 88, 89, 90, 927, 928, 929, 930, 931, 932, 933, 934, 935, 936, 937, 938, 939, 940, 941, 942, 943, 944, 945, 946, 947, 948, 949, 950, 951, 952] (by decide +kernel) (by decide +kernel)
set_option maxRecDepth 20000 in
theorem gL_law_X6_init : GoodIn wsL_law (wsX6_init) := ggL_law_X6_init
set_option maxRecDepth 20000 in
theorem ggL_law_X5_feed : GoodIn wsL_law wsX5_feed := goodIn_r _ [94, 23, 95, 96, 2, 97, 98, 22, 99, 100, 101, 58, 915, 916, 917, 918, 919, 920, 921, 922, 923, 924, 925, 926, 960, 961, 962, 963, 964, 965, 966, 967, 968] (by decide +kernel) (by decide +kernel)
set_option maxRecDepth 20000 in
theorem gL_law_X5_feed : GoodIn wsL_law (wsV RL 13 RX5 yX5_feed wsX5_feed) := goodIn_app (goodIn_of _ (by decide +kernel)) ggL_law_X5_feed
set_option maxRecDepth 20000 in
theorem ggL_law_X6_feed : GoodIn wsL_law wsX6_feed := goodIn_r _ [105, 106, 107, 81, 108, 109, 5, 110, 927, 928, 929, 930, 931, 932, 933, 934, 935, 936, 937, 938, 939, 940, 941, 942, 943, 944, 945, 946, 947, 948, 949, 950, 951, 952] (by decide +kernel) (by decide +kernel)
set_option maxRecDepth 20000 in
theorem gL_law_X6_feed : GoodIn wsL_law (wsV RL 17 RX6 yX6_feed wsX6_feed) := goodIn_app (goodIn_of _ (by decide +kernel)) ggL_law_X6_feed
set_option maxRecDepth 20000 in
theorem ggL_law_X5_end : GoodIn wsL_law wsX5_end := goodIn_r _ [114, 23, 95, 96, 2, 97, 915, 916, 917, 918, 919, 920, 921, 922, 923, 924, 925, 926, 960, 961, 962, 963, 964, 965, 966, 967, 968] (by decide +kernel) (by decide +kernel)
set_option maxRecDepth 20000 in
theorem gL_law_X5_end : GoodIn wsL_law (wsV RL 18 RX5 yX5_end wsX5_end) := goodIn_app (goodIn_of _ (by decide +kernel)) ggL_law_X5_end
set_option maxRecDepth 20000 in
theorem ggL_law_X6_end : GoodIn wsL_law wsX6_end := goodIn_r _ [118, 107, 108, 109, 5, 110, 927, 928, 929, 930, 931, 932, 933, 934, 935, 936, 937, 938, 939, 940, 941, 942, 943, 944, 945, 946, 947, 948, 949, 950, 951, 952] (by decide +kernel) (by decide +kernel)
set_option maxRecDepth 20000 in
theorem gL_law_X6_end : GoodIn wsL_law (wsV RL 21 RX6 yX6_end wsX6_end) := goodIn_app (goodIn_of _ (by decide +kernel)) ggL_law_X6_end
set_option maxRecDepth 20000 in
theorem ggL_law_X5_text : GoodIn wsL_law wsX5_text := goodIn_r _ [122, 16, 23, 123, 15, 27, 19, 45, 14, 46, 47, 48, 49, 50, 51, 52, 53, 124, 22, 125, 126, 127, 128, 129, 130, 131, 132, 133, 134, 135, 101, 58, 136, 137, 138, 139, 140, 141, 142, 143, 144, 145, 146, 147, 148, 149, 150, 151, 152, 153, 154, 155, 156, 157, 158, 159, 160, 161, 162, 163, 164, 165, 166, 167, 168, 169, 170, 171, 172, 173, 174, 175, 176, 177, 178, 179, 180, 181, 182, 183, 184, 185, 186, 187, 188, 189, 190, 191, 192, 193, 194, 195, 196, 197, 198, 199, 200, 201, 202, 203, 204, 205, 206, 207, 208, 209, 210, 211, 212, 213, 214, 215, 216, 217, 218, 219, 220, 221, 222, 223, 224, 225, 226, 96, 2, 97, 227, 228, 229, 230, 231, 232, 233, 234, 235, 236, 237, 238, 43, 239, 240, 241, 242, 243, 244, 245, 246, 247, 248, 249, 250, 251, 252, 915, 916, 917, 918, 919, 920, 921, 922, 923, 924, 925, 926, 960, 961, 962, 963, 964, 965, 966, 967, 968, 969, 970, 971, 953, 954, 955, 956, 957, 958, 959] (by decide +kernel) (by decide +kernel)
set_option maxRecDepth 20000 in
theorem gL_law_X5_text : GoodIn wsL_law (wsV RL 22 RX5 yX5_text wsX5_text) := goodIn_app (goodIn_of _ (by decide +kernel)) ggL_law_X5_text
set_option maxRecDepth 20000 in
theorem ggL_law_X6_text : GoodIn wsL_law wsX6_text := goodIn_r _ [256, 257, 258, 259, 80, 260, 107, 261, 262, 79, 263, 87, 264, 265, 266, 5, 267, 268, 269, 270, 271, 272, 273, 274, 275, 276, 277, 81, 108, 109, 110, 278, 279, 280, 281, 282, 283, 284, 285, 286, 287, 288, 289, 290, 82, 83, 291, 292, 293, 294, 295, 296, 297, 298, 927, 928, 929, 930, 931, 932, 933, 934, 935, 936, 937, 938, 939, 940, 941, 942, 943, 944, 945, 946, 947, 948, 949, 950, 951, 952] (by decide +kernel) (by decide +kernel)
set_option maxRecDepth 20000 in
theorem gL_law_X6_text : GoodIn wsL_law (wsV RL 26 RX6 yX6_text wsX6_text) := goodIn_app (goodIn_of _ (by decide +kernel)) ggL_law_X6_text
set_option maxRecDepth 20000 in
theorem ggL_law_X5_fault : GoodIn wsL_law wsX5_fault := goodIn_r _ [302, 123, 915, 916, 917, 918, 919, 920, 921, 922, 923, 924, 925, 926] (by decide +kernel) (by decide +kernel)
set_option maxRecDepth 20000 in
theorem gL_law_X5_fault : GoodIn wsL_law (wsV RL 27 RX5 yX5_fault wsX5_fault) := goodIn_app (goodIn_of _ (by decide +kernel)) ggL_law_X5_fault
set_option maxRecDepth 20000 in
theorem ggL_law_X6_fault : GoodIn wsL_law wsX6_fault := goodIn_r _ [306, 261, 927, 928, 929, 930, 931, 932, 933, 934, 935, 936, 937, 938, 939, 940, 941, 942, 943, 944, 945, 946, 947, 948, 949, 950, 951, 952] (by decide +kernel) (by decide +kernel)
set_option maxRecDepth 20000 in
theorem gL_law_X6_fault : GoodIn wsL_law (wsV RL 30 RX6 yX6_fault wsX6_fault) := goodIn_app (goodIn_of _ (by decide +kernel)) ggL_law_X6_fault
set_option maxRecDepth 20000 in
theorem ggL_law_X5_rule : GoodIn wsL_law wsX5_rule := goodIn_r _ [310, 15, 311, 14, 312, 313, 50, 49, 314, 2, 315, 316, 317, 318, 52, 319, 320, 321, 322, 51, 48, 323, 324, 325, 326, 53, 327, 328, 329, 330, 43, 331, 332, 333, 334, 335, 336, 915, 916, 917, 918, 919, 920, 921, 922, 923, 924, 925, 926, 953, 954, 955, 956, 957, 958, 959] (by decide +kernel) (by decide +kernel)
set_option maxRecDepth 20000 in
theorem gL_law_X5_rule : GoodIn wsL_law (wsV RL 31 RX5 yX5_rule wsX5_rule) := goodIn_app (goodIn_of _ (by decide +kernel)) ggL_law_X5_rule
set_option maxRecDepth 20000 in
theorem ggL_law_X6_rule : GoodIn wsL_law wsX6_rule := goodIn_r _ [340, 79, 341, 342, 343, 5, 344, 345, 346, 347, 348, 349, 350, 351, 352, 353, 354, 355, 356, 357, 358, 359, 360, 361, 362, 363, 364, 365, 366, 367, 368, 369, 370, 84, 371, 372, 373, 374, 927, 928, 929, 930, 931, 932, 933, 934, 935, 936, 937, 938, 939, 940, 941, 942, 943, 944, 945, 946, 947, 948, 949, 950, 951, 952] (by decide +kernel) (by decide +kernel)
set_option maxRecDepth 20000 in
theorem gL_law_X6_rule : GoodIn wsL_law (wsV RL 34 RX6 yX6_rule wsX6_rule) := goodIn_app (goodIn_of _ (by decide +kernel)) ggL_law_X6_rule
set_option maxRecDepth 20000 in
theorem ggL_law_X5_draw : GoodIn wsL_law wsX5_draw := goodIn_r _ [378, 15, 379, 14, 380, 381, 48, 328, 329, 330, 43, 332, 333, 324, 325, 326, 50, 53, 327, 314, 2, 315, 331, 382, 383, 384, 915, 916, 917, 918, 919, 920, 921, 922, 923, 924, 925, 926, 953, 954, 955, 956, 957, 958, 959] (by decide +kernel) (by decide +kernel)
set_option maxRecDepth 20000 in
theorem gL_law_X5_draw : GoodIn wsL_law (wsV RL 35 RX5 yX5_draw wsX5_draw) := goodIn_app (goodIn_of _ (by decide +kernel)) ggL_law_X5_draw
set_option maxRecDepth 20000 in
theorem ggL_law_X6_draw : GoodIn wsL_law wsX6_draw := goodIn_r _ [388, 286, 79, 389, 390, 391, 5, 392, 108, 109, 110, 371, 372, 373, 374, 367, 368, 369, 370, 84, 341, 342, 343, 344, 349, 350, 351, 352, 353, 354, 927, 928, 929, 930, 931, 932, 933, 934, 935, 936, 937, 938, 939, 940, 941, 942, 943, 944, 945, 946, 947, 948, 949, 950, 951, 952] (by decide +kernel) (by decide +kernel)
set_option maxRecDepth 20000 in
theorem gL_law_X6_draw : GoodIn wsL_law (wsV RL 39 RX6 yX6_draw wsX6_draw) := goodIn_app (goodIn_of _ (by decide +kernel)) ggL_law_X6_draw
set_option maxRecDepth 20000 in
theorem ggL_law_X5_alter : GoodIn wsL_law wsX5_alter := goodIn_r _ [396, 15, 379, 14, 380, 381, 48, 397, 398, 2, 399, 400, 401, 95, 96, 97, 328, 329, 330, 43, 236, 237, 238, 915, 916, 917, 918, 919, 920, 921, 922, 923, 924, 925, 926, 953, 954, 955, 956, 957, 958, 959] (by decide +kernel) (by decide +kernel)
set_option maxRecDepth 20000 in
theorem gL_law_X5_alter : GoodIn wsL_law (wsV RL 40 RX5 yX5_alter wsX5_alter) := goodIn_app (goodIn_of _ (by decide +kernel)) ggL_law_X5_alter
set_option maxRecDepth 20000 in
theorem ggL_law_X6_alter : GoodIn wsL_law wsX6_alter := goodIn_r _ [405, 406, 407, 408, 5, 409, 410, 411, 412, 108, 109, 110, 413, 414, 415, 416, 389, 390, 391, 392, 79, 417, 418, 419, 420, 927, 928, 929, 930, 931, 932, 933, 934, 935, 936, 937, 938, 939, 940, 941, 942, 943, 944, 945, 946, 947, 948, 949, 950, 951, 952] (by decide +kernel) (by decide +kernel)
set_option maxRecDepth 20000 in
theorem gL_law_X6_alter : GoodIn wsL_law (wsV RL 44 RX6 yX6_alter wsX6_alter) := goodIn_app (goodIn_of _ (by decide +kernel)) ggL_law_X6_alter
set_option maxRecDepth 20000 in
theorem ggL_law_X5_stiff : GoodIn wsL_law wsX5_stiff := goodIn_r _ [424, 15, 95, 96, 2, 97, 915, 916, 917, 918, 919, 920, 921, 922, 923, 924, 925, 926, 953, 954, 955, 956, 957, 958, 959] (by decide +kernel) (by decide +kernel)
set_option maxRecDepth 20000 in
theorem gL_law_X5_stiff : GoodIn wsL_law (wsV RL 45 RX5 yX5_stiff wsX5_stiff) := goodIn_app (goodIn_of _ (by decide +kernel)) ggL_law_X5_stiff
set_option maxRecDepth 20000 in
theorem ggL_law_X6_stiff : GoodIn wsL_law wsX6_stiff := goodIn_r _ [428, 411, 108, 109, 5, 110, 417, 418, 419, 420, 79, 927, 928, 929, 930, 931, 932, 933, 934, 935, 936, 937, 938, 939, 940, 941, 942, 943, 944, 945, 946, 947, 948, 949, 950, 951, 952] (by decide +kernel) (by decide +kernel)
set_option maxRecDepth 20000 in
theorem gL_law_X6_stiff : GoodIn wsL_law (wsV RL 48 RX6 yX6_stiff wsX6_stiff) := goodIn_app (goodIn_of _ (by decide +kernel)) ggL_law_X6_stiff
set_option maxRecDepth 20000 in
theorem ggL_law_X5_bears : GoodIn wsL_law wsX5_bears := goodIn_r _ [432, 15, 95, 96, 2, 97, 915, 916, 917, 918, 919, 920, 921, 922, 923, 924, 925, 926, 953, 954, 955, 956, 957, 958, 959] (by decide +kernel) (by decide +kernel)
set_option maxRecDepth 20000 in
theorem gL_law_X5_bears : GoodIn wsL_law (wsV RL 49 RX5 yX5_bears wsX5_bears) := goodIn_app (goodIn_of _ (by decide +kernel)) ggL_law_X5_bears
set_option maxRecDepth 20000 in
theorem ggL_law_X6_bears : GoodIn wsL_law wsX6_bears := goodIn_r _ [436, 437, 108, 109, 5, 110, 417, 418, 419, 420, 79, 927, 928, 929, 930, 931, 932, 933, 934, 935, 936, 937, 938, 939, 940, 941, 942, 943, 944, 945, 946, 947, 948, 949, 950, 951, 952] (by decide +kernel) (by decide +kernel)
set_option maxRecDepth 20000 in
theorem gL_law_X6_bears : GoodIn wsL_law (wsV RL 52 RX6 yX6_bears wsX6_bears) := goodIn_app (goodIn_of _ (by decide +kernel)) ggL_law_X6_bears
set_option maxRecDepth 20000 in
theorem ggL_law_X5_bend : GoodIn wsL_law wsX5_bend := goodIn_r _ [441, 15, 442, 443, 2, 444, 95, 96, 97, 915, 916, 917, 918, 919, 920, 921, 922, 923, 924, 925, 926, 953, 954, 955, 956, 957, 958, 959] (by decide +kernel) (by decide +kernel)
set_option maxRecDepth 20000 in
theorem gL_law_X5_bend : GoodIn wsL_law (wsV RL 53 RX5 yX5_bend wsX5_bend) := goodIn_app (goodIn_of _ (by decide +kernel)) ggL_law_X5_bend
set_option maxRecDepth 20000 in
theorem ggL_law_X6_bend : GoodIn wsL_law wsX6_bend := goodIn_r _ [448, 413, 414, 5, 415, 416, 108, 109, 110, 417, 418, 419, 420, 79, 927, 928, 929, 930, 931, 932, 933, 934, 935, 936, 937, 938, 939, 940, 941, 942, 943, 944, 945, 946, 947, 948, 949, 950, 951, 952] (by decide +kernel) (by decide +kernel)
set_option maxRecDepth 20000 in
theorem gL_law_X6_bend : GoodIn wsL_law (wsV RL 56 RX6 yX6_bend wsX6_bend) := goodIn_app (goodIn_of _ (by decide +kernel)) ggL_law_X6_bend
set_option maxRecDepth 20000 in
theorem ggL_law_X5_put : GoodIn wsL_law wsX5_put := goodIn_r _ [452, 15, 397, 398, 2, 399, 400, 401, 95, 96, 97, 442, 443, 444, 220, 14, 221, 222, 48, 231, 232, 233, 234, 235, 236, 237, 238, 43, 915, 916, 917, 918, 919, 920, 921, 922, 923, 924, 925, 926, 953, 954, 955, 956, 957, 958, 959] (by decide +kernel) (by decide +kernel)
set_option maxRecDepth 20000 in
theorem gL_law_X5_put : GoodIn wsL_law (wsV RL 57 RX5 yX5_put wsX5_put) := goodIn_app (goodIn_of _ (by decide +kernel)) ggL_law_X5_put
set_option maxRecDepth 20000 in
theorem ggL_law_X6_put : GoodIn wsL_law wsX6_put := goodIn_r _ [456, 79, 457, 458, 5, 459, 410, 411, 108, 109, 110, 413, 414, 415, 416, 460, 461, 462, 463, 927, 928, 929, 930, 931, 932, 933, 934, 935, 936, 937, 938, 939, 940, 941, 942, 943, 944, 945, 946, 947, 948, 949, 950, 951, 952] (by decide +kernel) (by decide +kernel)
set_option maxRecDepth 20000 in
theorem gL_law_X6_put : GoodIn wsL_law (wsV RL 60 RX6 yX6_put wsX6_put) := goodIn_app (goodIn_of _ (by decide +kernel)) ggL_law_X6_put
set_option maxRecDepth 20000 in
theorem ggL_law_X5_raze : GoodIn wsL_law wsX5_raze := goodIn_r _ [467, 15, 95, 96, 2, 97, 915, 916, 917, 918, 919, 920, 921, 922, 923, 924, 925, 926, 953, 954, 955, 956, 957, 958, 959] (by decide +kernel) (by decide +kernel)
set_option maxRecDepth 20000 in
theorem gL_law_X5_raze : GoodIn wsL_law (wsV RL 61 RX5 yX5_raze wsX5_raze) := goodIn_app (goodIn_of _ (by decide +kernel)) ggL_law_X5_raze
set_option maxRecDepth 20000 in
theorem ggL_law_X6_raze : GoodIn wsL_law wsX6_raze := goodIn_r _ [471, 79, 108, 109, 5, 110, 417, 418, 419, 420, 927, 928, 929, 930, 931, 932, 933, 934, 935, 936, 937, 938, 939, 940, 941, 942, 943, 944, 945, 946, 947, 948, 949, 950, 951, 952] (by decide +kernel) (by decide +kernel)
set_option maxRecDepth 20000 in
theorem gL_law_X6_raze : GoodIn wsL_law (wsV RL 64 RX6 yX6_raze wsX6_raze) := goodIn_app (goodIn_of _ (by decide +kernel)) ggL_law_X6_raze
set_option maxRecDepth 20000 in
theorem ggL_law_X5_years : GoodIn wsL_law wsX5_years := goodIn_r _ [475, 15, 95, 96, 2, 97, 476, 14, 477, 478, 479, 480, 481, 482, 50, 53, 483, 320, 321, 322, 52, 51, 48, 319, 311, 312, 313, 49, 314, 315, 323, 324, 325, 326, 327, 328, 329, 330, 43, 331, 332, 333, 484, 485, 486, 487, 488, 316, 317, 318, 489, 490, 491, 492, 493, 494, 495, 496, 497, 498, 915, 916, 917, 918, 919, 920, 921, 922, 923, 924, 925, 926, 953, 954, 955, 956, 957, 958, 959] (by decide +kernel) (by decide +kernel)
set_option maxRecDepth 20000 in
theorem gL_law_X5_years : GoodIn wsL_law (wsV RL 65 RX5 yX5_years wsX5_years) := goodIn_app (goodIn_of _ (by decide +kernel)) ggL_law_X5_years
set_option maxRecDepth 20000 in
theorem ggL_law_X6_years : GoodIn wsL_law wsX6_years := goodIn_r _ [502, 503, 79, 108, 109, 5, 110, 504, 505, 506, 507, 359, 360, 361, 362, 363, 364, 365, 366, 345, 346, 347, 348, 341, 342, 343, 344, 349, 350, 351, 352, 353, 354, 355, 356, 357, 358, 367, 368, 369, 370, 84, 371, 372, 373, 374, 508, 509, 510, 511, 927, 928, 929, 930, 931, 932, 933, 934, 935, 936, 937, 938, 939, 940, 941, 942, 943, 944, 945, 946, 947, 948, 949, 950, 951, 952] (by decide +kernel) (by decide +kernel)
set_option maxRecDepth 20000 in
theorem gL_law_X6_years : GoodIn wsL_law (wsV RL 68 RX6 yX6_years wsX6_years) := goodIn_app (goodIn_of _ (by decide +kernel)) ggL_law_X6_years
set_option maxRecDepth 20000 in
theorem ggL_law_X5_runs : GoodIn wsL_law wsX5_runs := goodIn_r _ [515, 16, 15, 95, 96, 2, 97, 246, 14, 247, 248, 43, 249, 250, 251, 252, 48, 49, 50, 51, 52, 53, 476, 477, 478, 479, 480, 481, 482, 483, 320, 321, 322, 319, 311, 312, 313, 314, 315, 323, 324, 325, 326, 327, 328, 329, 330, 331, 332, 333, 484, 485, 486, 487, 488, 316, 317, 318, 489, 490, 491, 492, 493, 494, 495, 496, 497, 498, 516, 517, 518, 519, 520, 521, 522, 523, 524, 525, 526, 527, 915, 916, 917, 918, 919, 920, 921, 922, 923, 924, 925, 926, 953, 954, 955, 956, 957, 958, 959] (by decide +kernel) (by decide +kernel)
set_option maxRecDepth 20000 in
theorem gL_law_X5_runs : GoodIn wsL_law (wsV RL 69 RX5 yX5_runs wsX5_runs) := goodIn_app (goodIn_of _ (by decide +kernel)) ggL_law_X5_runs
set_option maxRecDepth 20000 in
theorem ggL_law_X6_runs : GoodIn wsL_law wsX6_runs := goodIn_r _ [531, 412, 532, 533, 534, 535, 108, 109, 5, 110, 536, 537, 538, 539, 540, 541, 542, 543, 79, 345, 346, 347, 348, 341, 342, 343, 344, 349, 350, 351, 352, 353, 354, 359, 360, 361, 362, 363, 364, 365, 366, 355, 356, 357, 358, 367, 368, 369, 370, 84, 371, 372, 373, 374, 504, 505, 506, 507, 508, 509, 510, 511, 927, 928, 929, 930, 931, 932, 933, 934, 935, 936, 937, 938, 939, 940, 941, 942, 943, 944, 945, 946, 947, 948, 949, 950, 951, 952] (by decide +kernel) (by decide +kernel)
set_option maxRecDepth 20000 in
theorem gL_law_X6_runs : GoodIn wsL_law (wsV RL 72 RX6 yX6_runs wsX6_runs) := goodIn_app (goodIn_of _ (by decide +kernel)) ggL_law_X6_runs
set_option maxRecDepth 20000 in
theorem ggL_law_X5_falls : GoodIn wsL_law wsX5_falls := goodIn_r _ [547, 16, 15, 246, 14, 247, 248, 43, 249, 250, 251, 252, 48, 49, 50, 51, 52, 53, 548, 549, 550, 488, 316, 317, 318, 319, 311, 312, 313, 314, 2, 315, 479, 480, 481, 482, 483, 320, 321, 322, 323, 324, 325, 326, 327, 328, 329, 330, 331, 332, 333, 484, 485, 486, 487, 489, 490, 491, 492, 493, 494, 495, 496, 497, 498, 915, 916, 917, 918, 919, 920, 921, 922, 923, 924, 925, 926, 953, 954, 955, 956, 957, 958, 959] (by decide +kernel) (by decide +kernel)
set_option maxRecDepth 20000 in
theorem gL_law_X5_falls : GoodIn wsL_law (wsV RL 73 RX5 yX5_falls wsX5_falls) := goodIn_app (goodIn_of _ (by decide +kernel)) ggL_law_X5_falls
set_option maxRecDepth 20000 in
theorem ggL_law_X6_falls : GoodIn wsL_law wsX6_falls := goodIn_r _ [554, 540, 541, 542, 5, 543, 79, 355, 356, 357, 358, 345, 346, 347, 348, 341, 342, 343, 344, 349, 350, 351, 352, 353, 354, 504, 505, 506, 507, 359, 360, 361, 362, 363, 364, 365, 366, 367, 368, 369, 370, 84, 371, 372, 373, 374, 508, 509, 510, 511, 927, 928, 929, 930, 931, 932, 933, 934, 935, 936, 937, 938, 939, 940, 941, 942, 943, 944, 945, 946, 947, 948, 949, 950, 951, 952] (by decide +kernel) (by decide +kernel)
set_option maxRecDepth 20000 in
theorem gL_law_X6_falls : GoodIn wsL_law (wsV RL 76 RX6 yX6_falls wsX6_falls) := goodIn_app (goodIn_of _ (by decide +kernel)) ggL_law_X6_falls
set_option maxRecDepth 20000 in
theorem ggL_law_X5_comes : GoodIn wsL_law wsX5_comes := goodIn_r _ [558, 16, 15, 442, 443, 2, 444, 95, 96, 97, 246, 14, 247, 248, 43, 249, 250, 251, 252, 48, 49, 50, 51, 52, 53, 559, 560, 561, 479, 480, 481, 482, 483, 320, 321, 322, 319, 311, 312, 313, 314, 315, 323, 324, 325, 326, 327, 328, 329, 330, 331, 332, 333, 484, 485, 486, 487, 488, 316, 317, 318, 489, 490, 491, 492, 493, 494, 495, 496, 497, 498, 915, 916, 917, 918, 919, 920, 921, 922, 923, 924, 925, 926, 953, 954, 955, 956, 957, 958, 959] (by decide +kernel) (by decide +kernel)
set_option maxRecDepth 20000 in
theorem gL_law_X5_comes : GoodIn wsL_law (wsV RL 77 RX5 yX5_comes wsX5_comes) := goodIn_app (goodIn_of _ (by decide +kernel)) ggL_law_X5_comes
set_option maxRecDepth 20000 in
theorem ggL_law_X6_comes : GoodIn wsL_law wsX6_comes := goodIn_r _ [565, 413, 414, 5, 415, 416, 108, 109, 110, 566, 567, 568, 569, 540, 541, 542, 543, 79, 341, 342, 343, 344, 504, 505, 506, 507, 359, 360, 361, 362, 363, 364, 365, 366, 345, 346, 347, 348, 349, 350, 351, 352, 353, 354, 355, 356, 357, 358, 367, 368, 369, 370, 84, 371, 372, 373, 374, 508, 509, 510, 511, 927, 928, 929, 930, 931, 932, 933, 934, 935, 936, 937, 938, 939, 940, 941, 942, 943, 944, 945, 946, 947, 948, 949, 950, 951, 952] (by decide +kernel) (by decide +kernel)
set_option maxRecDepth 20000 in
theorem gL_law_X6_comes : GoodIn wsL_law (wsV RL 80 RX6 yX6_comes wsX6_comes) := goodIn_app (goodIn_of _ (by decide +kernel)) ggL_law_X6_comes
set_option maxRecDepth 20000 in
theorem ggL_law_X5_share : GoodIn wsL_law wsX5_share := goodIn_r _ [573, 15, 574, 16, 379, 14, 380, 381, 48, 95, 96, 2, 97, 575, 576, 577, 246, 247, 248, 43, 249, 250, 251, 252, 49, 50, 51, 52, 53, 578, 579, 580, 479, 480, 481, 482, 483, 320, 321, 322, 319, 311, 312, 313, 314, 315, 323, 324, 325, 326, 327, 328, 329, 330, 331, 332, 333, 484, 485, 486, 487, 488, 316, 317, 318, 489, 490, 491, 492, 493, 494, 495, 496, 497, 498, 581, 582, 583, 584, 585, 586, 915, 916, 917, 918, 919, 920, 921, 922, 923, 924, 925, 926, 953, 954, 955, 956, 957, 958, 959] (by decide +kernel) (by decide +kernel)
set_option maxRecDepth 20000 in
theorem gL_law_X5_share : GoodIn wsL_law (wsV RL 81 RX5 yX5_share wsX5_share) := goodIn_app (goodIn_of _ (by decide +kernel)) ggL_law_X5_share
set_option maxRecDepth 20000 in
theorem ggL_law_X6_share : GoodIn wsL_law wsX6_share := goodIn_r _ [590, 412, 591, 389, 390, 391, 5, 392, 79, 108, 109, 110, 540, 541, 542, 543, 359, 360, 361, 362, 363, 364, 365, 366, 345, 346, 347, 348, 341, 342, 343, 344, 349, 350, 351, 352, 353, 354, 355, 356, 357, 358, 367, 368, 369, 370, 84, 371, 372, 373, 374, 504, 505, 506, 507, 508, 509, 510, 511, 592, 593, 594, 927, 928, 929, 930, 931, 932, 933, 934, 935, 936, 937, 938, 939, 940, 941, 942, 943, 944, 945, 946, 947, 948, 949, 950, 951, 952] (by decide +kernel) (by decide +kernel)
set_option maxRecDepth 20000 in
theorem gL_law_X6_share : GoodIn wsL_law (wsV RL 85 RX6 yX6_share wsX6_share) := goodIn_app (goodIn_of _ (by decide +kernel)) ggL_law_X6_share
set_option maxRecDepth 20000 in
theorem ggL_law_X5_turn : GoodIn wsL_law wsX5_turn := goodIn_r _ [598, 16, 15, 246, 14, 247, 248, 43, 249, 250, 251, 252, 48, 49, 50, 51, 52, 53, 320, 321, 322, 319, 311, 312, 313, 314, 2, 315, 323, 324, 325, 326, 327, 328, 329, 330, 331, 332, 333, 480, 481, 482, 483, 484, 485, 486, 487, 488, 316, 317, 318, 489, 490, 491, 492, 493, 494, 495, 496, 497, 498, 915, 916, 917, 918, 919, 920, 921, 922, 923, 924, 925, 926, 953, 954, 955, 956, 957, 958, 959] (by decide +kernel) (by decide +kernel)
set_option maxRecDepth 20000 in
theorem gL_law_X5_turn : GoodIn wsL_law (wsV RL 86 RX5 yX5_turn wsX5_turn) := goodIn_app (goodIn_of _ (by decide +kernel)) ggL_law_X5_turn
set_option maxRecDepth 20000 in
theorem ggL_law_X6_turn : GoodIn wsL_law wsX6_turn := goodIn_r _ [602, 359, 360, 361, 5, 362, 79, 363, 364, 365, 366, 345, 346, 347, 348, 341, 342, 343, 344, 349, 350, 351, 352, 353, 354, 355, 356, 357, 358, 367, 368, 369, 370, 84, 371, 372, 373, 374, 540, 541, 542, 543, 504, 505, 506, 507, 508, 509, 510, 511, 927, 928, 929, 930, 931, 932, 933, 934, 935, 936, 937, 938, 939, 940, 941, 942, 943, 944, 945, 946, 947, 948, 949, 950, 951, 952] (by decide +kernel) (by decide +kernel)
set_option maxRecDepth 20000 in
theorem gL_law_X6_turn : GoodIn wsL_law (wsV RL 89 RX6 yX6_turn wsX6_turn) := goodIn_app (goodIn_of _ (by decide +kernel)) ggL_law_X6_turn
set_option maxRecDepth 20000 in
theorem ggL_law_X5_need : GoodIn wsL_law wsX5_need := goodIn_r _ [606, 16, 15, 246, 14, 247, 248, 43, 249, 250, 251, 252, 48, 49, 50, 51, 52, 53, 548, 549, 550, 488, 316, 317, 318, 319, 311, 312, 313, 314, 2, 315, 479, 480, 481, 482, 483, 320, 321, 322, 323, 324, 325, 326, 327, 328, 329, 330, 331, 332, 333, 484, 485, 486, 487, 489, 490, 491, 492, 493, 494, 495, 496, 497, 498, 915, 916, 917, 918, 919, 920, 921, 922, 923, 924, 925, 926, 953, 954, 955, 956, 957, 958, 959] (by decide +kernel) (by decide +kernel)
set_option maxRecDepth 20000 in
theorem gL_law_X5_need : GoodIn wsL_law (wsV RL 90 RX5 yX5_need wsX5_need) := goodIn_app (goodIn_of _ (by decide +kernel)) ggL_law_X5_need
set_option maxRecDepth 20000 in
theorem ggL_law_X6_need : GoodIn wsL_law wsX6_need := goodIn_r _ [610, 79, 540, 541, 542, 5, 543, 611, 612, 613, 614, 533, 536, 537, 538, 539, 534, 535, 345, 346, 347, 348, 341, 342, 343, 344, 349, 350, 351, 352, 353, 354, 359, 360, 361, 362, 363, 364, 365, 366, 355, 356, 357, 358, 367, 368, 369, 370, 84, 371, 372, 373, 374, 504, 505, 506, 507, 508, 509, 510, 511, 927, 928, 929, 930, 931, 932, 933, 934, 935, 936, 937, 938, 939, 940, 941, 942, 943, 944, 945, 946, 947, 948, 949, 950, 951, 952] (by decide +kernel) (by decide +kernel)
set_option maxRecDepth 20000 in
theorem gL_law_X6_need : GoodIn wsL_law (wsV RL 93 RX6 yX6_need wsX6_need) := goodIn_app (goodIn_of _ (by decide +kernel)) ggL_law_X6_need
set_option maxRecDepth 20000 in
theorem ggL_law_X5_brace : GoodIn wsL_law wsX5_brace := goodIn_r _ [618, 16, 15, 246, 14, 247, 248, 43, 249, 250, 251, 252, 48, 49, 50, 51, 52, 53, 548, 549, 550, 488, 316, 317, 318, 319, 311, 312, 313, 314, 2, 315, 479, 480, 481, 482, 483, 320, 321, 322, 323, 324, 325, 326, 327, 328, 329, 330, 331, 332, 333, 484, 485, 486, 487, 489, 490, 491, 492, 493, 494, 495, 496, 497, 498, 915, 916, 917, 918, 919, 920, 921, 922, 923, 924, 925, 926, 953, 954, 955, 956, 957, 958, 959] (by decide +kernel) (by decide +kernel)
set_option maxRecDepth 20000 in
theorem gL_law_X5_brace : GoodIn wsL_law (wsV RL 94 RX5 yX5_brace wsX5_brace) := goodIn_app (goodIn_of _ (by decide +kernel)) ggL_law_X5_brace
set_option maxRecDepth 20000 in
theorem ggL_law_X6_brace : GoodIn wsL_law wsX6_brace := goodIn_r _ [622, 79, 540, 541, 542, 5, 543, 611, 612, 613, 614, 533, 536, 537, 538, 539, 534, 535, 345, 346, 347, 348, 341, 342, 343, 344, 349, 350, 351, 352, 353, 354, 359, 360, 361, 362, 363, 364, 365, 366, 355, 356, 357, 358, 367, 368, 369, 370, 84, 371, 372, 373, 374, 504, 505, 506, 507, 508, 509, 510, 511, 927, 928, 929, 930, 931, 932, 933, 934, 935, 936, 937, 938, 939, 940, 941, 942, 943, 944, 945, 946, 947, 948, 949, 950, 951, 952] (by decide +kernel) (by decide +kernel)
set_option maxRecDepth 20000 in
theorem gL_law_X6_brace : GoodIn wsL_law (wsV RL 97 RX6 yX6_brace wsX6_brace) := goodIn_app (goodIn_of _ (by decide +kernel)) ggL_law_X6_brace
set_option maxRecDepth 20000 in
theorem ggL_law_X5_lure : GoodIn wsL_law wsX5_lure := goodIn_r _ [626, 15, 400, 401, 16, 379, 14, 380, 381, 48, 442, 443, 2, 444, 95, 96, 97, 627, 628, 629, 630, 246, 247, 248, 43, 249, 250, 251, 252, 49, 50, 51, 52, 53, 236, 237, 238, 559, 560, 561, 479, 480, 481, 482, 483, 320, 321, 322, 319, 311, 312, 313, 314, 315, 323, 324, 325, 326, 327, 328, 329, 330, 331, 332, 333, 484, 485, 486, 487, 488, 316, 317, 318, 489, 490, 491, 492, 493, 494, 495, 496, 497, 498, 915, 916, 917, 918, 919, 920, 921, 922, 923, 924, 925, 926, 953, 954, 955, 956, 957, 958, 959] (by decide +kernel) (by decide +kernel)
set_option maxRecDepth 20000 in
theorem gL_law_X5_lure : GoodIn wsL_law (wsV RL 98 RX5 yX5_lure wsX5_lure) := goodIn_app (goodIn_of _ (by decide +kernel)) ggL_law_X5_lure
set_option maxRecDepth 20000 in
theorem ggL_law_X6_lure : GoodIn wsL_law wsX6_lure := goodIn_r _ [634, 79, 389, 390, 391, 5, 392, 108, 109, 110, 413, 414, 415, 416, 540, 541, 542, 543, 566, 567, 568, 569, 341, 342, 343, 344, 504, 505, 506, 507, 359, 360, 361, 362, 363, 364, 365, 366, 345, 346, 347, 348, 349, 350, 351, 352, 353, 354, 355, 356, 357, 358, 367, 368, 369, 370, 84, 371, 372, 373, 374, 508, 509, 510, 511, 927, 928, 929, 930, 931, 932, 933, 934, 935, 936, 937, 938, 939, 940, 941, 942, 943, 944, 945, 946, 947, 948, 949, 950, 951, 952] (by decide +kernel) (by decide +kernel)
set_option maxRecDepth 20000 in
theorem gL_law_X6_lure : GoodIn wsL_law (wsV RL 101 RX6 yX6_lure wsX6_lure) := goodIn_app (goodIn_of _ (by decide +kernel)) ggL_law_X6_lure
set_option maxRecDepth 20000 in
theorem ggL_law_X5_site : GoodIn wsL_law wsX5_site := goodIn_r _ [638, 15, 16, 397, 398, 2, 399, 400, 401, 95, 96, 97, 442, 443, 444, 575, 576, 577, 220, 14, 221, 222, 48, 246, 247, 248, 43, 249, 250, 251, 252, 49, 50, 51, 52, 53, 231, 232, 233, 234, 235, 236, 237, 238, 559, 560, 561, 479, 480, 481, 482, 483, 320, 321, 322, 319, 311, 312, 313, 314, 315, 323, 324, 325, 326, 327, 328, 329, 330, 331, 332, 333, 484, 485, 486, 487, 488, 316, 317, 318, 489, 490, 491, 492, 493, 494, 495, 496, 497, 498, 639, 640, 641, 915, 916, 917, 918, 919, 920, 921, 922, 923, 924, 925, 926, 953, 954, 955, 956, 957, 958, 959] (by decide +kernel) (by decide +kernel)
set_option maxRecDepth 20000 in
theorem gL_law_X5_site : GoodIn wsL_law (wsV RL 102 RX5 yX5_site wsX5_site) := goodIn_app (goodIn_of _ (by decide +kernel)) ggL_law_X5_site
set_option maxRecDepth 20000 in
theorem ggL_law_X6_site : GoodIn wsL_law wsX6_site := goodIn_r _ [645, 79, 457, 458, 5, 459, 410, 411, 108, 109, 110, 413, 414, 415, 416, 540, 541, 542, 543, 460, 461, 462, 463, 566, 567, 568, 569, 341, 342, 343, 344, 504, 505, 506, 507, 359, 360, 361, 362, 363, 364, 365, 366, 345, 346, 347, 348, 349, 350, 351, 352, 353, 354, 355, 356, 357, 358, 367, 368, 369, 370, 84, 371, 372, 373, 374, 508, 509, 510, 511, 927, 928, 929, 930, 931, 932, 933, 934, 935, 936, 937, 938, 939, 940, 941, 942, 943, 944, 945, 946, 947, 948, 949, 950, 951, 952] (by decide +kernel) (by decide +kernel)
set_option maxRecDepth 20000 in
theorem gL_law_X6_site : GoodIn wsL_law (wsV RL 106 RX6 yX6_site wsX6_site) := goodIn_app (goodIn_of _ (by decide +kernel)) ggL_law_X6_site
set_option maxRecDepth 20000 in
theorem ggL_law_X5_hush : GoodIn wsL_law wsX5_hush := goodIn_r _ [649, 15, 650, 16, 575, 576, 2, 577, 95, 96, 97, 651, 652, 653, 654, 246, 14, 247, 248, 43, 249, 250, 251, 252, 48, 49, 50, 51, 52, 53, 516, 517, 518, 519, 520, 495, 521, 319, 311, 312, 313, 314, 315, 479, 480, 481, 482, 483, 320, 321, 322, 323, 324, 325, 326, 327, 328, 329, 330, 331, 332, 333, 484, 485, 486, 487, 488, 316, 317, 318, 489, 490, 491, 492, 493, 494, 496, 497, 498, 627, 628, 629, 630, 236, 237, 238, 639, 640, 641, 915, 916, 917, 918, 919, 920, 921, 922, 923, 924, 925, 926, 953, 954, 955, 956, 957, 958, 959] (by decide +kernel) (by decide +kernel)
set_option maxRecDepth 20000 in
theorem gL_law_X5_hush : GoodIn wsL_law (wsV RL 107 RX5 yX5_hush wsX5_hush) := goodIn_app (goodIn_of _ (by decide +kernel)) ggL_law_X5_hush
set_option maxRecDepth 20000 in
theorem ggL_law_X6_hush : GoodIn wsL_law wsX6_hush := goodIn_r _ [658, 533, 79, 84, 108, 109, 5, 110, 536, 537, 538, 539, 534, 535, 540, 541, 542, 543, 345, 346, 347, 348, 341, 342, 343, 344, 349, 350, 351, 352, 353, 354, 359, 360, 361, 362, 363, 364, 365, 366, 355, 356, 357, 358, 367, 368, 369, 370, 371, 372, 373, 374, 504, 505, 506, 507, 508, 509, 510, 511, 927, 928, 929, 930, 931, 932, 933, 934, 935, 936, 937, 938, 939, 940, 941, 942, 943, 944, 945, 946, 947, 948, 949, 950, 951, 952] (by decide +kernel) (by decide +kernel)
set_option maxRecDepth 20000 in
theorem gL_law_X6_hush : GoodIn wsL_law (wsV RL 110 RX6 yX6_hush wsX6_hush) := goodIn_app (goodIn_of _ (by decide +kernel)) ggL_law_X6_hush
set_option maxRecDepth 20000 in
theorem ggL_law_X5_swap : GoodIn wsL_law wsX5_swap := goodIn_r _ [662, 15, 16, 575, 576, 2, 577, 95, 96, 97, 651, 652, 653, 654, 246, 14, 247, 248, 43, 249, 250, 251, 252, 48, 49, 50, 51, 52, 53, 516, 517, 518, 519, 520, 495, 521, 319, 311, 312, 313, 314, 315, 479, 480, 481, 482, 483, 320, 321, 322, 323, 324, 325, 326, 327, 328, 329, 330, 331, 332, 333, 484, 485, 486, 487, 488, 316, 317, 318, 489, 490, 491, 492, 493, 494, 496, 497, 498, 627, 628, 629, 630, 236, 237, 238, 639, 640, 641, 915, 916, 917, 918, 919, 920, 921, 922, 923, 924, 925, 926, 953, 954, 955, 956, 957, 958, 959] (by decide +kernel) (by decide +kernel)
set_option maxRecDepth 20000 in
theorem gL_law_X5_swap : GoodIn wsL_law (wsV RL 111 RX5 yX5_swap wsX5_swap) := goodIn_app (goodIn_of _ (by decide +kernel)) ggL_law_X5_swap
set_option maxRecDepth 20000 in
theorem ggL_law_X6_swap : GoodIn wsL_law wsX6_swap := goodIn_r _ [666, 533, 79, 108, 109, 5, 110, 536, 537, 538, 539, 534, 535, 540, 541, 542, 543, 345, 346, 347, 348, 341, 342, 343, 344, 349, 350, 351, 352, 353, 354, 359, 360, 361, 362, 363, 364, 365, 366, 355, 356, 357, 358, 367, 368, 369, 370, 84, 371, 372, 373, 374, 504, 505, 506, 507, 508, 509, 510, 511, 927, 928, 929, 930, 931, 932, 933, 934, 935, 936, 937, 938, 939, 940, 941, 942, 943, 944, 945, 946, 947, 948, 949, 950, 951, 952] (by decide +kernel) (by decide +kernel)
set_option maxRecDepth 20000 in
theorem gL_law_X6_swap : GoodIn wsL_law (wsV RL 114 RX6 yX6_swap wsX6_swap) := goodIn_app (goodIn_of _ (by decide +kernel)) ggL_law_X6_swap
set_option maxRecDepth 20000 in
theorem ggL_law_X5_kind : GoodIn wsL_law wsX5_kind := goodIn_r _ [670, 15, 400, 401, 16, 379, 14, 380, 381, 48, 95, 96, 2, 97, 575, 576, 577, 627, 628, 629, 630, 246, 247, 248, 43, 249, 250, 251, 252, 49, 50, 51, 52, 53, 236, 237, 238, 476, 477, 478, 479, 480, 481, 482, 483, 320, 321, 322, 319, 311, 312, 313, 314, 315, 323, 324, 325, 326, 327, 328, 329, 330, 331, 332, 333, 484, 485, 486, 487, 488, 316, 317, 318, 489, 490, 491, 492, 493, 494, 495, 496, 497, 498, 382, 383, 384, 639, 640, 641, 915, 916, 917, 918, 919, 920, 921, 922, 923, 924, 925, 926, 953, 954, 955, 956, 957, 958, 959] (by decide +kernel) (by decide +kernel)
set_option maxRecDepth 20000 in
theorem gL_law_X5_kind : GoodIn wsL_law (wsV RL 115 RX5 yX5_kind wsX5_kind) := goodIn_app (goodIn_of _ (by decide +kernel)) ggL_law_X5_kind
set_option maxRecDepth 20000 in
theorem ggL_law_X6_kind : GoodIn wsL_law wsX6_kind := goodIn_r _ [674, 412, 79, 389, 390, 391, 5, 392, 108, 109, 110, 540, 541, 542, 543, 536, 537, 538, 539, 533, 534, 535, 345, 346, 347, 348, 341, 342, 343, 344, 349, 350, 351, 352, 353, 354, 359, 360, 361, 362, 363, 364, 365, 366, 355, 356, 357, 358, 367, 368, 369, 370, 84, 371, 372, 373, 374, 504, 505, 506, 507, 508, 509, 510, 511, 927, 928, 929, 930, 931, 932, 933, 934, 935, 936, 937, 938, 939, 940, 941, 942, 943, 944, 945, 946, 947, 948, 949, 950, 951, 952] (by decide +kernel) (by decide +kernel)
set_option maxRecDepth 20000 in
theorem gL_law_X6_kind : GoodIn wsL_law (wsV RL 118 RX6 yX6_kind wsX6_kind) := goodIn_app (goodIn_of _ (by decide +kernel)) ggL_law_X6_kind
set_option maxRecDepth 20000 in
theorem ggL_law_X5_luck : GoodIn wsL_law wsX5_luck := goodIn_r _ [678, 574, 16, 15, 31, 95, 96, 2, 97, 442, 443, 444, 575, 576, 577, 246, 14, 247, 248, 43, 249, 250, 251, 252, 48, 49, 50, 51, 52, 53, 679, 30, 680, 681, 68, 682, 683, 684, 685, 686, 687, 688, 689, 690, 69, 691, 320, 321, 322, 319, 311, 312, 313, 314, 315, 323, 324, 325, 326, 327, 328, 329, 330, 331, 332, 333, 485, 486, 487, 488, 316, 317, 318, 489, 490, 491, 492, 493, 494, 495, 496, 497, 498, 581, 582, 583, 584, 585, 586, 915, 916, 917, 918, 919, 920, 921, 922, 923, 924, 925, 926, 972, 973, 974, 953, 954, 955, 956, 957, 958, 959] (by decide +kernel) (by decide +kernel)
set_option maxRecDepth 20000 in
theorem gL_law_X5_luck : GoodIn wsL_law (wsV RL 119 RX5 yX5_luck wsX5_luck) := goodIn_app (goodIn_of _ (by decide +kernel)) ggL_law_X5_luck
set_option maxRecDepth 20000 in
theorem ggL_law_X6_luck : GoodIn wsL_law wsX6_luck := goodIn_r _ [695, 696, 697, 591, 108, 109, 5, 110, 413, 414, 415, 416, 698, 699, 700, 701, 79, 540, 541, 542, 543, 504, 505, 506, 507, 359, 360, 361, 362, 363, 364, 365, 366, 345, 346, 347, 348, 341, 342, 343, 344, 349, 350, 351, 352, 353, 354, 355, 356, 357, 358, 367, 368, 369, 370, 84, 371, 372, 373, 374, 508, 509, 510, 511, 592, 593, 594, 927, 928, 929, 930, 931, 932, 933, 934, 935, 936, 937, 938, 939, 940, 941, 942, 943, 944, 945, 946, 947, 948, 949, 950, 951, 952] (by decide +kernel) (by decide +kernel)
set_option maxRecDepth 20000 in
theorem gL_law_X6_luck : GoodIn wsL_law (wsV RL 123 RX6 yX6_luck wsX6_luck) := goodIn_app (goodIn_of _ (by decide +kernel)) ggL_law_X6_luck
set_option maxRecDepth 20000 in
theorem ggL_law_X5_mean : GoodIn wsL_law wsX5_mean := goodIn_r _ [705, 574, 16, 15, 31, 95, 96, 2, 97, 575, 576, 577, 246, 14, 247, 248, 43, 249, 250, 251, 252, 48, 49, 50, 51, 52, 53, 679, 30, 680, 681, 68, 682, 683, 684, 685, 686, 687, 688, 689, 690, 69, 691, 320, 321, 322, 319, 311, 312, 313, 314, 315, 323, 324, 325, 326, 327, 328, 329, 330, 331, 332, 333, 485, 486, 487, 488, 316, 317, 318, 489, 490, 491, 492, 493, 494, 495, 496, 497, 498, 706, 707, 708, 581, 582, 583, 584, 585, 586, 915, 916, 917, 918, 919, 920, 921, 922, 923, 924, 925, 926, 953, 954, 955, 956, 957, 958, 959, 972, 973, 974] (by decide +kernel) (by decide +kernel)
set_option maxRecDepth 20000 in
theorem gL_law_X5_mean : GoodIn wsL_law (wsV RL 124 RX5 yX5_mean wsX5_mean) := goodIn_app (goodIn_of _ (by decide +kernel)) ggL_law_X5_mean
set_option maxRecDepth 20000 in
theorem ggL_law_X6_mean : GoodIn wsL_law wsX6_mean := goodIn_r _ [712, 696, 697, 591, 108, 109, 5, 110, 698, 699, 700, 701, 79, 540, 541, 542, 543, 504, 505, 506, 507, 359, 360, 361, 362, 363, 364, 365, 366, 345, 346, 347, 348, 341, 342, 343, 344, 349, 350, 351, 352, 353, 354, 355, 356, 357, 358, 367, 368, 369, 370, 84, 371, 372, 373, 374, 508, 509, 510, 511, 592, 593, 594, 927, 928, 929, 930, 931, 932, 933, 934, 935, 936, 937, 938, 939, 940, 941, 942, 943, 944, 945, 946, 947, 948, 949, 950, 951, 952] (by decide +kernel) (by decide +kernel)
set_option maxRecDepth 20000 in
theorem gL_law_X6_mean : GoodIn wsL_law (wsV RL 127 RX6 yX6_mean wsX6_mean) := goodIn_app (goodIn_of _ (by decide +kernel)) ggL_law_X6_mean
set_option maxRecDepth 20000 in
theorem ggL_law_X5_see : GoodIn wsL_law wsX5_see := goodIn_r _ [716, 27, 95, 96, 2, 97, 442, 443, 444, 717, 26, 718, 719, 720, 62, 63, 915, 916, 917, 918, 919, 920, 921, 922, 923, 924, 925, 926, 969, 970, 971] (by decide +kernel) (by decide +kernel)
set_option maxRecDepth 20000 in
theorem gL_law_X5_see : GoodIn wsL_law (wsV RL 128 RX5 yX5_see wsX5_see) := goodIn_app (goodIn_of _ (by decide +kernel)) ggL_law_X5_see
set_option maxRecDepth 20000 in
theorem ggL_law_X6_see : GoodIn wsL_law wsX6_see := goodIn_r _ [724, 503, 263, 85, 108, 109, 5, 110, 413, 414, 415, 416, 927, 928, 929, 930, 931, 932, 933, 934, 935, 936, 937, 938, 939, 940, 941, 942, 943, 944, 945, 946, 947, 948, 949, 950, 951, 952] (by decide +kernel) (by decide +kernel)
set_option maxRecDepth 20000 in
theorem gL_law_X6_see : GoodIn wsL_law (wsV RL 131 RX6 yX6_see wsX6_see) := goodIn_app (goodIn_of _ (by decide +kernel)) ggL_law_X6_see
set_option maxRecDepth 20000 in
theorem ggL_law_X5_forget : GoodIn wsL_law wsX5_forget := goodIn_r _ [728, 27, 95, 96, 2, 97, 915, 916, 917, 918, 919, 920, 921, 922, 923, 924, 925, 926, 969, 970, 971] (by decide +kernel) (by decide +kernel)
set_option maxRecDepth 20000 in
theorem gL_law_X5_forget : GoodIn wsL_law (wsV RL 132 RX5 yX5_forget wsX5_forget) := goodIn_app (goodIn_of _ (by decide +kernel)) ggL_law_X5_forget
set_option maxRecDepth 20000 in
theorem ggL_law_X6_forget : GoodIn wsL_law wsX6_forget := goodIn_r _ [732, 263, 108, 109, 5, 110, 927, 928, 929, 930, 931, 932, 933, 934, 935, 936, 937, 938, 939, 940, 941, 942, 943, 944, 945, 946, 947, 948, 949, 950, 951, 952] (by decide +kernel) (by decide +kernel)
set_option maxRecDepth 20000 in
theorem gL_law_X6_forget : GoodIn wsL_law (wsV RL 135 RX6 yX6_forget wsX6_forget) := goodIn_app (goodIn_of _ (by decide +kernel)) ggL_law_X6_forget
set_option maxRecDepth 20000 in
theorem ggL_law_X5_kinds : GoodIn wsL_law wsX5_kinds := goodIn_r _ [736, 15, 379, 14, 380, 381, 48, 737, 738, 739, 2, 740, 400, 401, 27, 16, 627, 628, 629, 630, 246, 247, 248, 43, 249, 250, 251, 252, 49, 50, 51, 52, 53, 236, 237, 238, 741, 26, 742, 743, 744, 745, 746, 747, 720, 62, 748, 520, 495, 521, 749, 750, 751, 752, 63, 480, 481, 482, 483, 320, 321, 322, 319, 311, 312, 313, 314, 315, 323, 324, 325, 326, 327, 328, 329, 330, 331, 332, 333, 484, 485, 486, 487, 488, 316, 317, 318, 489, 490, 491, 492, 493, 494, 496, 497, 498, 915, 916, 917, 918, 919, 920, 921, 922, 923, 924, 925, 926, 953, 954, 955, 956, 957, 958, 959, 969, 970, 971] (by decide +kernel) (by decide +kernel)
set_option maxRecDepth 20000 in
theorem gL_law_X5_kinds : GoodIn wsL_law (wsV RL 136 RX5 yX5_kinds wsX5_kinds) := goodIn_app (goodIn_of _ (by decide +kernel)) ggL_law_X5_kinds
set_option maxRecDepth 20000 in
theorem ggL_law_X6_kinds : GoodIn wsL_law wsX6_kinds := goodIn_r _ [756, 79, 389, 390, 391, 5, 392, 108, 109, 110, 757, 758, 759, 760, 86, 263, 85, 540, 541, 542, 543, 341, 342, 343, 344, 504, 505, 506, 507, 359, 360, 361, 362, 363, 364, 365, 366, 345, 346, 347, 348, 349, 350, 351, 352, 353, 354, 355, 356, 357, 358, 367, 368, 369, 370, 84, 371, 372, 373, 374, 508, 509, 510, 511, 927, 928, 929, 930, 931, 932, 933, 934, 935, 936, 937, 938, 939, 940, 941, 942, 943, 944, 945, 946, 947, 948, 949, 950, 951, 952] (by decide +kernel) (by decide +kernel)
set_option maxRecDepth 20000 in
theorem gL_law_X6_kinds : GoodIn wsL_law (wsV RL 139 RX6 yX6_kinds wsX6_kinds) := goodIn_app (goodIn_of _ (by decide +kernel)) ggL_law_X6_kinds
set_option maxRecDepth 20000 in
theorem ggL_law_X5_pulls : GoodIn wsL_law wsX5_pulls := goodIn_r _ [764, 15, 379, 14, 380, 381, 48, 737, 738, 739, 2, 740, 400, 401, 27, 16, 627, 628, 629, 630, 246, 247, 248, 43, 249, 250, 251, 252, 49, 50, 51, 52, 53, 236, 237, 238, 741, 26, 742, 743, 744, 745, 746, 747, 720, 62, 748, 520, 495, 521, 749, 750, 751, 752, 63, 480, 481, 482, 483, 320, 321, 322, 319, 311, 312, 313, 314, 315, 323, 324, 325, 326, 327, 328, 329, 330, 331, 332, 333, 484, 485, 486, 487, 488, 316, 317, 318, 489, 490, 491, 492, 493, 494, 496, 497, 498, 915, 916, 917, 918, 919, 920, 921, 922, 923, 924, 925, 926, 953, 954, 955, 956, 957, 958, 959, 969, 970, 971] (by decide +kernel) (by decide +kernel)
set_option maxRecDepth 20000 in
theorem gL_law_X5_pulls : GoodIn wsL_law (wsV RL 140 RX5 yX5_pulls wsX5_pulls) := goodIn_app (goodIn_of _ (by decide +kernel)) ggL_law_X5_pulls
set_option maxRecDepth 20000 in
theorem ggL_law_X6_pulls : GoodIn wsL_law wsX6_pulls := goodIn_r _ [768, 389, 390, 391, 5, 392, 79, 108, 109, 110, 769, 770, 771, 772, 757, 758, 759, 760, 86, 263, 85, 540, 541, 542, 543, 341, 342, 343, 344, 504, 505, 506, 507, 359, 360, 361, 362, 363, 364, 365, 366, 345, 346, 347, 348, 349, 350, 351, 352, 353, 354, 355, 356, 357, 358, 367, 368, 369, 370, 84, 371, 372, 373, 374, 508, 509, 510, 511, 927, 928, 929, 930, 931, 932, 933, 934, 935, 936, 937, 938, 939, 940, 941, 942, 943, 944, 945, 946, 947, 948, 949, 950, 951, 952] (by decide +kernel) (by decide +kernel)
set_option maxRecDepth 20000 in
theorem gL_law_X6_pulls : GoodIn wsL_law (wsV RL 143 RX6 yX6_pulls wsX6_pulls) := goodIn_app (goodIn_of _ (by decide +kernel)) ggL_law_X6_pulls
set_option maxRecDepth 20000 in
theorem ggL_law_X5_spots : GoodIn wsL_law wsX5_spots := goodIn_r _ [776, 15, 27, 16, 379, 14, 380, 381, 48, 575, 576, 2, 577, 95, 96, 97, 627, 628, 629, 630, 246, 247, 248, 43, 249, 250, 251, 252, 49, 50, 51, 52, 53, 236, 237, 238, 741, 26, 742, 743, 744, 745, 746, 747, 720, 62, 748, 520, 495, 521, 749, 750, 751, 752, 63, 480, 481, 482, 483, 320, 321, 322, 319, 311, 312, 313, 314, 315, 323, 324, 325, 326, 327, 328, 329, 330, 331, 332, 333, 484, 485, 486, 487, 488, 316, 317, 318, 489, 490, 491, 492, 493, 494, 496, 497, 498, 915, 916, 917, 918, 919, 920, 921, 922, 923, 924, 925, 926, 953, 954, 955, 956, 957, 958, 959, 969, 970, 971] (by decide +kernel) (by decide +kernel)
set_option maxRecDepth 20000 in
theorem gL_law_X5_spots : GoodIn wsL_law (wsV RL 144 RX5 yX5_spots wsX5_spots) := goodIn_app (goodIn_of _ (by decide +kernel)) ggL_law_X5_spots
set_option maxRecDepth 20000 in
theorem ggL_law_X6_spots : GoodIn wsL_law wsX6_spots := goodIn_r _ [780, 79, 389, 390, 391, 5, 392, 108, 109, 110, 757, 758, 759, 760, 86, 263, 85, 540, 541, 542, 543, 341, 342, 343, 344, 504, 505, 506, 507, 359, 360, 361, 362, 363, 364, 365, 366, 345, 346, 347, 348, 349, 350, 351, 352, 353, 354, 355, 356, 357, 358, 367, 368, 369, 370, 84, 371, 372, 373, 374, 508, 509, 510, 511, 927, 928, 929, 930, 931, 932, 933, 934, 935, 936, 937, 938, 939, 940, 941, 942, 943, 944, 945, 946, 947, 948, 949, 950, 951, 952] (by decide +kernel) (by decide +kernel)
set_option maxRecDepth 20000 in
theorem gL_law_X6_spots : GoodIn wsL_law (wsV RL 147 RX6 yX6_spots wsX6_spots) := goodIn_app (goodIn_of _ (by decide +kernel)) ggL_law_X6_spots
set_option maxRecDepth 20000 in
theorem ggL_law_X5_ask : GoodIn wsL_law wsX5_ask := goodIn_r _ [784, 15, 379, 14, 380, 381, 48, 575, 576, 2, 577, 95, 96, 97, 737, 738, 739, 740, 400, 401, 27, 16, 627, 628, 629, 630, 246, 247, 248, 43, 249, 250, 251, 252, 49, 50, 51, 52, 53, 236, 237, 238, 741, 26, 742, 743, 744, 745, 746, 747, 720, 62, 748, 520, 495, 521, 749, 750, 751, 752, 63, 480, 481, 482, 483, 320, 321, 322, 319, 311, 312, 313, 314, 315, 323, 324, 325, 326, 327, 328, 329, 330, 331, 332, 333, 484, 485, 486, 487, 488, 316, 317, 318, 489, 490, 491, 492, 493, 494, 496, 497, 498, 785, 786, 787, 788, 36, 789, 790, 791, 792, 793, 794, 795, 796, 797, 798, 799, 37, 800, 639, 640, 641, 915, 916, 917, 918, 919, 920, 921, 922, 923, 924, 925, 926, 953, 954, 955, 956, 957, 958, 959, 969, 970, 971] (by decide +kernel) (by decide +kernel)
set_option maxRecDepth 20000 in
theorem gL_law_X5_ask : GoodIn wsL_law (wsV RL 148 RX5 yX5_ask wsX5_ask) := goodIn_app (goodIn_of _ (by decide +kernel)) ggL_law_X5_ask
set_option maxRecDepth 20000 in
theorem ggL_law_X6_ask : GoodIn wsL_law wsX6_ask := goodIn_r _ [804, 86, 389, 390, 391, 5, 392, 79, 108, 109, 110, 769, 770, 771, 772, 757, 758, 759, 760, 263, 85, 540, 541, 542, 543, 341, 342, 343, 344, 504, 505, 506, 507, 359, 360, 361, 362, 363, 364, 365, 366, 345, 346, 347, 348, 349, 350, 351, 352, 353, 354, 355, 356, 357, 358, 367, 368, 369, 370, 84, 371, 372, 373, 374, 508, 509, 510, 511, 805, 806, 807, 927, 928, 929, 930, 931, 932, 933, 934, 935, 936, 937, 938, 939, 940, 941, 942, 943, 944, 945, 946, 947, 948, 949, 950, 951, 952] (by decide +kernel) (by decide +kernel)
set_option maxRecDepth 20000 in
theorem gL_law_X6_ask : GoodIn wsL_law (wsV RL 151 RX6 yX6_ask wsX6_ask) := goodIn_app (goodIn_of _ (by decide +kernel)) ggL_law_X6_ask
set_option maxRecDepth 20000 in
theorem ggL_law_X5_drift : GoodIn wsL_law wsX5_drift := goodIn_r _ [811, 15, 16, 812, 800, 520, 495, 521, 95, 96, 2, 97, 575, 576, 577, 246, 14, 247, 248, 43, 249, 250, 251, 252, 48, 49, 50, 51, 52, 53, 311, 312, 313, 314, 315, 236, 237, 238, 480, 481, 482, 483, 320, 321, 322, 319, 323, 324, 325, 326, 327, 328, 329, 330, 331, 332, 333, 484, 485, 486, 487, 488, 316, 317, 318, 489, 490, 491, 492, 493, 494, 496, 497, 498, 915, 916, 917, 918, 919, 920, 921, 922, 923, 924, 925, 926, 953, 954, 955, 956, 957, 958, 959] (by decide +kernel) (by decide +kernel)
set_option maxRecDepth 20000 in
theorem gL_law_X5_drift : GoodIn wsL_law (wsV RL 152 RX5 yX5_drift wsX5_drift) := goodIn_app (goodIn_of _ (by decide +kernel)) ggL_law_X5_drift
set_option maxRecDepth 20000 in
theorem ggL_law_X6_drift : GoodIn wsL_law wsX6_drift := goodIn_r _ [816, 412, 79, 817, 108, 109, 5, 110, 540, 541, 542, 543, 345, 346, 347, 348, 341, 342, 343, 344, 349, 350, 351, 352, 353, 354, 504, 505, 506, 507, 359, 360, 361, 362, 363, 364, 365, 366, 355, 356, 357, 358, 367, 368, 369, 370, 84, 371, 372, 373, 374, 508, 509, 510, 511, 927, 928, 929, 930, 931, 932, 933, 934, 935, 936, 937, 938, 939, 940, 941, 942, 943, 944, 945, 946, 947, 948, 949, 950, 951, 952] (by decide +kernel) (by decide +kernel)
set_option maxRecDepth 20000 in
theorem gL_law_X6_drift : GoodIn wsL_law (wsV RL 155 RX6 yX6_drift wsX6_drift) := goodIn_app (goodIn_of _ (by decide +kernel)) ggL_law_X6_drift
set_option maxRecDepth 20000 in
theorem ggL_law_X5_keep : GoodIn wsL_law wsX5_keep := goodIn_r _ [821, 19, 17, 15, 95, 96, 2, 97, 246, 14, 247, 248, 43, 249, 250, 251, 252, 48, 49, 50, 51, 52, 53, 915, 916, 917, 918, 919, 920, 921, 922, 923, 924, 925, 926, 953, 954, 955, 956, 957, 958, 959] (by decide +kernel) (by decide +kernel)
set_option maxRecDepth 20000 in
theorem gL_law_X5_keep : GoodIn wsL_law (wsV RL 156 RX5 yX5_keep wsX5_keep) := goodIn_app (goodIn_of _ (by decide +kernel)) ggL_law_X5_keep
set_option maxRecDepth 20000 in
theorem ggL_law_X6_keep : GoodIn wsL_law wsX6_keep := goodIn_r _ [825, 87, 108, 109, 5, 110, 540, 541, 542, 543, 79, 927, 928, 929, 930, 931, 932, 933, 934, 935, 936, 937, 938, 939, 940, 941, 942, 943, 944, 945, 946, 947, 948, 949, 950, 951, 952] (by decide +kernel) (by decide +kernel)
set_option maxRecDepth 20000 in
theorem gL_law_X6_keep : GoodIn wsL_law (wsV RL 159 RX6 yX6_keep wsX6_keep) := goodIn_app (goodIn_of _ (by decide +kernel)) ggL_law_X6_keep
set_option maxRecDepth 20000 in
theorem ggL_law_X5_back : GoodIn wsL_law wsX5_back := goodIn_r _ [829, 19, 15, 17, 95, 96, 2, 97, 246, 14, 247, 248, 43, 249, 250, 251, 252, 48, 49, 50, 51, 52, 53, 915, 916, 917, 918, 919, 920, 921, 922, 923, 924, 925, 926, 953, 954, 955, 956, 957, 958, 959] (by decide +kernel) (by decide +kernel)
set_option maxRecDepth 20000 in
theorem gL_law_X5_back : GoodIn wsL_law (wsV RL 160 RX5 yX5_back wsX5_back) := goodIn_app (goodIn_of _ (by decide +kernel)) ggL_law_X5_back
set_option maxRecDepth 20000 in
theorem ggL_law_X6_back : GoodIn wsL_law wsX6_back := goodIn_r _ [833, 87, 79, 108, 109, 5, 110, 540, 541, 542, 543, 927, 928, 929, 930, 931, 932, 933, 934, 935, 936, 937, 938, 939, 940, 941, 942, 943, 944, 945, 946, 947, 948, 949, 950, 951, 952] (by decide +kernel) (by decide +kernel)
set_option maxRecDepth 20000 in
theorem gL_law_X6_back : GoodIn wsL_law (wsV RL 163 RX6 yX6_back wsX6_back) := goodIn_app (goodIn_of _ (by decide +kernel)) ggL_law_X6_back
set_option maxRecDepth 20000 in
theorem ggL_law_X5_sheet : GoodIn wsL_law wsX5_sheet := goodIn_r _ [837, 33, 838, 839, 2, 840, 95, 96, 97, 841, 842, 843, 844, 39, 845, 846, 74, 847, 73, 915, 916, 917, 918, 919, 920, 921, 922, 923, 924, 925, 926, 975, 976, 977] (by decide +kernel) (by decide +kernel)
set_option maxRecDepth 20000 in
theorem gL_law_X5_sheet : GoodIn wsL_law (wsV RL 164 RX5 yX5_sheet wsX5_sheet) := goodIn_app (goodIn_of _ (by decide +kernel)) ggL_law_X5_sheet
set_option maxRecDepth 20000 in
theorem ggL_law_X6_sheet : GoodIn wsL_law wsX6_sheet := goodIn_r _ [851, 410, 852, 88, 89, 90, 108, 109, 5, 110, 927, 928, 929, 930, 931, 932, 933, 934, 935, 936, 937, 938, 939, 940, 941, 942, 943, 944, 945, 946, 947, 948, 949, 950, 951, 952] (by decide +kernel) (by decide +kernel)
set_option maxRecDepth 20000 in
theorem gL_law_X6_sheet : GoodIn wsL_law (wsV RL 167 RX6 yX6_sheet wsX6_sheet) := goodIn_app (goodIn_of _ (by decide +kernel)) ggL_law_X6_sheet
set_option maxRecDepth 20000 in
theorem ggL_law_X5_lay : GoodIn wsL_law wsX5_lay := goodIn_r _ [856, 33, 838, 839, 2, 840, 95, 96, 97, 857, 39, 858, 859, 74, 847, 860, 861, 862, 863, 864, 865, 866, 73, 915, 916, 917, 918, 919, 920, 921, 922, 923, 924, 925, 926, 975, 976, 977] (by decide +kernel) (by decide +kernel)
set_option maxRecDepth 20000 in
theorem gL_law_X5_lay : GoodIn wsL_law (wsV RL 168 RX5 yX5_lay wsX5_lay) := goodIn_app (goodIn_of _ (by decide +kernel)) ggL_law_X5_lay
set_option maxRecDepth 20000 in
theorem ggL_law_X6_lay : GoodIn wsL_law wsX6_lay := goodIn_r _ [870, 410, 88, 89, 90, 108, 109, 5, 110, 927, 928, 929, 930, 931, 932, 933, 934, 935, 936, 937, 938, 939, 940, 941, 942, 943, 944, 945, 946, 947, 948, 949, 950, 951, 952] (by decide +kernel) (by decide +kernel)
set_option maxRecDepth 20000 in
theorem gL_law_X6_lay : GoodIn wsL_law (wsV RL 171 RX6 yX6_lay wsX6_lay) := goodIn_app (goodIn_of _ (by decide +kernel)) ggL_law_X6_lay
set_option maxRecDepth 20000 in
theorem ggL_law_X5_read : GoodIn wsL_law wsX5_read := goodIn_r _ [874, 33, 16, 15, 875, 838, 839, 2, 840, 95, 96, 97, 841, 842, 843, 246, 14, 247, 248, 43, 249, 250, 251, 252, 48, 49, 50, 51, 52, 53, 876, 39, 877, 878, 879, 857, 858, 859, 74, 847, 860, 861, 862, 863, 880, 881, 882, 883, 379, 380, 381, 442, 443, 444, 236, 237, 238, 480, 481, 482, 483, 320, 321, 322, 319, 311, 312, 313, 314, 315, 323, 324, 325, 326, 327, 328, 329, 330, 331, 332, 333, 484, 485, 486, 487, 488, 316, 317, 318, 489, 490, 491, 492, 493, 494, 495, 496, 497, 498, 915, 916, 917, 918, 919, 920, 921, 922, 923, 924, 925, 926, 975, 976, 977, 953, 954, 955, 956, 957, 958, 959] (by decide +kernel) (by decide +kernel)
set_option maxRecDepth 20000 in
theorem gL_law_X5_read : GoodIn wsL_law (wsV RL 172 RX5 yX5_read wsX5_read) := goodIn_app (goodIn_of _ (by decide +kernel)) ggL_law_X5_read
set_option maxRecDepth 20000 in
theorem ggL_law_X6_read : GoodIn wsL_law wsX6_read := goodIn_r _ [887, 410, 852, 411, 88, 89, 79, 90, 888, 108, 109, 5, 110, 540, 541, 542, 543, 406, 407, 408, 409, 412, 413, 414, 415, 416, 389, 390, 391, 392, 417, 418, 419, 420, 504, 505, 506, 507, 359, 360, 361, 362, 363, 364, 365, 366, 345, 346, 347, 348, 341, 342, 343, 344, 349, 350, 351, 352, 353, 354, 355, 356, 357, 358, 367, 368, 369, 370, 84, 371, 372, 373, 374, 508, 509, 510, 511, 927, 928, 929, 930, 931, 932, 933, 934, 935, 936, 937, 938, 939, 940, 941, 942, 943, 944, 945, 946, 947, 948, 949, 950, 951, 952] (by decide +kernel) (by decide +kernel)
set_option maxRecDepth 20000 in
theorem gL_law_X6_read : GoodIn wsL_law (wsV RL 175 RX6 yX6_read wsX6_read) := goodIn_app (goodIn_of _ (by decide +kernel)) ggL_law_X6_read
set_option maxRecDepth 20000 in
theorem ggL_law_X5_torn : GoodIn wsL_law wsX5_torn := goodIn_r _ [892, 875, 915, 916, 917, 918, 919, 920, 921, 922, 923, 924, 925, 926] (by decide +kernel) (by decide +kernel)
set_option maxRecDepth 20000 in
theorem gL_law_X5_torn : GoodIn wsL_law (wsV RL 176 RX5 yX5_torn wsX5_torn) := goodIn_app (goodIn_of _ (by decide +kernel)) ggL_law_X5_torn
set_option maxRecDepth 20000 in
theorem ggL_law_X6_torn : GoodIn wsL_law wsX6_torn := goodIn_r _ [896, 888, 927, 928, 929, 930, 931, 932, 933, 934, 935, 936, 937, 938, 939, 940, 941, 942, 943, 944, 945, 946, 947, 948, 949, 950, 951, 952] (by decide +kernel) (by decide +kernel)
set_option maxRecDepth 20000 in
theorem gL_law_X6_torn : GoodIn wsL_law (wsV RL 179 RX6 yX6_torn wsX6_torn) := goodIn_app (goodIn_of _ (by decide +kernel)) ggL_law_X6_torn
set_option maxRecDepth 20000 in
theorem ggL_law_X5_count : GoodIn wsL_law wsX5_count := goodIn_r _ [900, 27, 23, 33, 15, 901, 902, 903, 2, 904, 19, 861, 39, 862, 863, 74, 905, 14, 906, 907, 48, 327, 328, 329, 330, 43, 908, 909, 910, 53, 915, 916, 917, 918, 919, 920, 921, 922, 923, 924, 925, 926, 969, 970, 971, 960, 961, 962, 963, 964, 965, 966, 967, 968, 975, 976, 977, 953, 954, 955, 956, 957, 958, 959] (by decide +kernel) (by decide +kernel)
set_option maxRecDepth 20000 in
theorem gL_law_X5_count : GoodIn wsL_law (wsV RL 180 RX5 yX5_count wsX5_count) := goodIn_app (goodIn_of _ (by decide +kernel)) ggL_law_X5_count
set_option maxRecDepth 20000 in
theorem ggL_law_X6_count : GoodIn wsL_law wsX6_count := goodIn_r _ [914, 79, 263, 87, 107, 88, 89, 927, 928, 929, 930, 931, 932, 933, 934, 935, 936, 937, 938, 939, 940, 941, 942, 943, 944, 945, 946, 947, 948, 949, 950, 951, 952] (by decide +kernel) (by decide +kernel)
set_option maxRecDepth 20000 in
theorem gL_law_X6_count : GoodIn wsL_law (wsV RL 183 RX6 yX6_count wsX6_count) := goodIn_app (goodIn_of _ (by decide +kernel)) ggL_law_X6_count
