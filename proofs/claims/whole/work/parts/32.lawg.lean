set_option maxRecDepth 20000 in
theorem ggL_law_X5_init : GoodIn wsL_law wsX5_init := goodIn_r _ [8, 9, 10, 11, 12, 13, 14, 15, 16, 17, 18, 19, 20, 21, 22, 23, 24, 25, 26, 27, 28, 29, 30, 31, 32, 33, 34, 35, 36, 37, 38, 39, 40, 41, 42, 43, 44, 45, 46, 47, 48, 49, 50, 51, 52, 53, 54, 55, 56, 57, 58, 59, 60, 61, 62, 63, 64, 65, 66, 67, 68, 69, 70, 71, 72, 73, 956, 957, 958, 959, 960, 961, 962, 918, 919, 920, 921, 922, 923, 924, 925, 926, 927, 928, 929, 963, 964, 965, 966, 967, 968, 969, 970, 971, 972, 973, 974, 975, 976, 977, 978, 979, 980] (by decide +kernel) (by decide +kernel)
set_option maxRecDepth 20000 in
theorem gL_law_X5_init : GoodIn wsL_law (wsX5_init) := ggL_law_X5_init
set_option maxRecDepth 20000 in
theorem ggL_law_X6_init : GoodIn wsL_law wsX6_init := goodIn_r _ [76, 77, 10, 11, 34, 78, 79, 80, 81, 82, 83, 84, 85, 18, 86, 87, 88, 89, 930, 931, 932, 933, 934, 935, 936, 937, 938, 939, 940, 941, 942, 943, 944, 945, 946, 947, 948, 949, 950, 951, 952, 953, 954, 955] (by decide +kernel) (by decide +kernel)
set_option maxRecDepth 20000 in
theorem gL_law_X6_init : GoodIn wsL_law (wsX6_init) := ggL_law_X6_init
set_option maxRecDepth 20000 in
theorem ggL_law_X5_feed : GoodIn wsL_law wsX5_feed := goodIn_r _ [93, 23, 94, 95, 2, 96, 97, 22, 98, 99, 100, 57, 918, 919, 920, 921, 922, 923, 924, 925, 926, 927, 928, 929, 963, 964, 965, 966, 967, 968, 969, 970, 971] (by decide +kernel) (by decide +kernel)
set_option maxRecDepth 20000 in
theorem gL_law_X5_feed : GoodIn wsL_law (wsV RL 13 RX5 yX5_feed wsX5_feed) := goodIn_app (goodIn_of _ (by decide +kernel)) ggL_law_X5_feed
set_option maxRecDepth 20000 in
theorem ggL_law_X6_feed : GoodIn wsL_law wsX6_feed := goodIn_r _ [104, 105, 106, 80, 107, 108, 5, 109, 930, 931, 932, 933, 934, 935, 936, 937, 938, 939, 940, 941, 942, 943, 944, 945, 946, 947, 948, 949, 950, 951, 952, 953, 954, 955] (by decide +kernel) (by decide +kernel)
set_option maxRecDepth 20000 in
theorem gL_law_X6_feed : GoodIn wsL_law (wsV RL 17 RX6 yX6_feed wsX6_feed) := goodIn_app (goodIn_of _ (by decide +kernel)) ggL_law_X6_feed
set_option maxRecDepth 20000 in
theorem ggL_law_X5_end : GoodIn wsL_law wsX5_end := goodIn_r _ [113, 23, 94, 95, 2, 96, 918, 919, 920, 921, 922, 923, 924, 925, 926, 927, 928, 929, 963, 964, 965, 966, 967, 968, 969, 970, 971] (by decide +kernel) (by decide +kernel)
set_option maxRecDepth 20000 in
theorem gL_law_X5_end : GoodIn wsL_law (wsV RL 18 RX5 yX5_end wsX5_end) := goodIn_app (goodIn_of _ (by decide +kernel)) ggL_law_X5_end
set_option maxRecDepth 20000 in
theorem ggL_law_X6_end : GoodIn wsL_law wsX6_end := goodIn_r _ [117, 106, 107, 108, 5, 109, 930, 931, 932, 933, 934, 935, 936, 937, 938, 939, 940, 941, 942, 943, 944, 945, 946, 947, 948, 949, 950, 951, 952, 953, 954, 955] (by decide +kernel) (by decide +kernel)
set_option maxRecDepth 20000 in
theorem gL_law_X6_end : GoodIn wsL_law (wsV RL 21 RX6 yX6_end wsX6_end) := goodIn_app (goodIn_of _ (by decide +kernel)) ggL_law_X6_end
set_option maxRecDepth 20000 in
theorem ggL_law_X5_text : GoodIn wsL_law wsX5_text := goodIn_r _ [121, 16, 23, 122, 15, 27, 19, 44, 14, 45, 46, 47, 48, 49, 50, 51, 52, 123, 22, 124, 125, 126, 127, 128, 129, 130, 131, 132, 133, 134, 100, 57, 135, 136, 137, 138, 139, 140, 141, 142, 143, 144, 145, 146, 147, 148, 149, 150, 151, 152, 153, 154, 155, 156, 157, 158, 159, 160, 161, 162, 163, 164, 165, 166, 167, 168, 169, 170, 171, 172, 173, 174, 175, 176, 177, 178, 179, 180, 181, 182, 183, 184, 185, 186, 187, 188, 189, 190, 191, 192, 193, 194, 195, 196, 197, 198, 199, 200, 201, 202, 203, 204, 205, 206, 207, 208, 209, 210, 211, 212, 213, 214, 215, 216, 217, 218, 219, 220, 221, 222, 223, 224, 225, 95, 2, 96, 226, 227, 228, 229, 230, 231, 232, 233, 234, 235, 236, 237, 42, 238, 239, 240, 241, 242, 243, 244, 245, 246, 247, 248, 249, 250, 251, 918, 919, 920, 921, 922, 923, 924, 925, 926, 927, 928, 929, 963, 964, 965, 966, 967, 968, 969, 970, 971, 972, 973, 974, 956, 957, 958, 959, 960, 961, 962] (by decide +kernel) (by decide +kernel)
set_option maxRecDepth 20000 in
theorem gL_law_X5_text : GoodIn wsL_law (wsV RL 22 RX5 yX5_text wsX5_text) := goodIn_app (goodIn_of _ (by decide +kernel)) ggL_law_X5_text
set_option maxRecDepth 20000 in
theorem ggL_law_X6_text : GoodIn wsL_law wsX6_text := goodIn_r _ [255, 256, 257, 258, 79, 259, 106, 260, 261, 78, 262, 86, 263, 264, 265, 5, 266, 267, 268, 269, 270, 271, 272, 273, 274, 275, 276, 80, 107, 108, 109, 277, 278, 279, 280, 281, 282, 283, 284, 285, 286, 287, 288, 289, 81, 82, 290, 291, 292, 293, 294, 295, 296, 297, 930, 931, 932, 933, 934, 935, 936, 937, 938, 939, 940, 941, 942, 943, 944, 945, 946, 947, 948, 949, 950, 951, 952, 953, 954, 955] (by decide +kernel) (by decide +kernel)
set_option maxRecDepth 20000 in
theorem gL_law_X6_text : GoodIn wsL_law (wsV RL 26 RX6 yX6_text wsX6_text) := goodIn_app (goodIn_of _ (by decide +kernel)) ggL_law_X6_text
set_option maxRecDepth 20000 in
theorem ggL_law_X5_fault : GoodIn wsL_law wsX5_fault := goodIn_r _ [301, 122, 918, 919, 920, 921, 922, 923, 924, 925, 926, 927, 928, 929] (by decide +kernel) (by decide +kernel)
set_option maxRecDepth 20000 in
theorem gL_law_X5_fault : GoodIn wsL_law (wsV RL 27 RX5 yX5_fault wsX5_fault) := goodIn_app (goodIn_of _ (by decide +kernel)) ggL_law_X5_fault
set_option maxRecDepth 20000 in
theorem ggL_law_X6_fault : GoodIn wsL_law wsX6_fault := goodIn_r _ [305, 260, 930, 931, 932, 933, 934, 935, 936, 937, 938, 939, 940, 941, 942, 943, 944, 945, 946, 947, 948, 949, 950, 951, 952, 953, 954, 955] (by decide +kernel) (by decide +kernel)
set_option maxRecDepth 20000 in
theorem gL_law_X6_fault : GoodIn wsL_law (wsV RL 30 RX6 yX6_fault wsX6_fault) := goodIn_app (goodIn_of _ (by decide +kernel)) ggL_law_X6_fault
set_option maxRecDepth 20000 in
theorem ggL_law_X5_rule : GoodIn wsL_law wsX5_rule := goodIn_r _ [309, 15, 310, 14, 311, 312, 49, 48, 313, 2, 314, 315, 316, 317, 51, 318, 319, 320, 321, 50, 47, 322, 323, 324, 325, 52, 326, 327, 328, 329, 42, 330, 331, 332, 333, 334, 335, 918, 919, 920, 921, 922, 923, 924, 925, 926, 927, 928, 929, 956, 957, 958, 959, 960, 961, 962] (by decide +kernel) (by decide +kernel)
set_option maxRecDepth 20000 in
theorem gL_law_X5_rule : GoodIn wsL_law (wsV RL 31 RX5 yX5_rule wsX5_rule) := goodIn_app (goodIn_of _ (by decide +kernel)) ggL_law_X5_rule
set_option maxRecDepth 20000 in
theorem ggL_law_X6_rule : GoodIn wsL_law wsX6_rule := goodIn_r _ [339, 78, 340, 341, 342, 5, 343, 344, 345, 346, 347, 348, 349, 350, 351, 352, 353, 354, 355, 356, 357, 358, 359, 360, 361, 362, 363, 364, 365, 366, 367, 368, 369, 83, 370, 371, 372, 373, 930, 931, 932, 933, 934, 935, 936, 937, 938, 939, 940, 941, 942, 943, 944, 945, 946, 947, 948, 949, 950, 951, 952, 953, 954, 955] (by decide +kernel) (by decide +kernel)
set_option maxRecDepth 20000 in
theorem gL_law_X6_rule : GoodIn wsL_law (wsV RL 34 RX6 yX6_rule wsX6_rule) := goodIn_app (goodIn_of _ (by decide +kernel)) ggL_law_X6_rule
set_option maxRecDepth 20000 in
theorem ggL_law_X5_draw : GoodIn wsL_law wsX5_draw := goodIn_r _ [377, 15, 378, 14, 379, 380, 47, 327, 328, 329, 42, 331, 332, 323, 324, 325, 49, 52, 326, 313, 2, 314, 330, 381, 382, 383, 918, 919, 920, 921, 922, 923, 924, 925, 926, 927, 928, 929, 956, 957, 958, 959, 960, 961, 962] (by decide +kernel) (by decide +kernel)
set_option maxRecDepth 20000 in
theorem gL_law_X5_draw : GoodIn wsL_law (wsV RL 35 RX5 yX5_draw wsX5_draw) := goodIn_app (goodIn_of _ (by decide +kernel)) ggL_law_X5_draw
set_option maxRecDepth 20000 in
theorem ggL_law_X6_draw : GoodIn wsL_law wsX6_draw := goodIn_r _ [387, 285, 78, 388, 389, 390, 5, 391, 107, 108, 109, 370, 371, 372, 373, 366, 367, 368, 369, 83, 340, 341, 342, 343, 348, 349, 350, 351, 352, 353, 930, 931, 932, 933, 934, 935, 936, 937, 938, 939, 940, 941, 942, 943, 944, 945, 946, 947, 948, 949, 950, 951, 952, 953, 954, 955] (by decide +kernel) (by decide +kernel)
set_option maxRecDepth 20000 in
theorem gL_law_X6_draw : GoodIn wsL_law (wsV RL 39 RX6 yX6_draw wsX6_draw) := goodIn_app (goodIn_of _ (by decide +kernel)) ggL_law_X6_draw
set_option maxRecDepth 20000 in
theorem ggL_law_X5_alter : GoodIn wsL_law wsX5_alter := goodIn_r _ [395, 15, 378, 14, 379, 380, 47, 396, 397, 2, 398, 399, 400, 94, 95, 96, 327, 328, 329, 42, 235, 236, 237, 918, 919, 920, 921, 922, 923, 924, 925, 926, 927, 928, 929, 956, 957, 958, 959, 960, 961, 962] (by decide +kernel) (by decide +kernel)
set_option maxRecDepth 20000 in
theorem gL_law_X5_alter : GoodIn wsL_law (wsV RL 40 RX5 yX5_alter wsX5_alter) := goodIn_app (goodIn_of _ (by decide +kernel)) ggL_law_X5_alter
set_option maxRecDepth 20000 in
theorem ggL_law_X6_alter : GoodIn wsL_law wsX6_alter := goodIn_r _ [404, 405, 406, 407, 5, 408, 409, 410, 411, 107, 108, 109, 412, 413, 414, 415, 388, 389, 390, 391, 78, 416, 417, 418, 419, 930, 931, 932, 933, 934, 935, 936, 937, 938, 939, 940, 941, 942, 943, 944, 945, 946, 947, 948, 949, 950, 951, 952, 953, 954, 955] (by decide +kernel) (by decide +kernel)
set_option maxRecDepth 20000 in
theorem gL_law_X6_alter : GoodIn wsL_law (wsV RL 44 RX6 yX6_alter wsX6_alter) := goodIn_app (goodIn_of _ (by decide +kernel)) ggL_law_X6_alter
set_option maxRecDepth 20000 in
theorem ggL_law_X5_stiff : GoodIn wsL_law wsX5_stiff := goodIn_r _ [423, 15, 94, 95, 2, 96, 918, 919, 920, 921, 922, 923, 924, 925, 926, 927, 928, 929, 956, 957, 958, 959, 960, 961, 962] (by decide +kernel) (by decide +kernel)
set_option maxRecDepth 20000 in
theorem gL_law_X5_stiff : GoodIn wsL_law (wsV RL 45 RX5 yX5_stiff wsX5_stiff) := goodIn_app (goodIn_of _ (by decide +kernel)) ggL_law_X5_stiff
set_option maxRecDepth 20000 in
theorem ggL_law_X6_stiff : GoodIn wsL_law wsX6_stiff := goodIn_r _ [427, 410, 107, 108, 5, 109, 416, 417, 418, 419, 78, 930, 931, 932, 933, 934, 935, 936, 937, 938, 939, 940, 941, 942, 943, 944, 945, 946, 947, 948, 949, 950, 951, 952, 953, 954, 955] (by decide +kernel) (by decide +kernel)
set_option maxRecDepth 20000 in
theorem gL_law_X6_stiff : GoodIn wsL_law (wsV RL 48 RX6 yX6_stiff wsX6_stiff) := goodIn_app (goodIn_of _ (by decide +kernel)) ggL_law_X6_stiff
set_option maxRecDepth 20000 in
theorem ggL_law_X5_bears : GoodIn wsL_law wsX5_bears := goodIn_r _ [431, 15, 94, 95, 2, 96, 918, 919, 920, 921, 922, 923, 924, 925, 926, 927, 928, 929, 956, 957, 958, 959, 960, 961, 962] (by decide +kernel) (by decide +kernel)
set_option maxRecDepth 20000 in
theorem gL_law_X5_bears : GoodIn wsL_law (wsV RL 49 RX5 yX5_bears wsX5_bears) := goodIn_app (goodIn_of _ (by decide +kernel)) ggL_law_X5_bears
set_option maxRecDepth 20000 in
theorem ggL_law_X6_bears : GoodIn wsL_law wsX6_bears := goodIn_r _ [435, 436, 107, 108, 5, 109, 416, 417, 418, 419, 78, 930, 931, 932, 933, 934, 935, 936, 937, 938, 939, 940, 941, 942, 943, 944, 945, 946, 947, 948, 949, 950, 951, 952, 953, 954, 955] (by decide +kernel) (by decide +kernel)
set_option maxRecDepth 20000 in
theorem gL_law_X6_bears : GoodIn wsL_law (wsV RL 52 RX6 yX6_bears wsX6_bears) := goodIn_app (goodIn_of _ (by decide +kernel)) ggL_law_X6_bears
set_option maxRecDepth 20000 in
theorem ggL_law_X5_bend : GoodIn wsL_law wsX5_bend := goodIn_r _ [440, 15, 441, 442, 2, 443, 94, 95, 96, 918, 919, 920, 921, 922, 923, 924, 925, 926, 927, 928, 929, 956, 957, 958, 959, 960, 961, 962] (by decide +kernel) (by decide +kernel)
set_option maxRecDepth 20000 in
theorem gL_law_X5_bend : GoodIn wsL_law (wsV RL 53 RX5 yX5_bend wsX5_bend) := goodIn_app (goodIn_of _ (by decide +kernel)) ggL_law_X5_bend
set_option maxRecDepth 20000 in
theorem ggL_law_X6_bend : GoodIn wsL_law wsX6_bend := goodIn_r _ [447, 412, 413, 5, 414, 415, 107, 108, 109, 416, 417, 418, 419, 78, 930, 931, 932, 933, 934, 935, 936, 937, 938, 939, 940, 941, 942, 943, 944, 945, 946, 947, 948, 949, 950, 951, 952, 953, 954, 955] (by decide +kernel) (by decide +kernel)
set_option maxRecDepth 20000 in
theorem gL_law_X6_bend : GoodIn wsL_law (wsV RL 56 RX6 yX6_bend wsX6_bend) := goodIn_app (goodIn_of _ (by decide +kernel)) ggL_law_X6_bend
set_option maxRecDepth 20000 in
theorem ggL_law_X5_put : GoodIn wsL_law wsX5_put := goodIn_r _ [451, 15, 396, 397, 2, 398, 399, 400, 94, 95, 96, 441, 442, 443, 219, 14, 220, 221, 47, 230, 231, 232, 233, 234, 235, 236, 237, 42, 918, 919, 920, 921, 922, 923, 924, 925, 926, 927, 928, 929, 956, 957, 958, 959, 960, 961, 962] (by decide +kernel) (by decide +kernel)
set_option maxRecDepth 20000 in
theorem gL_law_X5_put : GoodIn wsL_law (wsV RL 57 RX5 yX5_put wsX5_put) := goodIn_app (goodIn_of _ (by decide +kernel)) ggL_law_X5_put
set_option maxRecDepth 20000 in
theorem ggL_law_X6_put : GoodIn wsL_law wsX6_put := goodIn_r _ [455, 78, 456, 457, 5, 458, 409, 410, 107, 108, 109, 412, 413, 414, 415, 459, 460, 461, 462, 930, 931, 932, 933, 934, 935, 936, 937, 938, 939, 940, 941, 942, 943, 944, 945, 946, 947, 948, 949, 950, 951, 952, 953, 954, 955] (by decide +kernel) (by decide +kernel)
set_option maxRecDepth 20000 in
theorem gL_law_X6_put : GoodIn wsL_law (wsV RL 60 RX6 yX6_put wsX6_put) := goodIn_app (goodIn_of _ (by decide +kernel)) ggL_law_X6_put
set_option maxRecDepth 20000 in
theorem ggL_law_X5_raze : GoodIn wsL_law wsX5_raze := goodIn_r _ [466, 15, 94, 95, 2, 96, 918, 919, 920, 921, 922, 923, 924, 925, 926, 927, 928, 929, 956, 957, 958, 959, 960, 961, 962] (by decide +kernel) (by decide +kernel)
set_option maxRecDepth 20000 in
theorem gL_law_X5_raze : GoodIn wsL_law (wsV RL 61 RX5 yX5_raze wsX5_raze) := goodIn_app (goodIn_of _ (by decide +kernel)) ggL_law_X5_raze
set_option maxRecDepth 20000 in
theorem ggL_law_X6_raze : GoodIn wsL_law wsX6_raze := goodIn_r _ [470, 78, 107, 108, 5, 109, 416, 417, 418, 419, 930, 931, 932, 933, 934, 935, 936, 937, 938, 939, 940, 941, 942, 943, 944, 945, 946, 947, 948, 949, 950, 951, 952, 953, 954, 955] (by decide +kernel) (by decide +kernel)
set_option maxRecDepth 20000 in
theorem gL_law_X6_raze : GoodIn wsL_law (wsV RL 64 RX6 yX6_raze wsX6_raze) := goodIn_app (goodIn_of _ (by decide +kernel)) ggL_law_X6_raze
set_option maxRecDepth 20000 in
theorem ggL_law_X5_years : GoodIn wsL_law wsX5_years := goodIn_r _ [474, 15, 94, 95, 2, 96, 475, 14, 476, 477, 478, 479, 480, 481, 49, 52, 482, 319, 320, 321, 51, 50, 47, 318, 310, 311, 312, 48, 313, 314, 322, 323, 324, 325, 326, 327, 328, 329, 42, 330, 331, 332, 483, 484, 485, 486, 487, 315, 316, 317, 488, 489, 490, 491, 492, 493, 494, 495, 496, 497, 918, 919, 920, 921, 922, 923, 924, 925, 926, 927, 928, 929, 956, 957, 958, 959, 960, 961, 962] (by decide +kernel) (by decide +kernel)
set_option maxRecDepth 20000 in
theorem gL_law_X5_years : GoodIn wsL_law (wsV RL 65 RX5 yX5_years wsX5_years) := goodIn_app (goodIn_of _ (by decide +kernel)) ggL_law_X5_years
set_option maxRecDepth 20000 in
theorem ggL_law_X6_years : GoodIn wsL_law wsX6_years := goodIn_r _ [501, 502, 78, 107, 108, 5, 109, 503, 504, 505, 506, 358, 359, 360, 361, 362, 363, 364, 365, 344, 345, 346, 347, 340, 341, 342, 343, 348, 349, 350, 351, 352, 353, 354, 355, 356, 357, 366, 367, 368, 369, 83, 370, 371, 372, 373, 507, 508, 509, 510, 930, 931, 932, 933, 934, 935, 936, 937, 938, 939, 940, 941, 942, 943, 944, 945, 946, 947, 948, 949, 950, 951, 952, 953, 954, 955] (by decide +kernel) (by decide +kernel)
set_option maxRecDepth 20000 in
theorem gL_law_X6_years : GoodIn wsL_law (wsV RL 68 RX6 yX6_years wsX6_years) := goodIn_app (goodIn_of _ (by decide +kernel)) ggL_law_X6_years
set_option maxRecDepth 20000 in
theorem ggL_law_X5_runs : GoodIn wsL_law wsX5_runs := goodIn_r _ [514, 16, 15, 94, 95, 2, 96, 245, 14, 246, 247, 42, 248, 249, 250, 251, 47, 48, 49, 50, 51, 52, 475, 476, 477, 478, 479, 480, 481, 482, 319, 320, 321, 318, 310, 311, 312, 313, 314, 322, 323, 324, 325, 326, 327, 328, 329, 330, 331, 332, 483, 484, 485, 486, 487, 315, 316, 317, 488, 489, 490, 491, 492, 493, 494, 495, 496, 497, 515, 516, 517, 518, 519, 520, 521, 522, 523, 524, 525, 526, 918, 919, 920, 921, 922, 923, 924, 925, 926, 927, 928, 929, 956, 957, 958, 959, 960, 961, 962] (by decide +kernel) (by decide +kernel)
set_option maxRecDepth 20000 in
theorem gL_law_X5_runs : GoodIn wsL_law (wsV RL 69 RX5 yX5_runs wsX5_runs) := goodIn_app (goodIn_of _ (by decide +kernel)) ggL_law_X5_runs
set_option maxRecDepth 20000 in
theorem ggL_law_X6_runs : GoodIn wsL_law wsX6_runs := goodIn_r _ [530, 411, 531, 532, 533, 534, 107, 108, 5, 109, 535, 536, 537, 538, 539, 540, 541, 542, 78, 344, 345, 346, 347, 340, 341, 342, 343, 348, 349, 350, 351, 352, 353, 358, 359, 360, 361, 362, 363, 364, 365, 354, 355, 356, 357, 366, 367, 368, 369, 83, 370, 371, 372, 373, 503, 504, 505, 506, 507, 508, 509, 510, 930, 931, 932, 933, 934, 935, 936, 937, 938, 939, 940, 941, 942, 943, 944, 945, 946, 947, 948, 949, 950, 951, 952, 953, 954, 955] (by decide +kernel) (by decide +kernel)
set_option maxRecDepth 20000 in
theorem gL_law_X6_runs : GoodIn wsL_law (wsV RL 72 RX6 yX6_runs wsX6_runs) := goodIn_app (goodIn_of _ (by decide +kernel)) ggL_law_X6_runs
set_option maxRecDepth 20000 in
theorem ggL_law_X5_falls : GoodIn wsL_law wsX5_falls := goodIn_r _ [546, 16, 15, 245, 14, 246, 247, 42, 248, 249, 250, 251, 47, 48, 49, 50, 51, 52, 547, 548, 549, 487, 315, 316, 317, 318, 310, 311, 312, 313, 2, 314, 478, 479, 480, 481, 482, 319, 320, 321, 322, 323, 324, 325, 326, 327, 328, 329, 330, 331, 332, 483, 484, 485, 486, 488, 489, 490, 491, 492, 493, 494, 495, 496, 497, 918, 919, 920, 921, 922, 923, 924, 925, 926, 927, 928, 929, 956, 957, 958, 959, 960, 961, 962] (by decide +kernel) (by decide +kernel)
set_option maxRecDepth 20000 in
theorem gL_law_X5_falls : GoodIn wsL_law (wsV RL 73 RX5 yX5_falls wsX5_falls) := goodIn_app (goodIn_of _ (by decide +kernel)) ggL_law_X5_falls
set_option maxRecDepth 20000 in
theorem ggL_law_X6_falls : GoodIn wsL_law wsX6_falls := goodIn_r _ [553, 539, 540, 541, 5, 542, 78, 354, 355, 356, 357, 344, 345, 346, 347, 340, 341, 342, 343, 348, 349, 350, 351, 352, 353, 503, 504, 505, 506, 358, 359, 360, 361, 362, 363, 364, 365, 366, 367, 368, 369, 83, 370, 371, 372, 373, 507, 508, 509, 510, 930, 931, 932, 933, 934, 935, 936, 937, 938, 939, 940, 941, 942, 943, 944, 945, 946, 947, 948, 949, 950, 951, 952, 953, 954, 955] (by decide +kernel) (by decide +kernel)
set_option maxRecDepth 20000 in
theorem gL_law_X6_falls : GoodIn wsL_law (wsV RL 76 RX6 yX6_falls wsX6_falls) := goodIn_app (goodIn_of _ (by decide +kernel)) ggL_law_X6_falls
set_option maxRecDepth 20000 in
theorem ggL_law_X5_comes : GoodIn wsL_law wsX5_comes := goodIn_r _ [557, 16, 15, 441, 442, 2, 443, 94, 95, 96, 245, 14, 246, 247, 42, 248, 249, 250, 251, 47, 48, 49, 50, 51, 52, 558, 559, 560, 478, 479, 480, 481, 482, 319, 320, 321, 318, 310, 311, 312, 313, 314, 322, 323, 324, 325, 326, 327, 328, 329, 330, 331, 332, 483, 484, 485, 486, 487, 315, 316, 317, 488, 489, 490, 491, 492, 493, 494, 495, 496, 497, 918, 919, 920, 921, 922, 923, 924, 925, 926, 927, 928, 929, 956, 957, 958, 959, 960, 961, 962] (by decide +kernel) (by decide +kernel)
set_option maxRecDepth 20000 in
theorem gL_law_X5_comes : GoodIn wsL_law (wsV RL 77 RX5 yX5_comes wsX5_comes) := goodIn_app (goodIn_of _ (by decide +kernel)) ggL_law_X5_comes
set_option maxRecDepth 20000 in
theorem ggL_law_X6_comes : GoodIn wsL_law wsX6_comes := goodIn_r _ [564, 412, 413, 5, 414, 415, 107, 108, 109, 565, 566, 567, 568, 539, 540, 541, 542, 78, 340, 341, 342, 343, 503, 504, 505, 506, 358, 359, 360, 361, 362, 363, 364, 365, 344, 345, 346, 347, 348, 349, 350, 351, 352, 353, 354, 355, 356, 357, 366, 367, 368, 369, 83, 370, 371, 372, 373, 507, 508, 509, 510, 930, 931, 932, 933, 934, 935, 936, 937, 938, 939, 940, 941, 942, 943, 944, 945, 946, 947, 948, 949, 950, 951, 952, 953, 954, 955] (by decide +kernel) (by decide +kernel)
set_option maxRecDepth 20000 in
theorem gL_law_X6_comes : GoodIn wsL_law (wsV RL 80 RX6 yX6_comes wsX6_comes) := goodIn_app (goodIn_of _ (by decide +kernel)) ggL_law_X6_comes
set_option maxRecDepth 20000 in
theorem ggL_law_X5_share : GoodIn wsL_law wsX5_share := goodIn_r _ [572, 15, 573, 16, 378, 14, 379, 380, 47, 94, 95, 2, 96, 574, 575, 576, 245, 246, 247, 42, 248, 249, 250, 251, 48, 49, 50, 51, 52, 577, 578, 579, 478, 479, 480, 481, 482, 319, 320, 321, 318, 310, 311, 312, 313, 314, 322, 323, 324, 325, 326, 327, 328, 329, 330, 331, 332, 483, 484, 485, 486, 487, 315, 316, 317, 488, 489, 490, 491, 492, 493, 494, 495, 496, 497, 580, 581, 582, 583, 584, 585, 918, 919, 920, 921, 922, 923, 924, 925, 926, 927, 928, 929, 956, 957, 958, 959, 960, 961, 962] (by decide +kernel) (by decide +kernel)
set_option maxRecDepth 20000 in
theorem gL_law_X5_share : GoodIn wsL_law (wsV RL 81 RX5 yX5_share wsX5_share) := goodIn_app (goodIn_of _ (by decide +kernel)) ggL_law_X5_share
set_option maxRecDepth 20000 in
theorem ggL_law_X6_share : GoodIn wsL_law wsX6_share := goodIn_r _ [589, 411, 590, 388, 389, 390, 5, 391, 78, 107, 108, 109, 539, 540, 541, 542, 358, 359, 360, 361, 362, 363, 364, 365, 344, 345, 346, 347, 340, 341, 342, 343, 348, 349, 350, 351, 352, 353, 354, 355, 356, 357, 366, 367, 368, 369, 83, 370, 371, 372, 373, 503, 504, 505, 506, 507, 508, 509, 510, 591, 592, 593, 930, 931, 932, 933, 934, 935, 936, 937, 938, 939, 940, 941, 942, 943, 944, 945, 946, 947, 948, 949, 950, 951, 952, 953, 954, 955] (by decide +kernel) (by decide +kernel)
set_option maxRecDepth 20000 in
theorem gL_law_X6_share : GoodIn wsL_law (wsV RL 85 RX6 yX6_share wsX6_share) := goodIn_app (goodIn_of _ (by decide +kernel)) ggL_law_X6_share
set_option maxRecDepth 20000 in
theorem ggL_law_X5_turn : GoodIn wsL_law wsX5_turn := goodIn_r _ [597, 16, 15, 245, 14, 246, 247, 42, 248, 249, 250, 251, 47, 48, 49, 50, 51, 52, 319, 320, 321, 318, 310, 311, 312, 313, 2, 314, 322, 323, 324, 325, 326, 327, 328, 329, 330, 331, 332, 479, 480, 481, 482, 483, 484, 485, 486, 487, 315, 316, 317, 488, 489, 490, 491, 492, 493, 494, 495, 496, 497, 918, 919, 920, 921, 922, 923, 924, 925, 926, 927, 928, 929, 956, 957, 958, 959, 960, 961, 962] (by decide +kernel) (by decide +kernel)
set_option maxRecDepth 20000 in
theorem gL_law_X5_turn : GoodIn wsL_law (wsV RL 86 RX5 yX5_turn wsX5_turn) := goodIn_app (goodIn_of _ (by decide +kernel)) ggL_law_X5_turn
set_option maxRecDepth 20000 in
theorem ggL_law_X6_turn : GoodIn wsL_law wsX6_turn := goodIn_r _ [601, 358, 359, 360, 5, 361, 78, 362, 363, 364, 365, 344, 345, 346, 347, 340, 341, 342, 343, 348, 349, 350, 351, 352, 353, 354, 355, 356, 357, 366, 367, 368, 369, 83, 370, 371, 372, 373, 539, 540, 541, 542, 503, 504, 505, 506, 507, 508, 509, 510, 930, 931, 932, 933, 934, 935, 936, 937, 938, 939, 940, 941, 942, 943, 944, 945, 946, 947, 948, 949, 950, 951, 952, 953, 954, 955] (by decide +kernel) (by decide +kernel)
set_option maxRecDepth 20000 in
theorem gL_law_X6_turn : GoodIn wsL_law (wsV RL 89 RX6 yX6_turn wsX6_turn) := goodIn_app (goodIn_of _ (by decide +kernel)) ggL_law_X6_turn
set_option maxRecDepth 20000 in
theorem ggL_law_X5_need : GoodIn wsL_law wsX5_need := goodIn_r _ [605, 16, 15, 245, 14, 246, 247, 42, 248, 249, 250, 251, 47, 48, 49, 50, 51, 52, 547, 548, 549, 487, 315, 316, 317, 318, 310, 311, 312, 313, 2, 314, 478, 479, 480, 481, 482, 319, 320, 321, 322, 323, 324, 325, 326, 327, 328, 329, 330, 331, 332, 483, 484, 485, 486, 488, 489, 490, 491, 492, 493, 494, 495, 496, 497, 918, 919, 920, 921, 922, 923, 924, 925, 926, 927, 928, 929, 956, 957, 958, 959, 960, 961, 962] (by decide +kernel) (by decide +kernel)
set_option maxRecDepth 20000 in
theorem gL_law_X5_need : GoodIn wsL_law (wsV RL 90 RX5 yX5_need wsX5_need) := goodIn_app (goodIn_of _ (by decide +kernel)) ggL_law_X5_need
set_option maxRecDepth 20000 in
theorem ggL_law_X6_need : GoodIn wsL_law wsX6_need := goodIn_r _ [609, 78, 539, 540, 541, 5, 542, 610, 611, 612, 613, 532, 535, 536, 537, 538, 533, 534, 344, 345, 346, 347, 340, 341, 342, 343, 348, 349, 350, 351, 352, 353, 358, 359, 360, 361, 362, 363, 364, 365, 354, 355, 356, 357, 366, 367, 368, 369, 83, 370, 371, 372, 373, 503, 504, 505, 506, 507, 508, 509, 510, 930, 931, 932, 933, 934, 935, 936, 937, 938, 939, 940, 941, 942, 943, 944, 945, 946, 947, 948, 949, 950, 951, 952, 953, 954, 955] (by decide +kernel) (by decide +kernel)
set_option maxRecDepth 20000 in
theorem gL_law_X6_need : GoodIn wsL_law (wsV RL 93 RX6 yX6_need wsX6_need) := goodIn_app (goodIn_of _ (by decide +kernel)) ggL_law_X6_need
set_option maxRecDepth 20000 in
theorem ggL_law_X5_brace : GoodIn wsL_law wsX5_brace := goodIn_r _ [617, 16, 15, 245, 14, 246, 247, 42, 248, 249, 250, 251, 47, 48, 49, 50, 51, 52, 547, 548, 549, 487, 315, 316, 317, 318, 310, 311, 312, 313, 2, 314, 478, 479, 480, 481, 482, 319, 320, 321, 322, 323, 324, 325, 326, 327, 328, 329, 330, 331, 332, 483, 484, 485, 486, 488, 489, 490, 491, 492, 493, 494, 495, 496, 497, 918, 919, 920, 921, 922, 923, 924, 925, 926, 927, 928, 929, 956, 957, 958, 959, 960, 961, 962] (by decide +kernel) (by decide +kernel)
set_option maxRecDepth 20000 in
theorem gL_law_X5_brace : GoodIn wsL_law (wsV RL 94 RX5 yX5_brace wsX5_brace) := goodIn_app (goodIn_of _ (by decide +kernel)) ggL_law_X5_brace
set_option maxRecDepth 20000 in
theorem ggL_law_X6_brace : GoodIn wsL_law wsX6_brace := goodIn_r _ [621, 78, 539, 540, 541, 5, 542, 610, 611, 612, 613, 532, 535, 536, 537, 538, 533, 534, 344, 345, 346, 347, 340, 341, 342, 343, 348, 349, 350, 351, 352, 353, 358, 359, 360, 361, 362, 363, 364, 365, 354, 355, 356, 357, 366, 367, 368, 369, 83, 370, 371, 372, 373, 503, 504, 505, 506, 507, 508, 509, 510, 930, 931, 932, 933, 934, 935, 936, 937, 938, 939, 940, 941, 942, 943, 944, 945, 946, 947, 948, 949, 950, 951, 952, 953, 954, 955] (by decide +kernel) (by decide +kernel)
set_option maxRecDepth 20000 in
theorem gL_law_X6_brace : GoodIn wsL_law (wsV RL 97 RX6 yX6_brace wsX6_brace) := goodIn_app (goodIn_of _ (by decide +kernel)) ggL_law_X6_brace
set_option maxRecDepth 20000 in
theorem ggL_law_X5_lure : GoodIn wsL_law wsX5_lure := goodIn_r _ [625, 15, 399, 400, 16, 378, 14, 379, 380, 47, 441, 442, 2, 443, 94, 95, 96, 626, 627, 628, 629, 245, 246, 247, 42, 248, 249, 250, 251, 48, 49, 50, 51, 52, 235, 236, 237, 558, 559, 560, 478, 479, 480, 481, 482, 319, 320, 321, 318, 310, 311, 312, 313, 314, 322, 323, 324, 325, 326, 327, 328, 329, 330, 331, 332, 483, 484, 485, 486, 487, 315, 316, 317, 488, 489, 490, 491, 492, 493, 494, 495, 496, 497, 918, 919, 920, 921, 922, 923, 924, 925, 926, 927, 928, 929, 956, 957, 958, 959, 960, 961, 962] (by decide +kernel) (by decide +kernel)
set_option maxRecDepth 20000 in
theorem gL_law_X5_lure : GoodIn wsL_law (wsV RL 98 RX5 yX5_lure wsX5_lure) := goodIn_app (goodIn_of _ (by decide +kernel)) ggL_law_X5_lure
set_option maxRecDepth 20000 in
theorem ggL_law_X6_lure : GoodIn wsL_law wsX6_lure := goodIn_r _ [633, 78, 388, 389, 390, 5, 391, 107, 108, 109, 412, 413, 414, 415, 539, 540, 541, 542, 565, 566, 567, 568, 340, 341, 342, 343, 503, 504, 505, 506, 358, 359, 360, 361, 362, 363, 364, 365, 344, 345, 346, 347, 348, 349, 350, 351, 352, 353, 354, 355, 356, 357, 366, 367, 368, 369, 83, 370, 371, 372, 373, 507, 508, 509, 510, 930, 931, 932, 933, 934, 935, 936, 937, 938, 939, 940, 941, 942, 943, 944, 945, 946, 947, 948, 949, 950, 951, 952, 953, 954, 955] (by decide +kernel) (by decide +kernel)
set_option maxRecDepth 20000 in
theorem gL_law_X6_lure : GoodIn wsL_law (wsV RL 101 RX6 yX6_lure wsX6_lure) := goodIn_app (goodIn_of _ (by decide +kernel)) ggL_law_X6_lure
set_option maxRecDepth 20000 in
theorem ggL_law_X5_site : GoodIn wsL_law wsX5_site := goodIn_r _ [637, 15, 16, 396, 397, 2, 398, 399, 400, 94, 95, 96, 441, 442, 443, 574, 575, 576, 219, 14, 220, 221, 47, 245, 246, 247, 42, 248, 249, 250, 251, 48, 49, 50, 51, 52, 230, 231, 232, 233, 234, 235, 236, 237, 558, 559, 560, 478, 479, 480, 481, 482, 319, 320, 321, 318, 310, 311, 312, 313, 314, 322, 323, 324, 325, 326, 327, 328, 329, 330, 331, 332, 483, 484, 485, 486, 487, 315, 316, 317, 488, 489, 490, 491, 492, 493, 494, 495, 496, 497, 638, 639, 640, 918, 919, 920, 921, 922, 923, 924, 925, 926, 927, 928, 929, 956, 957, 958, 959, 960, 961, 962] (by decide +kernel) (by decide +kernel)
set_option maxRecDepth 20000 in
theorem gL_law_X5_site : GoodIn wsL_law (wsV RL 102 RX5 yX5_site wsX5_site) := goodIn_app (goodIn_of _ (by decide +kernel)) ggL_law_X5_site
set_option maxRecDepth 20000 in
theorem ggL_law_X6_site : GoodIn wsL_law wsX6_site := goodIn_r _ [644, 78, 456, 457, 5, 458, 409, 410, 107, 108, 109, 412, 413, 414, 415, 539, 540, 541, 542, 459, 460, 461, 462, 565, 566, 567, 568, 340, 341, 342, 343, 503, 504, 505, 506, 358, 359, 360, 361, 362, 363, 364, 365, 344, 345, 346, 347, 348, 349, 350, 351, 352, 353, 354, 355, 356, 357, 366, 367, 368, 369, 83, 370, 371, 372, 373, 507, 508, 509, 510, 930, 931, 932, 933, 934, 935, 936, 937, 938, 939, 940, 941, 942, 943, 944, 945, 946, 947, 948, 949, 950, 951, 952, 953, 954, 955] (by decide +kernel) (by decide +kernel)
set_option maxRecDepth 20000 in
theorem gL_law_X6_site : GoodIn wsL_law (wsV RL 106 RX6 yX6_site wsX6_site) := goodIn_app (goodIn_of _ (by decide +kernel)) ggL_law_X6_site
set_option maxRecDepth 20000 in
theorem ggL_law_X5_hush : GoodIn wsL_law wsX5_hush := goodIn_r _ [648, 15, 649, 16, 574, 575, 2, 576, 94, 95, 96, 650, 651, 652, 653, 245, 14, 246, 247, 42, 248, 249, 250, 251, 47, 48, 49, 50, 51, 52, 515, 516, 517, 518, 519, 494, 520, 318, 310, 311, 312, 313, 314, 478, 479, 480, 481, 482, 319, 320, 321, 322, 323, 324, 325, 326, 327, 328, 329, 330, 331, 332, 483, 484, 485, 486, 487, 315, 316, 317, 488, 489, 490, 491, 492, 493, 495, 496, 497, 626, 627, 628, 629, 235, 236, 237, 638, 639, 640, 918, 919, 920, 921, 922, 923, 924, 925, 926, 927, 928, 929, 956, 957, 958, 959, 960, 961, 962] (by decide +kernel) (by decide +kernel)
set_option maxRecDepth 20000 in
theorem gL_law_X5_hush : GoodIn wsL_law (wsV RL 107 RX5 yX5_hush wsX5_hush) := goodIn_app (goodIn_of _ (by decide +kernel)) ggL_law_X5_hush
set_option maxRecDepth 20000 in
theorem ggL_law_X6_hush : GoodIn wsL_law wsX6_hush := goodIn_r _ [657, 532, 78, 83, 107, 108, 5, 109, 535, 536, 537, 538, 533, 534, 539, 540, 541, 542, 344, 345, 346, 347, 340, 341, 342, 343, 348, 349, 350, 351, 352, 353, 358, 359, 360, 361, 362, 363, 364, 365, 354, 355, 356, 357, 366, 367, 368, 369, 370, 371, 372, 373, 503, 504, 505, 506, 507, 508, 509, 510, 930, 931, 932, 933, 934, 935, 936, 937, 938, 939, 940, 941, 942, 943, 944, 945, 946, 947, 948, 949, 950, 951, 952, 953, 954, 955] (by decide +kernel) (by decide +kernel)
set_option maxRecDepth 20000 in
theorem gL_law_X6_hush : GoodIn wsL_law (wsV RL 110 RX6 yX6_hush wsX6_hush) := goodIn_app (goodIn_of _ (by decide +kernel)) ggL_law_X6_hush
set_option maxRecDepth 20000 in
theorem ggL_law_X5_swap : GoodIn wsL_law wsX5_swap := goodIn_r _ [661, 15, 16, 574, 575, 2, 576, 94, 95, 96, 650, 651, 652, 653, 245, 14, 246, 247, 42, 248, 249, 250, 251, 47, 48, 49, 50, 51, 52, 515, 516, 517, 518, 519, 494, 520, 318, 310, 311, 312, 313, 314, 478, 479, 480, 481, 482, 319, 320, 321, 322, 323, 324, 325, 326, 327, 328, 329, 330, 331, 332, 483, 484, 485, 486, 487, 315, 316, 317, 488, 489, 490, 491, 492, 493, 495, 496, 497, 626, 627, 628, 629, 235, 236, 237, 638, 639, 640, 918, 919, 920, 921, 922, 923, 924, 925, 926, 927, 928, 929, 956, 957, 958, 959, 960, 961, 962] (by decide +kernel) (by decide +kernel)
set_option maxRecDepth 20000 in
theorem gL_law_X5_swap : GoodIn wsL_law (wsV RL 111 RX5 yX5_swap wsX5_swap) := goodIn_app (goodIn_of _ (by decide +kernel)) ggL_law_X5_swap
set_option maxRecDepth 20000 in
theorem ggL_law_X6_swap : GoodIn wsL_law wsX6_swap := goodIn_r _ [665, 532, 78, 107, 108, 5, 109, 535, 536, 537, 538, 533, 534, 539, 540, 541, 542, 344, 345, 346, 347, 340, 341, 342, 343, 348, 349, 350, 351, 352, 353, 358, 359, 360, 361, 362, 363, 364, 365, 354, 355, 356, 357, 366, 367, 368, 369, 83, 370, 371, 372, 373, 503, 504, 505, 506, 507, 508, 509, 510, 930, 931, 932, 933, 934, 935, 936, 937, 938, 939, 940, 941, 942, 943, 944, 945, 946, 947, 948, 949, 950, 951, 952, 953, 954, 955] (by decide +kernel) (by decide +kernel)
set_option maxRecDepth 20000 in
theorem gL_law_X6_swap : GoodIn wsL_law (wsV RL 114 RX6 yX6_swap wsX6_swap) := goodIn_app (goodIn_of _ (by decide +kernel)) ggL_law_X6_swap
set_option maxRecDepth 20000 in
theorem ggL_law_X5_kind : GoodIn wsL_law wsX5_kind := goodIn_r _ [669, 15, 399, 400, 16, 378, 14, 379, 380, 47, 94, 95, 2, 96, 574, 575, 576, 626, 627, 628, 629, 245, 246, 247, 42, 248, 249, 250, 251, 48, 49, 50, 51, 52, 235, 236, 237, 475, 476, 477, 478, 479, 480, 481, 482, 319, 320, 321, 318, 310, 311, 312, 313, 314, 322, 323, 324, 325, 326, 327, 328, 329, 330, 331, 332, 483, 484, 485, 486, 487, 315, 316, 317, 488, 489, 490, 491, 492, 493, 494, 495, 496, 497, 381, 382, 383, 638, 639, 640, 918, 919, 920, 921, 922, 923, 924, 925, 926, 927, 928, 929, 956, 957, 958, 959, 960, 961, 962] (by decide +kernel) (by decide +kernel)
set_option maxRecDepth 20000 in
theorem gL_law_X5_kind : GoodIn wsL_law (wsV RL 115 RX5 yX5_kind wsX5_kind) := goodIn_app (goodIn_of _ (by decide +kernel)) ggL_law_X5_kind
set_option maxRecDepth 20000 in
theorem ggL_law_X6_kind : GoodIn wsL_law wsX6_kind := goodIn_r _ [673, 411, 78, 388, 389, 390, 5, 391, 107, 108, 109, 539, 540, 541, 542, 535, 536, 537, 538, 532, 533, 534, 344, 345, 346, 347, 340, 341, 342, 343, 348, 349, 350, 351, 352, 353, 358, 359, 360, 361, 362, 363, 364, 365, 354, 355, 356, 357, 366, 367, 368, 369, 83, 370, 371, 372, 373, 503, 504, 505, 506, 507, 508, 509, 510, 930, 931, 932, 933, 934, 935, 936, 937, 938, 939, 940, 941, 942, 943, 944, 945, 946, 947, 948, 949, 950, 951, 952, 953, 954, 955] (by decide +kernel) (by decide +kernel)
set_option maxRecDepth 20000 in
theorem gL_law_X6_kind : GoodIn wsL_law (wsV RL 118 RX6 yX6_kind wsX6_kind) := goodIn_app (goodIn_of _ (by decide +kernel)) ggL_law_X6_kind
set_option maxRecDepth 20000 in
theorem ggL_law_X5_luck : GoodIn wsL_law wsX5_luck := goodIn_r _ [677, 573, 16, 15, 31, 94, 95, 2, 96, 441, 442, 443, 574, 575, 576, 245, 14, 246, 247, 42, 248, 249, 250, 251, 47, 48, 49, 50, 51, 52, 678, 30, 679, 680, 67, 681, 682, 683, 684, 685, 686, 687, 688, 689, 68, 690, 319, 320, 321, 318, 310, 311, 312, 313, 314, 322, 323, 324, 325, 326, 327, 328, 329, 330, 331, 332, 484, 485, 486, 487, 315, 316, 317, 488, 489, 490, 491, 492, 493, 494, 495, 496, 497, 580, 581, 582, 583, 584, 585, 918, 919, 920, 921, 922, 923, 924, 925, 926, 927, 928, 929, 975, 976, 977, 956, 957, 958, 959, 960, 961, 962] (by decide +kernel) (by decide +kernel)
set_option maxRecDepth 20000 in
theorem gL_law_X5_luck : GoodIn wsL_law (wsV RL 119 RX5 yX5_luck wsX5_luck) := goodIn_app (goodIn_of _ (by decide +kernel)) ggL_law_X5_luck
set_option maxRecDepth 20000 in
theorem ggL_law_X6_luck : GoodIn wsL_law wsX6_luck := goodIn_r _ [694, 695, 696, 590, 107, 108, 5, 109, 412, 413, 414, 415, 697, 698, 699, 700, 78, 539, 540, 541, 542, 503, 504, 505, 506, 358, 359, 360, 361, 362, 363, 364, 365, 344, 345, 346, 347, 340, 341, 342, 343, 348, 349, 350, 351, 352, 353, 354, 355, 356, 357, 366, 367, 368, 369, 83, 370, 371, 372, 373, 507, 508, 509, 510, 591, 592, 593, 930, 931, 932, 933, 934, 935, 936, 937, 938, 939, 940, 941, 942, 943, 944, 945, 946, 947, 948, 949, 950, 951, 952, 953, 954, 955] (by decide +kernel) (by decide +kernel)
set_option maxRecDepth 20000 in
theorem gL_law_X6_luck : GoodIn wsL_law (wsV RL 123 RX6 yX6_luck wsX6_luck) := goodIn_app (goodIn_of _ (by decide +kernel)) ggL_law_X6_luck
set_option maxRecDepth 20000 in
theorem ggL_law_X5_mean : GoodIn wsL_law wsX5_mean := goodIn_r _ [704, 573, 16, 15, 31, 94, 95, 2, 96, 574, 575, 576, 245, 14, 246, 247, 42, 248, 249, 250, 251, 47, 48, 49, 50, 51, 52, 678, 30, 679, 680, 67, 681, 682, 683, 684, 685, 686, 687, 688, 689, 68, 690, 319, 320, 321, 318, 310, 311, 312, 313, 314, 322, 323, 324, 325, 326, 327, 328, 329, 330, 331, 332, 484, 485, 486, 487, 315, 316, 317, 488, 489, 490, 491, 492, 493, 494, 495, 496, 497, 705, 706, 707, 580, 581, 582, 583, 584, 585, 918, 919, 920, 921, 922, 923, 924, 925, 926, 927, 928, 929, 956, 957, 958, 959, 960, 961, 962, 975, 976, 977] (by decide +kernel) (by decide +kernel)
set_option maxRecDepth 20000 in
theorem gL_law_X5_mean : GoodIn wsL_law (wsV RL 124 RX5 yX5_mean wsX5_mean) := goodIn_app (goodIn_of _ (by decide +kernel)) ggL_law_X5_mean
set_option maxRecDepth 20000 in
theorem ggL_law_X6_mean : GoodIn wsL_law wsX6_mean := goodIn_r _ [711, 695, 696, 590, 107, 108, 5, 109, 697, 698, 699, 700, 78, 539, 540, 541, 542, 503, 504, 505, 506, 358, 359, 360, 361, 362, 363, 364, 365, 344, 345, 346, 347, 340, 341, 342, 343, 348, 349, 350, 351, 352, 353, 354, 355, 356, 357, 366, 367, 368, 369, 83, 370, 371, 372, 373, 507, 508, 509, 510, 591, 592, 593, 930, 931, 932, 933, 934, 935, 936, 937, 938, 939, 940, 941, 942, 943, 944, 945, 946, 947, 948, 949, 950, 951, 952, 953, 954, 955] (by decide +kernel) (by decide +kernel)
set_option maxRecDepth 20000 in
theorem gL_law_X6_mean : GoodIn wsL_law (wsV RL 127 RX6 yX6_mean wsX6_mean) := goodIn_app (goodIn_of _ (by decide +kernel)) ggL_law_X6_mean
set_option maxRecDepth 20000 in
theorem ggL_law_X5_see : GoodIn wsL_law wsX5_see := goodIn_r _ [715, 27, 94, 95, 2, 96, 441, 442, 443, 716, 26, 717, 718, 719, 61, 62, 918, 919, 920, 921, 922, 923, 924, 925, 926, 927, 928, 929, 972, 973, 974] (by decide +kernel) (by decide +kernel)
set_option maxRecDepth 20000 in
theorem gL_law_X5_see : GoodIn wsL_law (wsV RL 128 RX5 yX5_see wsX5_see) := goodIn_app (goodIn_of _ (by decide +kernel)) ggL_law_X5_see
set_option maxRecDepth 20000 in
theorem ggL_law_X6_see : GoodIn wsL_law wsX6_see := goodIn_r _ [723, 502, 262, 84, 107, 108, 5, 109, 412, 413, 414, 415, 930, 931, 932, 933, 934, 935, 936, 937, 938, 939, 940, 941, 942, 943, 944, 945, 946, 947, 948, 949, 950, 951, 952, 953, 954, 955] (by decide +kernel) (by decide +kernel)
set_option maxRecDepth 20000 in
theorem gL_law_X6_see : GoodIn wsL_law (wsV RL 131 RX6 yX6_see wsX6_see) := goodIn_app (goodIn_of _ (by decide +kernel)) ggL_law_X6_see
set_option maxRecDepth 20000 in
theorem ggL_law_X5_forget : GoodIn wsL_law wsX5_forget := goodIn_r _ [727, 27, 94, 95, 2, 96, 918, 919, 920, 921, 922, 923, 924, 925, 926, 927, 928, 929, 972, 973, 974] (by decide +kernel) (by decide +kernel)
set_option maxRecDepth 20000 in
theorem gL_law_X5_forget : GoodIn wsL_law (wsV RL 132 RX5 yX5_forget wsX5_forget) := goodIn_app (goodIn_of _ (by decide +kernel)) ggL_law_X5_forget
set_option maxRecDepth 20000 in
theorem ggL_law_X6_forget : GoodIn wsL_law wsX6_forget := goodIn_r _ [731, 262, 107, 108, 5, 109, 930, 931, 932, 933, 934, 935, 936, 937, 938, 939, 940, 941, 942, 943, 944, 945, 946, 947, 948, 949, 950, 951, 952, 953, 954, 955] (by decide +kernel) (by decide +kernel)
set_option maxRecDepth 20000 in
theorem gL_law_X6_forget : GoodIn wsL_law (wsV RL 135 RX6 yX6_forget wsX6_forget) := goodIn_app (goodIn_of _ (by decide +kernel)) ggL_law_X6_forget
set_option maxRecDepth 20000 in
theorem ggL_law_X5_kinds : GoodIn wsL_law wsX5_kinds := goodIn_r _ [735, 15, 378, 14, 379, 380, 47, 736, 737, 738, 2, 739, 399, 400, 27, 16, 626, 627, 628, 629, 245, 246, 247, 42, 248, 249, 250, 251, 48, 49, 50, 51, 52, 235, 236, 237, 740, 26, 741, 742, 743, 744, 745, 746, 719, 61, 747, 519, 494, 520, 748, 749, 750, 751, 62, 479, 480, 481, 482, 319, 320, 321, 318, 310, 311, 312, 313, 314, 322, 323, 324, 325, 326, 327, 328, 329, 330, 331, 332, 483, 484, 485, 486, 487, 315, 316, 317, 488, 489, 490, 491, 492, 493, 495, 496, 497, 918, 919, 920, 921, 922, 923, 924, 925, 926, 927, 928, 929, 956, 957, 958, 959, 960, 961, 962, 972, 973, 974] (by decide +kernel) (by decide +kernel)
set_option maxRecDepth 20000 in
theorem gL_law_X5_kinds : GoodIn wsL_law (wsV RL 136 RX5 yX5_kinds wsX5_kinds) := goodIn_app (goodIn_of _ (by decide +kernel)) ggL_law_X5_kinds
set_option maxRecDepth 20000 in
theorem ggL_law_X6_kinds : GoodIn wsL_law wsX6_kinds := goodIn_r _ [755, 78, 388, 389, 390, 5, 391, 107, 108, 109, 756, 757, 758, 759, 85, 262, 84, 539, 540, 541, 542, 340, 341, 342, 343, 503, 504, 505, 506, 358, 359, 360, 361, 362, 363, 364, 365, 344, 345, 346, 347, 348, 349, 350, 351, 352, 353, 354, 355, 356, 357, 366, 367, 368, 369, 83, 370, 371, 372, 373, 507, 508, 509, 510, 930, 931, 932, 933, 934, 935, 936, 937, 938, 939, 940, 941, 942, 943, 944, 945, 946, 947, 948, 949, 950, 951, 952, 953, 954, 955] (by decide +kernel) (by decide +kernel)
set_option maxRecDepth 20000 in
theorem gL_law_X6_kinds : GoodIn wsL_law (wsV RL 139 RX6 yX6_kinds wsX6_kinds) := goodIn_app (goodIn_of _ (by decide +kernel)) ggL_law_X6_kinds
set_option maxRecDepth 20000 in
theorem ggL_law_X5_pulls : GoodIn wsL_law wsX5_pulls := goodIn_r _ [763, 15, 378, 14, 379, 380, 47, 736, 737, 738, 2, 739, 399, 400, 27, 16, 626, 627, 628, 629, 245, 246, 247, 42, 248, 249, 250, 251, 48, 49, 50, 51, 52, 235, 236, 237, 740, 26, 741, 742, 743, 744, 745, 746, 719, 61, 747, 519, 494, 520, 748, 749, 750, 751, 62, 479, 480, 481, 482, 319, 320, 321, 318, 310, 311, 312, 313, 314, 322, 323, 324, 325, 326, 327, 328, 329, 330, 331, 332, 483, 484, 485, 486, 487, 315, 316, 317, 488, 489, 490, 491, 492, 493, 495, 496, 497, 918, 919, 920, 921, 922, 923, 924, 925, 926, 927, 928, 929, 956, 957, 958, 959, 960, 961, 962, 972, 973, 974] (by decide +kernel) (by decide +kernel)
set_option maxRecDepth 20000 in
theorem gL_law_X5_pulls : GoodIn wsL_law (wsV RL 140 RX5 yX5_pulls wsX5_pulls) := goodIn_app (goodIn_of _ (by decide +kernel)) ggL_law_X5_pulls
set_option maxRecDepth 20000 in
theorem ggL_law_X6_pulls : GoodIn wsL_law wsX6_pulls := goodIn_r _ [767, 388, 389, 390, 5, 391, 78, 107, 108, 109, 768, 769, 770, 771, 756, 757, 758, 759, 85, 262, 84, 539, 540, 541, 542, 340, 341, 342, 343, 503, 504, 505, 506, 358, 359, 360, 361, 362, 363, 364, 365, 344, 345, 346, 347, 348, 349, 350, 351, 352, 353, 354, 355, 356, 357, 366, 367, 368, 369, 83, 370, 371, 372, 373, 507, 508, 509, 510, 930, 931, 932, 933, 934, 935, 936, 937, 938, 939, 940, 941, 942, 943, 944, 945, 946, 947, 948, 949, 950, 951, 952, 953, 954, 955] (by decide +kernel) (by decide +kernel)
set_option maxRecDepth 20000 in
theorem gL_law_X6_pulls : GoodIn wsL_law (wsV RL 143 RX6 yX6_pulls wsX6_pulls) := goodIn_app (goodIn_of _ (by decide +kernel)) ggL_law_X6_pulls
set_option maxRecDepth 20000 in
theorem ggL_law_X5_spots : GoodIn wsL_law wsX5_spots := goodIn_r _ [775, 15, 27, 16, 378, 14, 379, 380, 47, 574, 575, 2, 576, 94, 95, 96, 626, 627, 628, 629, 245, 246, 247, 42, 248, 249, 250, 251, 48, 49, 50, 51, 52, 235, 236, 237, 740, 26, 741, 742, 743, 744, 745, 746, 719, 61, 747, 519, 494, 520, 748, 749, 750, 751, 62, 479, 480, 481, 482, 319, 320, 321, 318, 310, 311, 312, 313, 314, 322, 323, 324, 325, 326, 327, 328, 329, 330, 331, 332, 483, 484, 485, 486, 487, 315, 316, 317, 488, 489, 490, 491, 492, 493, 495, 496, 497, 918, 919, 920, 921, 922, 923, 924, 925, 926, 927, 928, 929, 956, 957, 958, 959, 960, 961, 962, 972, 973, 974] (by decide +kernel) (by decide +kernel)
set_option maxRecDepth 20000 in
theorem gL_law_X5_spots : GoodIn wsL_law (wsV RL 144 RX5 yX5_spots wsX5_spots) := goodIn_app (goodIn_of _ (by decide +kernel)) ggL_law_X5_spots
set_option maxRecDepth 20000 in
theorem ggL_law_X6_spots : GoodIn wsL_law wsX6_spots := goodIn_r _ [779, 78, 388, 389, 390, 5, 391, 107, 108, 109, 756, 757, 758, 759, 85, 262, 84, 539, 540, 541, 542, 340, 341, 342, 343, 503, 504, 505, 506, 358, 359, 360, 361, 362, 363, 364, 365, 344, 345, 346, 347, 348, 349, 350, 351, 352, 353, 354, 355, 356, 357, 366, 367, 368, 369, 83, 370, 371, 372, 373, 507, 508, 509, 510, 930, 931, 932, 933, 934, 935, 936, 937, 938, 939, 940, 941, 942, 943, 944, 945, 946, 947, 948, 949, 950, 951, 952, 953, 954, 955] (by decide +kernel) (by decide +kernel)
set_option maxRecDepth 20000 in
theorem gL_law_X6_spots : GoodIn wsL_law (wsV RL 147 RX6 yX6_spots wsX6_spots) := goodIn_app (goodIn_of _ (by decide +kernel)) ggL_law_X6_spots
set_option maxRecDepth 20000 in
theorem ggL_law_X5_ask : GoodIn wsL_law wsX5_ask := goodIn_r _ [783, 15, 378, 14, 379, 380, 47, 574, 575, 2, 576, 94, 95, 96, 736, 737, 738, 739, 399, 400, 27, 16, 626, 627, 628, 629, 245, 246, 247, 42, 248, 249, 250, 251, 48, 49, 50, 51, 52, 235, 236, 237, 740, 26, 741, 742, 743, 744, 745, 746, 719, 61, 747, 519, 494, 520, 748, 749, 750, 751, 62, 479, 480, 481, 482, 319, 320, 321, 318, 310, 311, 312, 313, 314, 322, 323, 324, 325, 326, 327, 328, 329, 330, 331, 332, 483, 484, 485, 486, 487, 315, 316, 317, 488, 489, 490, 491, 492, 493, 495, 496, 497, 784, 785, 786, 787, 35, 788, 789, 790, 791, 792, 793, 794, 795, 796, 797, 798, 36, 799, 800, 801, 802, 803, 638, 639, 640, 918, 919, 920, 921, 922, 923, 924, 925, 926, 927, 928, 929, 956, 957, 958, 959, 960, 961, 962, 972, 973, 974] (by decide +kernel) (by decide +kernel)
set_option maxRecDepth 20000 in
theorem gL_law_X5_ask : GoodIn wsL_law (wsV RL 148 RX5 yX5_ask wsX5_ask) := goodIn_app (goodIn_of _ (by decide +kernel)) ggL_law_X5_ask
set_option maxRecDepth 20000 in
theorem ggL_law_X6_ask : GoodIn wsL_law wsX6_ask := goodIn_r _ [807, 85, 388, 389, 390, 5, 391, 78, 107, 108, 109, 768, 769, 770, 771, 756, 757, 758, 759, 262, 84, 539, 540, 541, 542, 340, 341, 342, 343, 503, 504, 505, 506, 358, 359, 360, 361, 362, 363, 364, 365, 344, 345, 346, 347, 348, 349, 350, 351, 352, 353, 354, 355, 356, 357, 366, 367, 368, 369, 83, 370, 371, 372, 373, 507, 508, 509, 510, 808, 809, 810, 930, 931, 932, 933, 934, 935, 936, 937, 938, 939, 940, 941, 942, 943, 944, 945, 946, 947, 948, 949, 950, 951, 952, 953, 954, 955] (by decide +kernel) (by decide +kernel)
set_option maxRecDepth 20000 in
theorem gL_law_X6_ask : GoodIn wsL_law (wsV RL 151 RX6 yX6_ask wsX6_ask) := goodIn_app (goodIn_of _ (by decide +kernel)) ggL_law_X6_ask
set_option maxRecDepth 20000 in
theorem ggL_law_X5_drift : GoodIn wsL_law wsX5_drift := goodIn_r _ [814, 15, 16, 815, 799, 519, 494, 520, 94, 95, 2, 96, 574, 575, 576, 245, 14, 246, 247, 42, 248, 249, 250, 251, 47, 48, 49, 50, 51, 52, 310, 311, 312, 313, 314, 235, 236, 237, 479, 480, 481, 482, 319, 320, 321, 318, 322, 323, 324, 325, 326, 327, 328, 329, 330, 331, 332, 483, 484, 485, 486, 487, 315, 316, 317, 488, 489, 490, 491, 492, 493, 495, 496, 497, 918, 919, 920, 921, 922, 923, 924, 925, 926, 927, 928, 929, 956, 957, 958, 959, 960, 961, 962] (by decide +kernel) (by decide +kernel)
set_option maxRecDepth 20000 in
theorem gL_law_X5_drift : GoodIn wsL_law (wsV RL 152 RX5 yX5_drift wsX5_drift) := goodIn_app (goodIn_of _ (by decide +kernel)) ggL_law_X5_drift
set_option maxRecDepth 20000 in
theorem ggL_law_X6_drift : GoodIn wsL_law wsX6_drift := goodIn_r _ [819, 411, 78, 820, 107, 108, 5, 109, 539, 540, 541, 542, 344, 345, 346, 347, 340, 341, 342, 343, 348, 349, 350, 351, 352, 353, 503, 504, 505, 506, 358, 359, 360, 361, 362, 363, 364, 365, 354, 355, 356, 357, 366, 367, 368, 369, 83, 370, 371, 372, 373, 507, 508, 509, 510, 930, 931, 932, 933, 934, 935, 936, 937, 938, 939, 940, 941, 942, 943, 944, 945, 946, 947, 948, 949, 950, 951, 952, 953, 954, 955] (by decide +kernel) (by decide +kernel)
set_option maxRecDepth 20000 in
theorem gL_law_X6_drift : GoodIn wsL_law (wsV RL 155 RX6 yX6_drift wsX6_drift) := goodIn_app (goodIn_of _ (by decide +kernel)) ggL_law_X6_drift
set_option maxRecDepth 20000 in
theorem ggL_law_X5_keep : GoodIn wsL_law wsX5_keep := goodIn_r _ [824, 19, 17, 15, 94, 95, 2, 96, 245, 14, 246, 247, 42, 248, 249, 250, 251, 47, 48, 49, 50, 51, 52, 918, 919, 920, 921, 922, 923, 924, 925, 926, 927, 928, 929, 956, 957, 958, 959, 960, 961, 962] (by decide +kernel) (by decide +kernel)
set_option maxRecDepth 20000 in
theorem gL_law_X5_keep : GoodIn wsL_law (wsV RL 156 RX5 yX5_keep wsX5_keep) := goodIn_app (goodIn_of _ (by decide +kernel)) ggL_law_X5_keep
set_option maxRecDepth 20000 in
theorem ggL_law_X6_keep : GoodIn wsL_law wsX6_keep := goodIn_r _ [828, 86, 107, 108, 5, 109, 539, 540, 541, 542, 78, 930, 931, 932, 933, 934, 935, 936, 937, 938, 939, 940, 941, 942, 943, 944, 945, 946, 947, 948, 949, 950, 951, 952, 953, 954, 955] (by decide +kernel) (by decide +kernel)
set_option maxRecDepth 20000 in
theorem gL_law_X6_keep : GoodIn wsL_law (wsV RL 159 RX6 yX6_keep wsX6_keep) := goodIn_app (goodIn_of _ (by decide +kernel)) ggL_law_X6_keep
set_option maxRecDepth 20000 in
theorem ggL_law_X5_back : GoodIn wsL_law wsX5_back := goodIn_r _ [832, 19, 15, 17, 94, 95, 2, 96, 245, 14, 246, 247, 42, 248, 249, 250, 251, 47, 48, 49, 50, 51, 52, 918, 919, 920, 921, 922, 923, 924, 925, 926, 927, 928, 929, 956, 957, 958, 959, 960, 961, 962] (by decide +kernel) (by decide +kernel)
set_option maxRecDepth 20000 in
theorem gL_law_X5_back : GoodIn wsL_law (wsV RL 160 RX5 yX5_back wsX5_back) := goodIn_app (goodIn_of _ (by decide +kernel)) ggL_law_X5_back
set_option maxRecDepth 20000 in
theorem ggL_law_X6_back : GoodIn wsL_law wsX6_back := goodIn_r _ [836, 86, 78, 107, 108, 5, 109, 539, 540, 541, 542, 930, 931, 932, 933, 934, 935, 936, 937, 938, 939, 940, 941, 942, 943, 944, 945, 946, 947, 948, 949, 950, 951, 952, 953, 954, 955] (by decide +kernel) (by decide +kernel)
set_option maxRecDepth 20000 in
theorem gL_law_X6_back : GoodIn wsL_law (wsV RL 163 RX6 yX6_back wsX6_back) := goodIn_app (goodIn_of _ (by decide +kernel)) ggL_law_X6_back
set_option maxRecDepth 20000 in
theorem ggL_law_X5_sheet : GoodIn wsL_law wsX5_sheet := goodIn_r _ [840, 33, 841, 842, 2, 843, 94, 95, 96, 844, 845, 846, 847, 38, 848, 849, 73, 850, 72, 918, 919, 920, 921, 922, 923, 924, 925, 926, 927, 928, 929, 978, 979, 980] (by decide +kernel) (by decide +kernel)
set_option maxRecDepth 20000 in
theorem gL_law_X5_sheet : GoodIn wsL_law (wsV RL 164 RX5 yX5_sheet wsX5_sheet) := goodIn_app (goodIn_of _ (by decide +kernel)) ggL_law_X5_sheet
set_option maxRecDepth 20000 in
theorem ggL_law_X6_sheet : GoodIn wsL_law wsX6_sheet := goodIn_r _ [854, 409, 855, 87, 88, 89, 107, 108, 5, 109, 930, 931, 932, 933, 934, 935, 936, 937, 938, 939, 940, 941, 942, 943, 944, 945, 946, 947, 948, 949, 950, 951, 952, 953, 954, 955] (by decide +kernel) (by decide +kernel)
set_option maxRecDepth 20000 in
theorem gL_law_X6_sheet : GoodIn wsL_law (wsV RL 167 RX6 yX6_sheet wsX6_sheet) := goodIn_app (goodIn_of _ (by decide +kernel)) ggL_law_X6_sheet
set_option maxRecDepth 20000 in
theorem ggL_law_X5_lay : GoodIn wsL_law wsX5_lay := goodIn_r _ [859, 33, 841, 842, 2, 843, 94, 95, 96, 860, 38, 861, 862, 73, 850, 863, 864, 865, 866, 867, 868, 869, 72, 918, 919, 920, 921, 922, 923, 924, 925, 926, 927, 928, 929, 978, 979, 980] (by decide +kernel) (by decide +kernel)
set_option maxRecDepth 20000 in
theorem gL_law_X5_lay : GoodIn wsL_law (wsV RL 168 RX5 yX5_lay wsX5_lay) := goodIn_app (goodIn_of _ (by decide +kernel)) ggL_law_X5_lay
set_option maxRecDepth 20000 in
theorem ggL_law_X6_lay : GoodIn wsL_law wsX6_lay := goodIn_r _ [873, 409, 87, 88, 89, 107, 108, 5, 109, 930, 931, 932, 933, 934, 935, 936, 937, 938, 939, 940, 941, 942, 943, 944, 945, 946, 947, 948, 949, 950, 951, 952, 953, 954, 955] (by decide +kernel) (by decide +kernel)
set_option maxRecDepth 20000 in
theorem gL_law_X6_lay : GoodIn wsL_law (wsV RL 171 RX6 yX6_lay wsX6_lay) := goodIn_app (goodIn_of _ (by decide +kernel)) ggL_law_X6_lay
set_option maxRecDepth 20000 in
theorem ggL_law_X5_read : GoodIn wsL_law wsX5_read := goodIn_r _ [877, 33, 16, 15, 878, 841, 842, 2, 843, 94, 95, 96, 844, 845, 846, 245, 14, 246, 247, 42, 248, 249, 250, 251, 47, 48, 49, 50, 51, 52, 879, 38, 880, 881, 882, 860, 861, 862, 73, 850, 863, 864, 865, 866, 883, 884, 885, 886, 378, 379, 380, 441, 442, 443, 235, 236, 237, 479, 480, 481, 482, 319, 320, 321, 318, 310, 311, 312, 313, 314, 322, 323, 324, 325, 326, 327, 328, 329, 330, 331, 332, 483, 484, 485, 486, 487, 315, 316, 317, 488, 489, 490, 491, 492, 493, 494, 495, 496, 497, 918, 919, 920, 921, 922, 923, 924, 925, 926, 927, 928, 929, 978, 979, 980, 956, 957, 958, 959, 960, 961, 962] (by decide +kernel) (by decide +kernel)
set_option maxRecDepth 20000 in
theorem gL_law_X5_read : GoodIn wsL_law (wsV RL 172 RX5 yX5_read wsX5_read) := goodIn_app (goodIn_of _ (by decide +kernel)) ggL_law_X5_read
set_option maxRecDepth 20000 in
theorem ggL_law_X6_read : GoodIn wsL_law wsX6_read := goodIn_r _ [890, 409, 855, 410, 87, 88, 78, 89, 891, 107, 108, 5, 109, 539, 540, 541, 542, 405, 406, 407, 408, 411, 412, 413, 414, 415, 388, 389, 390, 391, 416, 417, 418, 419, 503, 504, 505, 506, 358, 359, 360, 361, 362, 363, 364, 365, 344, 345, 346, 347, 340, 341, 342, 343, 348, 349, 350, 351, 352, 353, 354, 355, 356, 357, 366, 367, 368, 369, 83, 370, 371, 372, 373, 507, 508, 509, 510, 930, 931, 932, 933, 934, 935, 936, 937, 938, 939, 940, 941, 942, 943, 944, 945, 946, 947, 948, 949, 950, 951, 952, 953, 954, 955] (by decide +kernel) (by decide +kernel)
set_option maxRecDepth 20000 in
theorem gL_law_X6_read : GoodIn wsL_law (wsV RL 175 RX6 yX6_read wsX6_read) := goodIn_app (goodIn_of _ (by decide +kernel)) ggL_law_X6_read
set_option maxRecDepth 20000 in
theorem ggL_law_X5_torn : GoodIn wsL_law wsX5_torn := goodIn_r _ [895, 878, 918, 919, 920, 921, 922, 923, 924, 925, 926, 927, 928, 929] (by decide +kernel) (by decide +kernel)
set_option maxRecDepth 20000 in
theorem gL_law_X5_torn : GoodIn wsL_law (wsV RL 176 RX5 yX5_torn wsX5_torn) := goodIn_app (goodIn_of _ (by decide +kernel)) ggL_law_X5_torn
set_option maxRecDepth 20000 in
theorem ggL_law_X6_torn : GoodIn wsL_law wsX6_torn := goodIn_r _ [899, 891, 930, 931, 932, 933, 934, 935, 936, 937, 938, 939, 940, 941, 942, 943, 944, 945, 946, 947, 948, 949, 950, 951, 952, 953, 954, 955] (by decide +kernel) (by decide +kernel)
set_option maxRecDepth 20000 in
theorem gL_law_X6_torn : GoodIn wsL_law (wsV RL 179 RX6 yX6_torn wsX6_torn) := goodIn_app (goodIn_of _ (by decide +kernel)) ggL_law_X6_torn
set_option maxRecDepth 20000 in
theorem ggL_law_X5_count : GoodIn wsL_law wsX5_count := goodIn_r _ [903, 27, 23, 33, 15, 904, 905, 906, 2, 907, 19, 864, 38, 865, 866, 73, 908, 14, 909, 910, 47, 326, 327, 328, 329, 42, 911, 912, 913, 52, 918, 919, 920, 921, 922, 923, 924, 925, 926, 927, 928, 929, 972, 973, 974, 963, 964, 965, 966, 967, 968, 969, 970, 971, 978, 979, 980, 956, 957, 958, 959, 960, 961, 962] (by decide +kernel) (by decide +kernel)
set_option maxRecDepth 20000 in
theorem gL_law_X5_count : GoodIn wsL_law (wsV RL 180 RX5 yX5_count wsX5_count) := goodIn_app (goodIn_of _ (by decide +kernel)) ggL_law_X5_count
set_option maxRecDepth 20000 in
theorem ggL_law_X6_count : GoodIn wsL_law wsX6_count := goodIn_r _ [917, 78, 262, 86, 106, 87, 88, 930, 931, 932, 933, 934, 935, 936, 937, 938, 939, 940, 941, 942, 943, 944, 945, 946, 947, 948, 949, 950, 951, 952, 953, 954, 955] (by decide +kernel) (by decide +kernel)
set_option maxRecDepth 20000 in
theorem gL_law_X6_count : GoodIn wsL_law (wsV RL 183 RX6 yX6_count wsX6_count) := goodIn_app (goodIn_of _ (by decide +kernel)) ggL_law_X6_count
