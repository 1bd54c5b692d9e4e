set_option maxRecDepth 20000 in
theorem ggL_law_X7_unrate : GoodIn wsL_law wsX7_unrate := goodIn_r _ [260, 167, 103, 261, 159, 160, 161, 5, 162, 104, 200, 201, 202, 203, 204, 205, 245, 246, 247, 163, 164, 165, 166, 168, 106, 169, 170, 171, 172, 900, 901, 902, 903, 904, 905, 906, 907, 908, 909, 910, 911, 912] (by decide +kernel) (by decide +kernel)
set_option maxRecDepth 20000 in
theorem gL_law_X7_unrate : GoodIn wsL_law (wsV RL 31 RX7 yX7_unrate wsX7_unrate) := goodIn_app (goodIn_of _ (by decide +kernel)) ggL_law_X7_unrate
set_option maxRecDepth 20000 in
theorem ggL_law_X6_lend : GoodIn wsL_law wsX6_lend := goodIn_r _ [265, 16, 15, 113, 114, 115, 14, 116, 34, 38, 42, 44, 117, 118, 119, 120, 45, 46, 47, 48, 49, 121, 122, 123, 33, 124, 53, 125, 54, 55, 56, 126, 127, 128, 37, 129, 60, 61, 130, 62, 63, 64, 65, 66, 67, 68, 69, 131, 132, 133, 41, 134, 73, 74, 135, 75, 76, 77, 78, 266, 267, 268, 269, 181, 256, 140, 182, 183, 184, 185, 270, 271, 272, 273, 274, 275, 276, 277, 278, 279, 280, 281, 282, 283, 284, 285, 286, 287, 288, 289, 141, 142, 143, 2, 144, 22, 145, 146, 147, 21, 148, 86, 85, 84, 149, 150, 151, 152, 153, 893, 894, 895, 896, 897, 898, 899, 913, 914, 915, 916, 917, 918, 919, 920, 921, 933, 934, 935, 936, 937, 938, 939, 940, 941, 942, 943, 944, 945, 946, 947, 948, 949, 950, 951, 952, 922, 923, 924] (by decide +kernel) (by decide +kernel)
set_option maxRecDepth 20000 in
theorem gL_law_X6_lend : GoodIn wsL_law (wsV RL 32 RX6 yX6_lend wsX6_lend) := goodIn_app (goodIn_of _ (by decide +kernel)) ggL_law_X6_lend
set_option maxRecDepth 20000 in
theorem ggL_law_X7_lend : GoodIn wsL_law wsX7_lend := goodIn_r _ [293, 159, 160, 161, 5, 162, 104, 103, 294, 295, 296, 297, 167, 261, 158, 196, 197, 198, 199, 200, 201, 202, 298, 299, 300, 301, 302, 303, 304, 305, 306, 307, 308, 309, 310, 311, 312, 313, 314, 315, 316, 317, 318, 319, 320, 321, 245, 246, 247, 206, 207, 208, 209, 163, 164, 165, 166, 168, 106, 169, 170, 171, 172, 900, 901, 902, 903, 904, 905, 906, 907, 908, 909, 910, 911, 912] (by decide +kernel) (by decide +kernel)
set_option maxRecDepth 20000 in
theorem gL_law_X7_lend : GoodIn wsL_law (wsV RL 35 RX7 yX7_lend wsX7_lend) := goodIn_app (goodIn_of _ (by decide +kernel)) ggL_law_X7_lend
set_option maxRecDepth 20000 in
theorem ggL_law_X6_back : GoodIn wsL_law wsX6_back := goodIn_r _ [325, 16, 15, 113, 114, 115, 14, 116, 34, 38, 42, 44, 117, 118, 119, 120, 45, 46, 47, 48, 49, 121, 122, 123, 33, 124, 53, 125, 54, 55, 56, 126, 127, 128, 37, 129, 60, 61, 130, 62, 63, 64, 65, 66, 67, 68, 69, 131, 132, 133, 41, 134, 73, 74, 135, 75, 76, 77, 78, 326, 327, 328, 329, 181, 256, 330, 331, 332, 333, 334, 335, 336, 337, 338, 339, 340, 341, 342, 343, 344, 345, 346, 347, 348, 141, 142, 143, 2, 144, 22, 145, 146, 147, 21, 148, 86, 85, 84, 149, 150, 151, 152, 153, 893, 894, 895, 896, 897, 898, 899, 913, 914, 915, 916, 917, 918, 919, 920, 921, 933, 934, 935, 936, 937, 938, 939, 940, 941, 942, 943, 944, 945, 946, 947, 948, 949, 950, 951, 952, 922, 923, 924] (by decide +kernel) (by decide +kernel)
set_option maxRecDepth 20000 in
theorem gL_law_X6_back : GoodIn wsL_law (wsV RL 36 RX6 yX6_back wsX6_back) := goodIn_app (goodIn_of _ (by decide +kernel)) ggL_law_X6_back
set_option maxRecDepth 20000 in
theorem ggL_law_X7_back : GoodIn wsL_law wsX7_back := goodIn_r _ [352, 159, 160, 161, 5, 162, 104, 103, 353, 354, 355, 356, 167, 261, 357, 358, 359, 360, 200, 201, 202, 306, 307, 308, 309, 302, 303, 304, 305, 206, 207, 208, 209, 361, 362, 363, 364, 365, 366, 367, 163, 164, 165, 166, 168, 106, 169, 170, 171, 172, 900, 901, 902, 903, 904, 905, 906, 907, 908, 909, 910, 911, 912] (by decide +kernel) (by decide +kernel)
set_option maxRecDepth 20000 in
theorem gL_law_X7_back : GoodIn wsL_law (wsV RL 40 RX7 yX7_back wsX7_back) := goodIn_app (goodIn_of _ (by decide +kernel)) ggL_law_X7_back
set_option maxRecDepth 20000 in
theorem ggL_law_X6_keep : GoodIn wsL_law wsX6_keep := goodIn_r _ [371, 16, 15, 113, 114, 115, 14, 116, 34, 38, 42, 44, 117, 118, 119, 120, 45, 46, 47, 48, 49, 121, 122, 123, 33, 124, 53, 125, 54, 55, 56, 126, 127, 128, 37, 129, 60, 61, 130, 62, 63, 64, 65, 66, 67, 68, 69, 131, 132, 133, 41, 134, 73, 74, 135, 75, 76, 77, 78, 372, 373, 374, 375, 181, 256, 330, 331, 332, 333, 334, 335, 336, 337, 376, 377, 378, 379, 182, 183, 184, 185, 380, 381, 382, 383, 141, 142, 143, 2, 144, 22, 145, 146, 147, 21, 148, 86, 85, 84, 149, 150, 151, 152, 153, 893, 894, 895, 896, 897, 898, 899, 913, 914, 915, 916, 917, 918, 919, 920, 921, 933, 934, 935, 936, 937, 938, 939, 940, 941, 942, 943, 944, 945, 946, 947, 948, 949, 950, 951, 952, 922, 923, 924] (by decide +kernel) (by decide +kernel)
set_option maxRecDepth 20000 in
theorem gL_law_X6_keep : GoodIn wsL_law (wsV RL 41 RX6 yX6_keep wsX6_keep) := goodIn_app (goodIn_of _ (by decide +kernel)) ggL_law_X6_keep
set_option maxRecDepth 20000 in
theorem ggL_law_X7_keep : GoodIn wsL_law wsX7_keep := goodIn_r _ [387, 159, 160, 161, 5, 162, 104, 103, 388, 389, 390, 391, 167, 261, 357, 358, 359, 360, 200, 201, 202, 306, 307, 308, 309, 302, 303, 304, 305, 392, 393, 394, 395, 206, 207, 208, 209, 163, 164, 165, 166, 168, 106, 169, 170, 171, 172, 900, 901, 902, 903, 904, 905, 906, 907, 908, 909, 910, 911, 912] (by decide +kernel) (by decide +kernel)
set_option maxRecDepth 20000 in
theorem gL_law_X7_keep : GoodIn wsL_law (wsV RL 44 RX7 yX7_keep wsX7_keep) := goodIn_app (goodIn_of _ (by decide +kernel)) ggL_law_X7_keep
set_option maxRecDepth 20000 in
theorem ggL_law_X6_sell : GoodIn wsL_law wsX6_sell := goodIn_r _ [399, 16, 15, 113, 114, 115, 14, 116, 34, 38, 42, 44, 117, 118, 119, 120, 45, 46, 47, 48, 49, 121, 122, 123, 33, 124, 53, 125, 54, 55, 56, 126, 127, 128, 37, 129, 60, 61, 130, 62, 63, 64, 65, 66, 67, 68, 69, 131, 132, 133, 41, 134, 73, 74, 135, 75, 76, 77, 78, 400, 401, 402, 403, 181, 256, 404, 330, 331, 332, 333, 334, 335, 336, 337, 405, 406, 407, 408, 182, 183, 184, 185, 141, 142, 143, 2, 144, 22, 145, 146, 147, 21, 148, 86, 85, 84, 149, 150, 151, 152, 153, 893, 894, 895, 896, 897, 898, 899, 913, 914, 915, 916, 917, 918, 919, 920, 921, 933, 934, 935, 936, 937, 938, 939, 940, 941, 942, 943, 944, 945, 946, 947, 948, 949, 950, 951, 952, 922, 923, 924] (by decide +kernel) (by decide +kernel)
set_option maxRecDepth 20000 in
theorem gL_law_X6_sell : GoodIn wsL_law (wsV RL 45 RX6 yX6_sell wsX6_sell) := goodIn_app (goodIn_of _ (by decide +kernel)) ggL_law_X6_sell
set_option maxRecDepth 20000 in
theorem ggL_law_X7_sell : GoodIn wsL_law wsX7_sell := goodIn_r _ [412, 159, 160, 161, 5, 162, 104, 103, 413, 414, 415, 416, 167, 261, 417, 357, 358, 359, 360, 200, 201, 202, 306, 307, 308, 309, 302, 303, 304, 305, 418, 419, 420, 421, 206, 207, 208, 209, 163, 164, 165, 166, 168, 106, 169, 170, 171, 172, 900, 901, 902, 903, 904, 905, 906, 907, 908, 909, 910, 911, 912] (by decide +kernel) (by decide +kernel)
set_option maxRecDepth 20000 in
theorem gL_law_X7_sell : GoodIn wsL_law (wsV RL 49 RX7 yX7_sell wsX7_sell) := goodIn_app (goodIn_of _ (by decide +kernel)) ggL_law_X7_sell
