set_option maxRecDepth 20000 in
theorem ggL_law_X6_grade : GoodIn wsL_law wsX6_grade := goodIn_r _ [425, 16, 15, 113, 114, 115, 14, 116, 34, 38, 42, 44, 117, 118, 119, 120, 45, 46, 47, 48, 49, 121, 122, 123, 33, 124, 53, 125, 54, 55, 56, 126, 127, 128, 37, 129, 60, 61, 130, 62, 63, 64, 65, 66, 67, 68, 69, 131, 132, 133, 41, 134, 73, 74, 135, 75, 76, 77, 78, 426, 427, 428, 429, 181, 256, 330, 331, 332, 333, 186, 2, 187, 405, 406, 407, 408, 274, 275, 276, 277, 278, 279, 280, 281, 282, 283, 284, 285, 334, 335, 336, 337, 141, 142, 143, 144, 22, 145, 146, 147, 21, 148, 86, 85, 84, 149, 150, 151, 152, 153, 893, 894, 895, 896, 897, 898, 899, 913, 914, 915, 916, 917, 918, 919, 920, 921, 933, 934, 935, 936, 937, 938, 939, 940, 941, 942, 943, 944, 945, 946, 947, 948, 949, 950, 951, 952, 922, 923, 924] (by decide +kernel) (by decide +kernel)
set_option maxRecDepth 20000 in
theorem gL_law_X6_grade : GoodIn wsL_law (wsV RL 50 RX6 yX6_grade wsX6_grade) := goodIn_app (goodIn_of _ (by decide +kernel)) ggL_law_X6_grade
set_option maxRecDepth 20000 in
theorem ggL_law_X7_grade : GoodIn wsL_law wsX7_grade := goodIn_r _ [433, 159, 160, 161, 5, 162, 104, 103, 434, 435, 436, 437, 167, 261, 357, 358, 359, 360, 200, 201, 202, 203, 204, 205, 418, 419, 420, 421, 302, 303, 304, 305, 206, 207, 208, 209, 310, 311, 312, 313, 314, 315, 316, 317, 318, 319, 320, 321, 245, 246, 247, 306, 307, 308, 309, 163, 164, 165, 166, 168, 106, 169, 170, 171, 172, 900, 901, 902, 903, 904, 905, 906, 907, 908, 909, 910, 911, 912] (by decide +kernel) (by decide +kernel)
set_option maxRecDepth 20000 in
theorem gL_law_X7_grade : GoodIn wsL_law (wsV RL 53 RX7 yX7_grade wsX7_grade) := goodIn_app (goodIn_of _ (by decide +kernel)) ggL_law_X7_grade
set_option maxRecDepth 20000 in
theorem ggL_law_X6_pause : GoodIn wsL_law wsX6_pause := goodIn_r _ [441, 16, 15, 113, 114, 115, 14, 116, 34, 38, 42, 44, 117, 118, 119, 120, 45, 46, 47, 48, 49, 121, 122, 123, 33, 124, 53, 125, 54, 55, 56, 126, 127, 128, 37, 129, 60, 61, 130, 62, 63, 64, 65, 66, 67, 68, 69, 131, 132, 133, 41, 134, 73, 74, 135, 75, 76, 77, 78, 442, 443, 444, 445, 181, 140, 446, 447, 448, 449, 376, 377, 378, 379, 182, 183, 184, 185, 380, 381, 382, 383, 141, 142, 143, 2, 144, 22, 145, 146, 147, 21, 148, 86, 85, 84, 149, 150, 151, 152, 153, 893, 894, 895, 896, 897, 898, 899, 913, 914, 915, 916, 917, 918, 919, 920, 921, 933, 934, 935, 936, 937, 938, 939, 940, 941, 942, 943, 944, 945, 946, 947, 948, 949, 950, 951, 952, 922, 923, 924] (by decide +kernel) (by decide +kernel)
set_option maxRecDepth 20000 in
theorem gL_law_X6_pause : GoodIn wsL_law (wsV RL 54 RX6 yX6_pause wsX6_pause) := goodIn_app (goodIn_of _ (by decide +kernel)) ggL_law_X6_pause
set_option maxRecDepth 20000 in
theorem ggL_law_X7_pause : GoodIn wsL_law wsX7_pause := goodIn_r _ [453, 159, 160, 161, 5, 162, 104, 103, 454, 455, 456, 457, 167, 158, 200, 201, 202, 458, 459, 460, 461, 462, 463, 464, 465, 302, 303, 304, 305, 392, 393, 394, 395, 206, 207, 208, 209, 163, 164, 165, 166, 168, 106, 169, 170, 171, 172, 900, 901, 902, 903, 904, 905, 906, 907, 908, 909, 910, 911, 912] (by decide +kernel) (by decide +kernel)
set_option maxRecDepth 20000 in
theorem gL_law_X7_pause : GoodIn wsL_law (wsV RL 57 RX7 yX7_pause wsX7_pause) := goodIn_app (goodIn_of _ (by decide +kernel)) ggL_law_X7_pause
set_option maxRecDepth 20000 in
theorem ggL_law_X6_set : GoodIn wsL_law wsX6_set := goodIn_r _ [469, 16, 15, 113, 114, 115, 14, 116, 34, 38, 42, 44, 117, 118, 119, 120, 45, 46, 47, 48, 49, 121, 122, 123, 33, 124, 53, 125, 54, 55, 56, 126, 127, 128, 37, 129, 60, 61, 130, 62, 63, 64, 65, 66, 67, 68, 69, 131, 132, 133, 41, 134, 73, 74, 135, 75, 76, 77, 78, 470, 471, 472, 473, 181, 141, 142, 143, 2, 144, 22, 145, 146, 147, 21, 148, 86, 85, 84, 149, 150, 151, 152, 153, 893, 894, 895, 896, 897, 898, 899, 913, 914, 915, 916, 917, 918, 919, 920, 921, 933, 934, 935, 936, 937, 938, 939, 940, 941, 942, 943, 944, 945, 946, 947, 948, 949, 950, 951, 952, 922, 923, 924] (by decide +kernel) (by decide +kernel)
set_option maxRecDepth 20000 in
theorem gL_law_X6_set : GoodIn wsL_law (wsV RL 58 RX6 yX6_set wsX6_set) := goodIn_app (goodIn_of _ (by decide +kernel)) ggL_law_X6_set
set_option maxRecDepth 20000 in
theorem ggL_law_X7_set : GoodIn wsL_law wsX7_set := goodIn_r _ [477, 167, 103, 159, 160, 161, 5, 162, 104, 200, 201, 202, 163, 164, 165, 166, 168, 106, 169, 170, 171, 172, 900, 901, 902, 903, 904, 905, 906, 907, 908, 909, 910, 911, 912] (by decide +kernel) (by decide +kernel)
set_option maxRecDepth 20000 in
theorem gL_law_X7_set : GoodIn wsL_law (wsV RL 61 RX7 yX7_set wsX7_set) := goodIn_app (goodIn_of _ (by decide +kernel)) ggL_law_X7_set
set_option maxRecDepth 20000 in
theorem ggL_law_X6_stoneOf : GoodIn wsL_law wsX6_stoneOf := goodIn_r _ [481, 15, 482, 483, 331, 332, 37, 333, 60, 484, 485, 486, 14, 487, 38, 488, 181, 278, 279, 280, 281, 61, 405, 406, 407, 408, 68, 274, 275, 276, 277, 34, 282, 283, 284, 33, 285, 56, 53, 54, 55, 334, 335, 336, 337, 66, 893, 894, 895, 896, 897, 898, 899, 913, 914, 915, 916, 917, 918, 919, 920, 921, 937, 938, 939, 940, 941, 942, 943, 944, 945, 946, 933, 934, 935, 936] (by decide +kernel) (by decide +kernel)
set_option maxRecDepth 20000 in
theorem gL_law_X6_stoneOf : GoodIn wsL_law (wsV RL 62 RX6 yX6_stoneOf wsX6_stoneOf) := goodIn_app (goodIn_of _ (by decide +kernel)) ggL_law_X6_stoneOf
set_option maxRecDepth 20000 in
theorem ggL_law_X7_stoneOf : GoodIn wsL_law wsX7_stoneOf := goodIn_r _ [492, 167, 493, 357, 358, 359, 5, 360, 103, 200, 201, 202, 314, 315, 316, 317, 302, 303, 304, 305, 494, 495, 496, 310, 311, 312, 313, 318, 319, 320, 321, 245, 246, 247, 306, 307, 308, 309, 418, 419, 420, 421, 900, 901, 902, 903, 904, 905, 906, 907, 908, 909, 910, 911, 912] (by decide +kernel) (by decide +kernel)
set_option maxRecDepth 20000 in
theorem gL_law_X7_stoneOf : GoodIn wsL_law (wsV RL 65 RX7 yX7_stoneOf wsX7_stoneOf) := goodIn_app (goodIn_of _ (by decide +kernel)) ggL_law_X7_stoneOf
set_option maxRecDepth 20000 in
theorem ggL_law_X6_dealerOf : GoodIn wsL_law wsX6_dealerOf := goodIn_r _ [500, 15, 482, 501, 183, 184, 14, 185, 45, 502, 503, 504, 505, 44, 404, 38, 181, 338, 339, 340, 37, 341, 60, 506, 507, 508, 509, 274, 275, 276, 277, 34, 278, 279, 280, 281, 61, 282, 283, 284, 33, 285, 56, 53, 54, 55, 510, 511, 512, 513, 67, 514, 335, 336, 337, 66, 893, 894, 895, 896, 897, 898, 899, 913, 914, 915, 916, 917, 918, 919, 920, 921, 937, 938, 939, 940, 941, 942, 943, 944, 945, 946, 933, 934, 935, 936] (by decide +kernel) (by decide +kernel)
set_option maxRecDepth 20000 in
theorem gL_law_X6_dealerOf : GoodIn wsL_law (wsV RL 66 RX6 yX6_dealerOf wsX6_dealerOf) := goodIn_app (goodIn_of _ (by decide +kernel)) ggL_law_X6_dealerOf
