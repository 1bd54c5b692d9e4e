set_option maxRecDepth 20000 in
theorem ggL_law_X7_dealerOf : GoodIn wsL_law wsX7_dealerOf := goodIn_r _ [518, 167, 417, 103, 196, 197, 198, 5, 199, 200, 201, 202, 519, 520, 521, 522, 302, 303, 304, 305, 523, 524, 525, 526, 310, 311, 312, 313, 314, 315, 316, 317, 318, 319, 320, 321, 245, 246, 247, 527, 528, 529, 530, 306, 307, 308, 309, 462, 463, 464, 465, 900, 901, 902, 903, 904, 905, 906, 907, 908, 909, 910, 911, 912] (by decide +kernel) (by decide +kernel)
set_option maxRecDepth 20000 in
theorem gL_law_X7_dealerOf : GoodIn wsL_law (wsV RL 69 RX7 yX7_dealerOf wsX7_dealerOf) := goodIn_app (goodIn_of _ (by decide +kernel)) ggL_law_X7_dealerOf
set_option maxRecDepth 20000 in
theorem ggL_law_X6_memoOf : GoodIn wsL_law wsX6_memoOf := goodIn_r _ [534, 15, 482, 535, 381, 382, 41, 383, 73, 536, 537, 538, 14, 539, 42, 38, 46, 540, 541, 542, 543, 181, 338, 339, 340, 37, 341, 60, 544, 545, 546, 547, 893, 894, 895, 896, 897, 898, 899, 913, 914, 915, 916, 917, 918, 919, 920, 921, 947, 948, 949, 950, 951, 952, 937, 938, 939, 940, 941, 942, 943, 944, 945, 946] (by decide +kernel) (by decide +kernel)
set_option maxRecDepth 20000 in
theorem gL_law_X6_memoOf : GoodIn wsL_law (wsV RL 70 RX6 yX6_memoOf wsX6_memoOf) := goodIn_app (goodIn_of _ (by decide +kernel)) ggL_law_X6_memoOf
set_option maxRecDepth 20000 in
theorem ggL_law_X7_memoOf : GoodIn wsL_law wsX7_memoOf := goodIn_r _ [551, 103, 167, 200, 201, 5, 202, 462, 463, 464, 465, 361, 362, 363, 364, 302, 303, 304, 305, 900, 901, 902, 903, 904, 905, 906, 907, 908, 909, 910, 911, 912] (by decide +kernel) (by decide +kernel)
set_option maxRecDepth 20000 in
theorem gL_law_X7_memoOf : GoodIn wsL_law (wsV RL 73 RX7 yX7_memoOf wsX7_memoOf) := goodIn_app (goodIn_of _ (by decide +kernel)) ggL_law_X7_memoOf
set_option maxRecDepth 20000 in
theorem ggL_law_X6_rateOf : GoodIn wsL_law wsX6_rateOf := goodIn_r _ [555, 482, 15, 556, 557, 218, 2, 219, 220, 186, 187, 558, 222, 223, 33, 224, 56, 225, 226, 227, 228, 53, 54, 55, 559, 283, 284, 285, 893, 894, 895, 896, 897, 898, 899, 913, 914, 915, 916, 917, 918, 919, 920, 921, 933, 934, 935, 936] (by decide +kernel) (by decide +kernel)
set_option maxRecDepth 20000 in
theorem gL_law_X6_rateOf : GoodIn wsL_law (wsV RL 74 RX6 yX6_rateOf wsX6_rateOf) := goodIn_app (goodIn_of _ (by decide +kernel)) ggL_law_X6_rateOf
set_option maxRecDepth 20000 in
theorem ggL_law_X7_rateOf : GoodIn wsL_law wsX7_rateOf := goodIn_r _ [563, 167, 103, 493, 200, 201, 5, 202, 203, 204, 205, 245, 246, 247, 318, 319, 320, 321, 900, 901, 902, 903, 904, 905, 906, 907, 908, 909, 910, 911, 912] (by decide +kernel) (by decide +kernel)
set_option maxRecDepth 20000 in
theorem gL_law_X7_rateOf : GoodIn wsL_law (wsV RL 77 RX7 yX7_rateOf wsX7_rateOf) := goodIn_app (goodIn_of _ (by decide +kernel)) ggL_law_X7_rateOf
set_option maxRecDepth 20000 in
theorem ggL_law_X6_count : GoodIn wsL_law wsX6_count := goodIn_r _ [567, 22, 26, 27, 15, 568, 569, 570, 14, 571, 45, 38, 42, 34, 46, 404, 49, 47, 48, 181, 572, 573, 574, 37, 575, 60, 576, 406, 407, 408, 68, 577, 578, 579, 580, 514, 335, 336, 337, 66, 581, 582, 583, 584, 544, 545, 546, 547, 338, 339, 340, 341, 585, 586, 587, 33, 588, 56, 589, 590, 591, 592, 44, 593, 594, 595, 596, 893, 894, 895, 896, 897, 898, 899, 922, 923, 924, 925, 926, 927, 928, 929, 930, 931, 932, 913, 914, 915, 916, 917, 918, 919, 920, 921, 937, 938, 939, 940, 941, 942, 943, 944, 945, 946, 947, 948, 949, 950, 951, 952, 933, 934, 935, 936] (by decide +kernel) (by decide +kernel)
set_option maxRecDepth 20000 in
theorem gL_law_X6_count : GoodIn wsL_law (wsV RL 78 RX6 yX6_count wsX6_count) := goodIn_app (goodIn_of _ (by decide +kernel)) ggL_law_X6_count
set_option maxRecDepth 20000 in
theorem ggL_law_X7_count : GoodIn wsL_law wsX7_count := goodIn_r _ [600, 103, 417, 168, 601, 602, 167, 603, 604, 605, 5, 606, 302, 303, 304, 305, 418, 419, 420, 421, 306, 307, 308, 309, 607, 608, 609, 610, 361, 362, 363, 364, 611, 612, 613, 614, 200, 201, 202, 900, 901, 902, 903, 904, 905, 906, 907, 908, 909, 910, 911, 912] (by decide +kernel) (by decide +kernel)
set_option maxRecDepth 20000 in
theorem gL_law_X7_count : GoodIn wsL_law (wsV RL 81 RX7 yX7_count wsX7_count) := goodIn_app (goodIn_of _ (by decide +kernel)) ggL_law_X7_count
set_option maxRecDepth 20000 in
theorem ggL_law_X6_best : GoodIn wsL_law wsX6_best := goodIn_r _ [618, 15, 619, 482, 501, 183, 184, 14, 185, 45, 620, 621, 622, 623, 38, 488, 274, 275, 276, 277, 34, 278, 279, 280, 37, 281, 61, 282, 283, 284, 33, 285, 56, 53, 54, 55, 893, 894, 895, 896, 897, 898, 899, 913, 914, 915, 916, 917, 918, 919, 920, 921, 937, 938, 939, 940, 941, 942, 943, 944, 945, 946, 933, 934, 935, 936] (by decide +kernel) (by decide +kernel)
set_option maxRecDepth 20000 in
theorem gL_law_X6_best : GoodIn wsL_law (wsV RL 82 RX6 yX6_best wsX6_best) := goodIn_app (goodIn_of _ (by decide +kernel)) ggL_law_X6_best
set_option maxRecDepth 20000 in
theorem ggL_law_X7_best : GoodIn wsL_law wsX7_best := goodIn_r _ [627, 628, 167, 103, 196, 197, 198, 5, 199, 200, 201, 202, 310, 311, 312, 313, 314, 315, 316, 317, 302, 303, 304, 305, 318, 319, 320, 321, 245, 246, 247, 494, 495, 496, 493, 900, 901, 902, 903, 904, 905, 906, 907, 908, 909, 910, 911, 912] (by decide +kernel) (by decide +kernel)
set_option maxRecDepth 20000 in
theorem gL_law_X7_best : GoodIn wsL_law (wsV RL 85 RX7 yX7_best wsX7_best) := goodIn_app (goodIn_of _ (by decide +kernel)) ggL_law_X7_best
