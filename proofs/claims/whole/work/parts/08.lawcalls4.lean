set_option maxRecDepth 20000 in
theorem ggL_law_X6_pair : GoodIn wsL_law wsX6_pair := goodIn_r _ [632, 15, 482, 501, 183, 184, 14, 185, 45, 633, 634, 635, 37, 636, 60, 61, 637, 638, 542, 639, 65, 640, 641, 642, 643, 644, 62, 63, 645, 279, 280, 281, 893, 894, 895, 896, 897, 898, 899, 913, 914, 915, 916, 917, 918, 919, 920, 921, 937, 938, 939, 940, 941, 942, 943, 944, 945, 946] (by decide +kernel) (by decide +kernel)
set_option maxRecDepth 20000 in
theorem gL_law_X6_pair : GoodIn wsL_law (wsV RL 86 RX6 yX6_pair wsX6_pair) := goodIn_app (goodIn_of _ (by decide +kernel)) ggL_law_X6_pair
set_option maxRecDepth 20000 in
theorem ggL_law_X7_pair : GoodIn wsL_law wsX7_pair := goodIn_r _ [649, 167, 103, 493, 196, 197, 198, 5, 199, 200, 201, 202, 302, 303, 304, 305, 650, 651, 652, 653, 314, 315, 316, 317, 654, 655, 656, 657, 900, 901, 902, 903, 904, 905, 906, 907, 908, 909, 910, 911, 912] (by decide +kernel) (by decide +kernel)
set_option maxRecDepth 20000 in
theorem gL_law_X7_pair : GoodIn wsL_law (wsV RL 89 RX7 yX7_pair wsX7_pair) := goodIn_app (goodIn_of _ (by decide +kernel)) ggL_law_X7_pair
set_option maxRecDepth 20000 in
theorem ggL_law_X6_grades : GoodIn wsL_law wsX6_grades := goodIn_r _ [661, 15, 482, 501, 183, 184, 14, 185, 45, 662, 663, 664, 37, 665, 60, 65, 666, 667, 668, 669, 641, 642, 643, 644, 62, 63, 645, 279, 280, 281, 61, 893, 894, 895, 896, 897, 898, 899, 913, 914, 915, 916, 917, 918, 919, 920, 921, 937, 938, 939, 940, 941, 942, 943, 944, 945, 946] (by decide +kernel) (by decide +kernel)
set_option maxRecDepth 20000 in
theorem gL_law_X6_grades : GoodIn wsL_law (wsV RL 90 RX6 yX6_grades wsX6_grades) := goodIn_app (goodIn_of _ (by decide +kernel)) ggL_law_X6_grades
set_option maxRecDepth 20000 in
theorem ggL_law_X7_grades : GoodIn wsL_law wsX7_grades := goodIn_r _ [673, 167, 103, 196, 197, 198, 5, 199, 200, 201, 202, 302, 303, 304, 305, 650, 651, 652, 653, 314, 315, 316, 317, 900, 901, 902, 903, 904, 905, 906, 907, 908, 909, 910, 911, 912] (by decide +kernel) (by decide +kernel)
set_option maxRecDepth 20000 in
theorem gL_law_X7_grades : GoodIn wsL_law (wsV RL 93 RX7 yX7_grades wsX7_grades) := goodIn_app (goodIn_of _ (by decide +kernel)) ggL_law_X7_grades
set_option maxRecDepth 20000 in
theorem ggL_law_X6_mark : GoodIn wsL_law wsX6_mark := goodIn_r _ [677, 18, 15, 27, 113, 114, 115, 14, 116, 34, 38, 42, 44, 117, 118, 119, 120, 45, 46, 47, 48, 49, 121, 122, 123, 33, 124, 53, 125, 54, 55, 56, 126, 127, 128, 37, 129, 60, 61, 130, 62, 63, 64, 65, 66, 67, 68, 69, 131, 132, 133, 41, 134, 73, 74, 135, 75, 76, 77, 78, 893, 894, 895, 896, 897, 898, 899, 913, 914, 915, 916, 917, 918, 919, 920, 921, 933, 934, 935, 936, 937, 938, 939, 940, 941, 942, 943, 944, 945, 946, 947, 948, 949, 950, 951, 952] (by decide +kernel) (by decide +kernel)
set_option maxRecDepth 20000 in
theorem gL_law_X6_mark : GoodIn wsL_law (wsV RL 94 RX6 yX6_mark wsX6_mark) := goodIn_app (goodIn_of _ (by decide +kernel)) ggL_law_X6_mark
set_option maxRecDepth 20000 in
theorem ggL_law_X7_mark : GoodIn wsL_law wsX7_mark := goodIn_r _ [681, 105, 103, 602, 900, 901, 902, 903, 904, 905, 906, 907, 908, 909, 910, 911, 912] (by decide +kernel) (by decide +kernel)
set_option maxRecDepth 20000 in
theorem gL_law_X7_mark : GoodIn wsL_law (wsV RL 97 RX7 yX7_mark wsX7_mark) := goodIn_app (goodIn_of _ (by decide +kernel)) ggL_law_X7_mark
set_option maxRecDepth 20000 in
theorem ggL_law_X6_restore : GoodIn wsL_law wsX6_restore := goodIn_r _ [685, 27, 686, 22, 15, 18, 145, 146, 147, 21, 148, 86, 85, 84, 149, 150, 151, 152, 153, 114, 115, 14, 116, 34, 38, 42, 44, 117, 118, 119, 120, 45, 46, 47, 48, 49, 121, 122, 123, 33, 124, 53, 125, 54, 55, 56, 126, 127, 128, 37, 129, 60, 61, 130, 62, 63, 64, 65, 66, 67, 68, 69, 131, 132, 133, 41, 134, 73, 74, 135, 75, 76, 77, 78, 113, 893, 894, 895, 896, 897, 898, 899, 913, 914, 915, 916, 917, 918, 919, 920, 921, 922, 923, 924, 933, 934, 935, 936, 937, 938, 939, 940, 941, 942, 943, 944, 945, 946, 947, 948, 949, 950, 951, 952] (by decide +kernel) (by decide +kernel)
set_option maxRecDepth 20000 in
theorem gL_law_X6_restore : GoodIn wsL_law (wsV RL 98 RX6 yX6_restore wsX6_restore) := goodIn_app (goodIn_of _ (by decide +kernel)) ggL_law_X6_restore
set_option maxRecDepth 20000 in
theorem ggL_law_X7_restore : GoodIn wsL_law wsX7_restore := goodIn_r _ [690, 602, 261, 103, 105, 159, 160, 161, 5, 162, 104, 163, 164, 165, 166, 167, 168, 106, 169, 170, 171, 172, 900, 901, 902, 903, 904, 905, 906, 907, 908, 909, 910, 911, 912] (by decide +kernel) (by decide +kernel)
set_option maxRecDepth 20000 in
theorem gL_law_X7_restore : GoodIn wsL_law (wsV RL 101 RX7 yX7_restore wsX7_restore) := goodIn_app (goodIn_of _ (by decide +kernel)) ggL_law_X7_restore
set_option maxRecDepth 20000 in
theorem ggL_law_X6_undo : GoodIn wsL_law wsX6_undo := goodIn_r _ [694, 22, 686, 15, 695, 696, 697, 21, 698, 86, 84, 85, 149, 150, 151, 152, 153, 114, 115, 14, 116, 34, 38, 42, 44, 117, 118, 119, 120, 45, 46, 47, 48, 49, 121, 122, 123, 33, 124, 53, 125, 54, 55, 56, 126, 127, 128, 37, 129, 60, 61, 130, 62, 63, 64, 65, 66, 67, 68, 69, 131, 132, 133, 41, 134, 73, 74, 135, 75, 76, 77, 78, 893, 894, 895, 896, 897, 898, 899, 922, 923, 924, 913, 914, 915, 916, 917, 918, 919, 920, 921, 933, 934, 935, 936, 937, 938, 939, 940, 941, 942, 943, 944, 945, 946, 947, 948, 949, 950, 951, 952] (by decide +kernel) (by decide +kernel)
set_option maxRecDepth 20000 in
theorem gL_law_X6_undo : GoodIn wsL_law (wsV RL 102 RX6 yX6_undo wsX6_undo) := goodIn_app (goodIn_of _ (by decide +kernel)) ggL_law_X6_undo
