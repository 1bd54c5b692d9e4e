set_option maxRecDepth 20000 in
theorem ggL_law_X6_init : GoodIn wsL_law wsX6_init := goodIn_r _ [8, 9, 10, 11, 12, 13, 14, 15, 16, 17, 18, 19, 20, 21, 22, 23, 24, 25, 26, 27, 28, 29, 30, 31, 32, 33, 34, 35, 36, 37, 38, 39, 40, 41, 42, 43, 44, 45, 46, 47, 48, 49, 50, 51, 52, 53, 54, 55, 56, 57, 58, 59, 60, 61, 62, 63, 64, 65, 66, 67, 68, 69, 70, 71, 72, 73, 74, 75, 76, 77, 78, 79, 80, 81, 82, 83, 84, 85, 86, 87, 88, 89, 90, 91, 92, 93, 94, 95, 96, 97, 98, 913, 914, 915, 916, 917, 918, 919, 920, 921, 893, 894, 895, 896, 897, 898, 899, 922, 923, 924, 925, 926, 927, 928, 929, 930, 931, 932, 933, 934, 935, 936, 937, 938, 939, 940, 941, 942, 943, 944, 945, 946, 947, 948, 949, 950, 951, 952] (by decide +kernel) (by decide +kernel)
set_option maxRecDepth 20000 in
theorem gL_law_X6_init : GoodIn wsL_law (wsX6_init) := ggL_law_X6_init
set_option maxRecDepth 20000 in
theorem ggL_law_X7_init : GoodIn wsL_law wsX7_init := goodIn_r _ [101, 102, 10, 11, 43, 103, 104, 105, 106, 107, 108, 900, 901, 902, 903, 904, 905, 906, 907, 908, 909, 910, 911, 912] (by decide +kernel) (by decide +kernel)
set_option maxRecDepth 20000 in
theorem gL_law_X7_init : GoodIn wsL_law (wsX7_init) := ggL_law_X7_init
set_option maxRecDepth 20000 in
theorem ggL_law_X6_dealer : GoodIn wsL_law wsX6_dealer := goodIn_r _ [112, 16, 15, 113, 114, 115, 14, 116, 34, 38, 42, 44, 117, 118, 119, 120, 45, 46, 47, 48, 49, 121, 122, 123, 33, 124, 53, 125, 54, 55, 56, 126, 127, 128, 37, 129, 60, 61, 130, 62, 63, 64, 65, 66, 67, 68, 69, 131, 132, 133, 41, 134, 73, 74, 135, 75, 76, 77, 78, 136, 137, 138, 139, 140, 141, 142, 143, 2, 144, 22, 145, 146, 147, 21, 148, 86, 85, 84, 149, 150, 151, 152, 153, 893, 894, 895, 896, 897, 898, 899, 913, 914, 915, 916, 917, 918, 919, 920, 921, 933, 934, 935, 936, 937, 938, 939, 940, 941, 942, 943, 944, 945, 946, 947, 948, 949, 950, 951, 952, 922, 923, 924] (by decide +kernel) (by decide +kernel)
set_option maxRecDepth 20000 in
theorem gL_law_X6_dealer : GoodIn wsL_law (wsV RL 13 RX6 yX6_dealer wsX6_dealer) := goodIn_app (goodIn_of _ (by decide +kernel)) ggL_law_X6_dealer
set_option maxRecDepth 20000 in
theorem ggL_law_X7_dealer : GoodIn wsL_law wsX7_dealer := goodIn_r _ [157, 103, 158, 159, 160, 161, 5, 162, 104, 163, 164, 165, 166, 167, 168, 106, 169, 170, 171, 172, 900, 901, 902, 903, 904, 905, 906, 907, 908, 909, 910, 911, 912] (by decide +kernel) (by decide +kernel)
set_option maxRecDepth 20000 in
theorem gL_law_X7_dealer : GoodIn wsL_law (wsV RL 17 RX7 yX7_dealer wsX7_dealer) := goodIn_app (goodIn_of _ (by decide +kernel)) ggL_law_X7_dealer
set_option maxRecDepth 20000 in
theorem ggL_law_X6_stone : GoodIn wsL_law wsX6_stone := goodIn_r _ [176, 16, 15, 113, 114, 115, 14, 116, 34, 38, 42, 44, 117, 118, 119, 120, 45, 46, 47, 48, 49, 121, 122, 123, 33, 124, 53, 125, 54, 55, 56, 126, 127, 128, 37, 129, 60, 61, 130, 62, 63, 64, 65, 66, 67, 68, 69, 131, 132, 133, 41, 134, 73, 74, 135, 75, 76, 77, 78, 177, 178, 179, 180, 181, 140, 182, 183, 184, 185, 186, 2, 187, 188, 189, 190, 191, 141, 142, 143, 144, 22, 145, 146, 147, 21, 148, 86, 85, 84, 149, 150, 151, 152, 153, 893, 894, 895, 896, 897, 898, 899, 913, 914, 915, 916, 917, 918, 919, 920, 921, 933, 934, 935, 936, 937, 938, 939, 940, 941, 942, 943, 944, 945, 946, 947, 948, 949, 950, 951, 952, 922, 923, 924] (by decide +kernel) (by decide +kernel)
set_option maxRecDepth 20000 in
theorem gL_law_X6_stone : GoodIn wsL_law (wsV RL 18 RX6 yX6_stone wsX6_stone) := goodIn_app (goodIn_of _ (by decide +kernel)) ggL_law_X6_stone
set_option maxRecDepth 20000 in
theorem ggL_law_X7_stone : GoodIn wsL_law wsX7_stone := goodIn_r _ [195, 167, 103, 158, 159, 160, 161, 5, 162, 104, 196, 197, 198, 199, 200, 201, 202, 203, 204, 205, 206, 207, 208, 209, 163, 164, 165, 166, 168, 106, 169, 170, 171, 172, 900, 901, 902, 903, 904, 905, 906, 907, 908, 909, 910, 911, 912] (by decide +kernel) (by decide +kernel)
set_option maxRecDepth 20000 in
theorem gL_law_X7_stone : GoodIn wsL_law (wsV RL 22 RX7 yX7_stone wsX7_stone) := goodIn_app (goodIn_of _ (by decide +kernel)) ggL_law_X7_stone
set_option maxRecDepth 20000 in
theorem ggL_law_X6_rate : GoodIn wsL_law wsX6_rate := goodIn_r _ [213, 16, 15, 113, 114, 115, 14, 116, 34, 38, 42, 44, 117, 118, 119, 120, 45, 46, 47, 48, 49, 121, 122, 123, 33, 124, 53, 125, 54, 55, 56, 126, 127, 128, 37, 129, 60, 61, 130, 62, 63, 64, 65, 66, 67, 68, 69, 131, 132, 133, 41, 134, 73, 74, 135, 75, 76, 77, 78, 214, 215, 216, 217, 181, 140, 218, 2, 219, 220, 186, 187, 221, 222, 223, 224, 225, 226, 227, 228, 229, 230, 231, 232, 233, 234, 235, 236, 141, 142, 143, 144, 22, 145, 146, 147, 21, 148, 86, 85, 84, 149, 150, 151, 152, 153, 893, 894, 895, 896, 897, 898, 899, 913, 914, 915, 916, 917, 918, 919, 920, 921, 933, 934, 935, 936, 937, 938, 939, 940, 941, 942, 943, 944, 945, 946, 947, 948, 949, 950, 951, 952, 922, 923, 924] (by decide +kernel) (by decide +kernel)
set_option maxRecDepth 20000 in
theorem gL_law_X6_rate : GoodIn wsL_law (wsV RL 23 RX6 yX6_rate wsX6_rate) := goodIn_app (goodIn_of _ (by decide +kernel)) ggL_law_X6_rate
set_option maxRecDepth 20000 in
theorem ggL_law_X7_rate : GoodIn wsL_law wsX7_rate := goodIn_r _ [240, 159, 160, 161, 5, 162, 104, 103, 241, 242, 243, 244, 167, 158, 200, 201, 202, 203, 204, 205, 245, 246, 247, 163, 164, 165, 166, 168, 106, 169, 170, 171, 172, 900, 901, 902, 903, 904, 905, 906, 907, 908, 909, 910, 911, 912] (by decide +kernel) (by decide +kernel)
set_option maxRecDepth 20000 in
theorem gL_law_X7_rate : GoodIn wsL_law (wsV RL 26 RX7 yX7_rate wsX7_rate) := goodIn_app (goodIn_of _ (by decide +kernel)) ggL_law_X7_rate
set_option maxRecDepth 20000 in
theorem ggL_law_X6_unrate : GoodIn wsL_law wsX6_unrate := goodIn_r _ [251, 16, 15, 113, 114, 115, 14, 116, 34, 38, 42, 44, 117, 118, 119, 120, 45, 46, 47, 48, 49, 121, 122, 123, 33, 124, 53, 125, 54, 55, 56, 126, 127, 128, 37, 129, 60, 61, 130, 62, 63, 64, 65, 66, 67, 68, 69, 131, 132, 133, 41, 134, 73, 74, 135, 75, 76, 77, 78, 252, 253, 254, 255, 181, 256, 218, 2, 219, 220, 186, 187, 221, 222, 223, 224, 225, 226, 227, 228, 229, 230, 231, 232, 141, 142, 143, 144, 22, 145, 146, 147, 21, 148, 86, 85, 84, 149, 150, 151, 152, 153, 893, 894, 895, 896, 897, 898, 899, 913, 914, 915, 916, 917, 918, 919, 920, 921, 933, 934, 935, 936, 937, 938, 939, 940, 941, 942, 943, 944, 945, 946, 947, 948, 949, 950, 951, 952, 922, 923, 924] (by decide +kernel) (by decide +kernel)
set_option maxRecDepth 20000 in
theorem gL_law_X6_unrate : GoodIn wsL_law (wsV RL 27 RX6 yX6_unrate wsX6_unrate) := goodIn_app (goodIn_of _ (by decide +kernel)) ggL_law_X6_unrate
