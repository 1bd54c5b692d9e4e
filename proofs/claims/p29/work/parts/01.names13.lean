set_option maxRecDepth 20000 in
theorem ggL_law_X6_stone : GoodIn wsL_law wsX6_stone := goodIn_r _ [298, 14, 13, 281, 255, 256, 12, 257, 32, 36, 40, 42, 258, 259, 260, 261, 43, 44, 45, 46, 47, 262, 263, 264, 31, 265, 51, 266, 52, 53, 54, 267, 268, 269, 35, 270, 58, 59, 271, 60, 61, 62, 63, 64, 65, 66, 67, 272, 273, 274, 39, 275, 71, 72, 276, 73, 74, 75, 76, 299, 300, 301, 302, 135, 286, 303, 225, 226, 227, 112, 2, 113, 304, 305, 306, 307, 287, 288, 289, 290, 20, 291, 292, 293, 19, 294, 84, 83, 82, 250, 251, 252, 253, 254, 598, 599, 600, 601, 602, 603, 604, 605, 606, 607, 608, 609, 610, 611, 612, 613, 625, 626, 627, 628, 629, 630, 631, 632, 633, 634, 635, 636, 637, 638, 639, 640, 641, 642, 643, 644, 614, 615, 616] (by decide +kernel) (by decide +kernel)
set_option maxRecDepth 20000 in
theorem gL_law_X6_stone : GoodIn wsL_law (wsV RL 66 RX6 yX6_stone wsX6_stone) := goodIn_app (goodIn_of _ (by decide +kernel)) ggL_law_X6_stone
set_option maxRecDepth 20000 in
theorem ggL_law_X6_rate : GoodIn wsL_law wsX6_rate := goodIn_r _ [311, 14, 13, 281, 255, 256, 12, 257, 32, 36, 40, 42, 258, 259, 260, 261, 43, 44, 45, 46, 47, 262, 263, 264, 31, 265, 51, 266, 52, 53, 54, 267, 268, 269, 35, 270, 58, 59, 271, 60, 61, 62, 63, 64, 65, 66, 67, 272, 273, 274, 39, 275, 71, 72, 276, 73, 74, 75, 76, 312, 313, 314, 315, 135, 286, 109, 2, 110, 111, 112, 113, 316, 115, 116, 117, 118, 119, 120, 121, 317, 318, 319, 320, 321, 322, 323, 324, 287, 288, 289, 290, 20, 291, 292, 293, 19, 294, 84, 83, 82, 250, 251, 252, 253, 254, 598, 599, 600, 601, 602, 603, 604, 605, 606, 607, 608, 609, 610, 611, 612, 613, 625, 626, 627, 628, 629, 630, 631, 632, 633, 634, 635, 636, 637, 638, 639, 640, 641, 642, 643, 644, 614, 615, 616] (by decide +kernel) (by decide +kernel)
set_option maxRecDepth 20000 in
theorem gL_law_X6_rate : GoodIn wsL_law (wsV RL 77 RX6 yX6_rate wsX6_rate) := goodIn_app (goodIn_of _ (by decide +kernel)) ggL_law_X6_rate
set_option maxRecDepth 20000 in
theorem ggL_law_L_lot : GoodIn wsL_law wsL_lot := goodIn_r _ [327, 328] (by decide +kernel) (by decide +kernel)
set_option maxRecDepth 20000 in
theorem gL_law_L_lot : GoodIn wsL_law (va_wsS RL 121 yL_lot wsL_lot) := goodIn_app (goodIn_of _ (by decide +kernel)) ggL_law_L_lot
set_option maxRecDepth 20000 in
theorem ggL_law_L_digest : GoodIn wsL_law wsL_digest := goodIn_r _ [331, 332, 333, 126, 127, 128, 2, 129, 20, 24, 25, 13, 130, 131, 132, 12, 133, 43, 36, 40, 32, 44, 134, 47, 45, 46, 135, 136, 137, 138, 35, 139, 58, 140, 141, 142, 143, 66, 144, 145, 146, 147, 148, 149, 150, 151, 64, 152, 153, 154, 155, 156, 157, 158, 159, 160, 161, 162, 163, 164, 165, 166, 31, 167, 54, 168, 169, 170, 171, 42, 172, 173, 174, 175, 192, 193, 194, 195, 106, 196, 197, 198, 199, 200, 201, 202, 203, 204, 205, 206, 207, 208, 59, 209, 210, 211, 212, 213, 214, 123, 124, 125, 51, 52, 53, 215, 334, 335, 336, 337, 224, 225, 226, 227, 338, 339, 340, 341, 342, 343, 344, 345, 346, 347, 348, 349, 65, 176, 177, 178, 179, 180, 181, 182, 39, 183, 71, 184, 185, 186, 187, 188, 189, 190, 191, 102, 103, 104, 105, 107, 108, 109, 110, 111, 112, 113, 114, 115, 116, 117, 118, 119, 120, 121, 122, 598, 599, 600, 601, 602, 603, 604, 614, 615, 616, 617, 618, 619, 620, 621, 622, 623, 624, 605, 606, 607, 608, 609, 610, 611, 612, 613, 629, 630, 631, 632, 633, 634, 635, 636, 637, 638, 639, 640, 641, 642, 643, 644, 625, 626, 627, 628] (by decide +kernel) (by decide +kernel)
set_option maxRecDepth 20000 in
theorem gL_law_L_digest : GoodIn wsL_law (va_wsS RL 125 yL_digest wsL_digest) := goodIn_app (goodIn_of _ (by decide +kernel)) ggL_law_L_digest
set_option maxRecDepth 20000 in
theorem ggL_law_X6_count : GoodIn wsL_law wsX6_count := goodIn_r _ [129, 20, 24, 25, 13, 130, 131, 132, 12, 133, 43, 36, 40, 32, 44, 134, 47, 45, 46, 135, 136, 137, 138, 35, 139, 58, 140, 141, 142, 143, 66, 144, 145, 146, 147, 148, 149, 150, 151, 64, 152, 153, 154, 155, 156, 157, 158, 159, 160, 161, 162, 163, 164, 165, 166, 31, 167, 54, 168, 169, 170, 171, 42, 172, 173, 174, 175, 598, 599, 600, 601, 602, 603, 604, 614, 615, 616, 617, 618, 619, 620, 621, 622, 623, 624, 605, 606, 607, 608, 609, 610, 611, 612, 613, 629, 630, 631, 632, 633, 634, 635, 636, 637, 638, 639, 640, 641, 642, 643, 644, 625, 626, 627, 628] (by decide +kernel) (by decide +kernel)
set_option maxRecDepth 20000 in
theorem gL_law_X6_count : GoodIn wsL_law (wsV RL 13 RX6 yX6_count wsX6_count) := goodIn_app (goodIn_of _ (by decide +kernel)) ggL_law_X6_count
set_option maxRecDepth 20000 in
theorem ggL_law_L_acts_1 : GoodIn wsL_law (wsL_acts_r1) := goodIn_r _ [353, 354, 3, 216, 217, 99, 218, 219, 126, 127, 128, 2, 129, 20, 24, 25, 13, 130, 131, 132, 12, 133, 43, 36] (by decide +kernel) (by decide +kernel)
set_option maxRecDepth 20000 in
theorem ggL_law_L_acts_2 : GoodIn wsL_law (wsL_acts_r2) := goodIn_r _ [40, 32, 44, 134, 47, 45, 46, 135, 136, 137, 138, 35, 139, 58, 140, 141, 142, 143, 66, 144, 145, 146, 147, 148] (by decide +kernel) (by decide +kernel)
set_option maxRecDepth 20000 in
theorem ggL_law_L_acts_3 : GoodIn wsL_law (wsL_acts_r3) := goodIn_r _ [149, 150, 151, 64, 152, 153, 154, 155, 156, 157, 158, 159, 160, 161, 162, 163, 164, 165, 166, 31, 167, 54, 168, 169] (by decide +kernel) (by decide +kernel)
set_option maxRecDepth 20000 in
theorem ggL_law_L_acts_4 : GoodIn wsL_law (wsL_acts_r4) := goodIn_r _ [170, 171, 42, 172, 173, 174, 175, 192, 193, 194, 195, 106, 196, 197, 198, 199, 200, 201, 202, 203, 204, 205, 206, 207] (by decide +kernel) (by decide +kernel)
set_option maxRecDepth 20000 in
theorem ggL_law_L_acts_5 : GoodIn wsL_law (wsL_acts_r5) := goodIn_r _ [208, 59, 209, 210, 211, 212, 213, 214, 123, 124, 125, 51, 52, 53, 215, 295, 296, 297, 298, 14, 281, 255, 256, 257] (by decide +kernel) (by decide +kernel)
set_option maxRecDepth 20000 in
theorem ggL_law_L_acts_6 : GoodIn wsL_law (wsL_acts_r6) := goodIn_r _ [258, 259, 260, 261, 262, 263, 264, 265, 266, 267, 268, 269, 270, 271, 60, 61, 62, 63, 65, 67, 272, 273, 274, 39] (by decide +kernel) (by decide +kernel)
