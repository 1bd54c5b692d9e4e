set_option maxRecDepth 20000 in
theorem ggL_acts_X6_grade : GoodIn wsL_acts wsX6_grade := goodIn_r _ [326, 116, 17, 117, 118, 119, 21, 120, 26, 24, 25, 75, 121, 122, 123, 124, 23, 27, 30, 31, 29, 125, 126, 127, 68, 128, 108, 129, 109, 110, 70, 130, 131, 132, 36, 133, 38, 98, 134, 135, 136, 137, 138, 52, 139, 43, 140, 141, 142, 143, 144, 145, 146, 147, 148, 149, 150, 151, 152, 327, 328, 329, 330, 32, 219, 277, 86, 87, 88, 162, 12, 163, 99, 40, 41, 42, 100, 101, 102, 103, 94, 95, 96, 97, 104, 105, 106, 107, 111, 49, 50, 51, 168, 169, 170, 171, 14, 172, 173, 174, 175, 176, 177, 178, 179, 180, 181, 182, 183, 184, 516, 517, 518, 519, 520, 521, 522, 534, 535, 536, 537, 538, 539, 540, 541, 542, 559, 560, 561, 562, 543, 544, 545, 546, 547, 548, 549, 550, 551, 552, 553, 554, 555, 556, 557, 558, 523, 524, 525] (by decide +kernel) (by decide +kernel)
set_option maxRecDepth 20000 in
theorem gL_acts_X6_grade : GoodIn wsL_acts (wsV RL 92 RX6 yX6_grade wsX6_grade) := goodIn_app (goodIn_of _ (by decide +kernel)) ggL_acts_X6_grade
set_option maxRecDepth 20000 in
theorem ggL_acts_X6_pause : GoodIn wsL_acts wsX6_pause := goodIn_r _ [334, 116, 17, 117, 118, 119, 21, 120, 26, 24, 25, 75, 121, 122, 123, 124, 23, 27, 30, 31, 29, 125, 126, 127, 68, 128, 108, 129, 109, 110, 70, 130, 131, 132, 36, 133, 38, 98, 134, 135, 136, 137, 138, 52, 139, 43, 140, 141, 142, 143, 144, 145, 146, 147, 148, 149, 150, 151, 152, 335, 336, 337, 338, 32, 157, 339, 340, 341, 342, 293, 294, 295, 296, 158, 159, 160, 161, 297, 258, 259, 260, 168, 169, 170, 12, 171, 14, 172, 173, 174, 175, 176, 177, 178, 179, 180, 181, 182, 183, 184, 516, 517, 518, 519, 520, 521, 522, 534, 535, 536, 537, 538, 539, 540, 541, 542, 559, 560, 561, 562, 543, 544, 545, 546, 547, 548, 549, 550, 551, 552, 553, 554, 555, 556, 557, 558, 523, 524, 525] (by decide +kernel) (by decide +kernel)
set_option maxRecDepth 20000 in
theorem gL_acts_X6_pause : GoodIn wsL_acts (wsV RL 95 RX6 yX6_pause wsX6_pause) := goodIn_app (goodIn_of _ (by decide +kernel)) ggL_acts_X6_pause
set_option maxRecDepth 20000 in
theorem ggL_acts_X6_set : GoodIn wsL_acts wsX6_set := goodIn_r _ [346, 116, 17, 117, 118, 119, 21, 120, 26, 24, 25, 75, 121, 122, 123, 124, 23, 27, 30, 31, 29, 125, 126, 127, 68, 128, 108, 129, 109, 110, 70, 130, 131, 132, 36, 133, 38, 98, 134, 135, 136, 137, 138, 52, 139, 43, 140, 141, 142, 143, 144, 145, 146, 147, 148, 149, 150, 151, 152, 347, 348, 349, 350, 32, 168, 169, 170, 12, 171, 14, 172, 173, 174, 175, 176, 177, 178, 179, 180, 181, 182, 183, 184, 516, 517, 518, 519, 520, 521, 522, 534, 535, 536, 537, 538, 539, 540, 541, 542, 559, 560, 561, 562, 543, 544, 545, 546, 547, 548, 549, 550, 551, 552, 553, 554, 555, 556, 557, 558, 523, 524, 525] (by decide +kernel) (by decide +kernel)
set_option maxRecDepth 20000 in
theorem gL_acts_X6_set : GoodIn wsL_acts (wsV RL 98 RX6 yX6_set wsX6_set) := goodIn_app (goodIn_of _ (by decide +kernel)) ggL_acts_X6_set
set_option maxRecDepth 20000 in
theorem ggL_acts_X6_mark : GoodIn wsL_acts wsX6_mark := goodIn_r _ [354, 355, 17, 16, 117, 118, 119, 21, 120, 26, 24, 25, 75, 121, 122, 123, 124, 23, 27, 30, 31, 29, 125, 126, 127, 68, 128, 108, 129, 109, 110, 70, 130, 131, 132, 36, 133, 38, 98, 134, 135, 136, 137, 138, 52, 139, 43, 140, 141, 142, 143, 144, 145, 146, 147, 148, 149, 150, 151, 152, 516, 517, 518, 519, 520, 521, 522, 534, 535, 536, 537, 538, 539, 540, 541, 542, 559, 560, 561, 562, 543, 544, 545, 546, 547, 548, 549, 550, 551, 552, 553, 554, 555, 556, 557, 558] (by decide +kernel) (by decide +kernel)
set_option maxRecDepth 20000 in
theorem gL_acts_X6_mark : GoodIn wsL_acts (wsV RL 101 RX6 yX6_mark wsX6_mark) := goodIn_app (goodIn_of _ (by decide +kernel)) ggL_acts_X6_mark
set_option maxRecDepth 20000 in
theorem ggL_acts_X6_restore : GoodIn wsL_acts wsX6_restore := goodIn_r _ [359, 16, 360, 14, 17, 355, 172, 173, 174, 175, 176, 177, 178, 179, 180, 181, 182, 183, 184, 118, 119, 21, 120, 26, 24, 25, 75, 121, 122, 123, 124, 23, 27, 30, 31, 29, 125, 126, 127, 68, 128, 108, 129, 109, 110, 70, 130, 131, 132, 36, 133, 38, 98, 134, 135, 136, 137, 138, 52, 139, 43, 140, 141, 142, 143, 144, 145, 146, 147, 148, 149, 150, 151, 152, 117, 516, 517, 518, 519, 520, 521, 522, 534, 535, 536, 537, 538, 539, 540, 541, 542, 523, 524, 525, 559, 560, 561, 562, 543, 544, 545, 546, 547, 548, 549, 550, 551, 552, 553, 554, 555, 556, 557, 558] (by decide +kernel) (by decide +kernel)
set_option maxRecDepth 20000 in
theorem gL_acts_X6_restore : GoodIn wsL_acts (wsV RL 104 RX6 yX6_restore wsX6_restore) := goodIn_app (goodIn_of _ (by decide +kernel)) ggL_acts_X6_restore
set_option maxRecDepth 20000 in
theorem ggL_acts_L_types : GoodIn wsL_acts wsL_types := goodIn_r _ [363, 4, 5, 6, 7, 8, 364, 365, 366, 12, 367, 15, 368, 369, 370, 371, 372, 373, 374, 84, 375, 376, 377, 378, 379, 380, 381, 382, 383, 384, 385, 516, 517, 518, 519, 520, 521, 522, 526, 527, 528, 529, 530, 531, 532, 533] (by decide +kernel) (by decide +kernel)
set_option maxRecDepth 20000 in
theorem gL_acts_L_types : GoodIn wsL_acts (va_wsS RL 107 yL_types wsL_types) := goodIn_app (goodIn_of _ (by decide +kernel)) ggL_acts_L_types
theorem goodIn_cons {big a : List Cond} {c : Cond} (h1 : GoodIn big [c]) (h2 : GoodIn big a) : GoodIn big (c :: a) := fun w h => (List.mem_cons.mp h).elim (fun e => h1 w (List.mem_cons.mpr (Or.inl e))) (h2 w)
set_option maxRecDepth 20000 in
theorem ggL_acts_L_reads_1 : GoodIn wsL_acts (wsL_reads_r1) := goodIn_r _ [389, 3, 1, 390, 391, 392, 12, 393, 84, 394, 17, 15, 117, 118, 119, 21, 120, 26, 24, 25, 75, 121, 122, 123] (by decide +kernel) (by decide +kernel)
set_option maxRecDepth 20000 in
theorem ggL_acts_L_reads_2 : GoodIn wsL_acts (wsL_reads_r2) := goodIn_r _ [124, 23, 27, 30, 31, 29, 125, 126, 127, 68, 128, 108, 129, 109, 110, 70, 130, 131, 132, 36, 133, 38, 98, 134] (by decide +kernel) (by decide +kernel)
set_option maxRecDepth 20000 in
theorem ggL_acts_L_reads_3 : GoodIn wsL_acts (wsL_reads_r3) := goodIn_r _ [135, 136, 137, 138, 52, 139, 43, 140, 141, 142, 143, 144, 145, 146, 147, 148, 149, 150, 151, 152, 395, 396, 397, 378] (by decide +kernel) (by decide +kernel)
set_option maxRecDepth 20000 in
theorem ggL_acts_L_reads_4 : GoodIn wsL_acts (wsL_reads_r4) := goodIn_r _ [398, 399, 380, 400, 401, 402, 403, 404, 405, 406, 407, 408, 409, 410, 411, 412, 413, 414, 415, 416, 417, 418, 419, 420] (by decide +kernel) (by decide +kernel)
