/-! THE BEGINNING 1: every word of wsL_law stands in the tables -/
theorem memIn_r {big : List Cond} (ws : List Cond) (ps : List Nat) (hp : ws = ps.filterMap (fun i => big[i]?)) : ∀ w ∈ ws, w ∈ big := by
  intro w hw
  rw [hp] at hw
  obtain ⟨i, -, hi⟩ := List.mem_filterMap.mp hw
  have hm : w ∈ big := by first | exact List.mem_of_getElem? hi | exact List.getElem?_mem hi
  exact hm
set_option maxRecDepth 20000 in
theorem inT_r1 : ∀ w ∈ wsL_law_r1, w ∈ lw_tbl := memIn_r _ [75, 76, 60, 786, 787, 67, 77, 78, 79, 80, 81, 82, 83, 84, 61, 273, 274, 275, 276, 220, 221, 65, 277, 240] (by decide +kernel)
set_option maxRecDepth 20000 in
theorem inT_r2 : ∀ w ∈ wsL_law_r2, w ∈ lw_tbl := memIn_r _ [241, 66, 278, 279, 86, 87, 88, 89, 90, 62, 187, 109, 110, 63, 189, 156, 157, 64, 192, 108, 194, 195, 196, 198] (by decide +kernel)
set_option maxRecDepth 20000 in
theorem inT_r3 : ∀ w ∈ wsL_law_r3, w ∈ lw_tbl := memIn_r _ [199, 200, 92, 93, 94, 95, 96, 97, 98, 112, 113, 114, 115, 117, 119, 121, 123, 125, 127, 129, 131, 133, 159, 160] (by decide +kernel)
set_option maxRecDepth 20000 in
theorem inT_r4 : ∀ w ∈ wsL_law_r4, w ∈ lw_tbl := memIn_r _ [161, 162, 164, 166, 168, 170, 172, 222, 223, 224, 225, 226, 229, 230, 231, 243, 244, 245, 272, 246, 247, 249, 250, 251] (by decide +kernel)
set_option maxRecDepth 20000 in
theorem inT_r5 : ∀ w ∈ wsL_law_r5, w ∈ lw_tbl := memIn_r _ [252, 253, 254, 788, 789, 790, 791, 792, 793, 794, 796, 798, 804, 295, 296, 297, 298, 299, 300, 301, 302, 320, 309, 308] (by decide +kernel)
set_option maxRecDepth 20000 in
theorem inT_r6 : ∀ w ∈ wsL_law_r6, w ∈ lw_tbl := memIn_r _ [68, 303, 304, 305, 306, 307, 310, 311, 312, 313, 314, 315, 316, 317, 318, 319, 321, 322, 323, 324, 325, 326, 328, 0] (by decide +kernel)
set_option maxRecDepth 20000 in
theorem inT_r7 : ∀ w ∈ wsL_law_r7, w ∈ lw_tbl := memIn_r _ [329, 330, 331, 332, 333, 334, 335, 69, 336, 337, 832, 833, 834, 835, 840, 836, 838, 20, 839, 841, 843, 21, 844, 845] (by decide +kernel)
set_option maxRecDepth 20000 in
theorem inT_r8 : ∀ w ∈ wsL_law_r8, w ∈ lw_tbl := memIn_r _ [797, 846, 848, 22, 849, 338, 339, 340, 341, 342, 343, 344, 345, 353, 346, 347, 348, 349, 351, 352, 354, 355, 356, 357] (by decide +kernel)
set_option maxRecDepth 20000 in
theorem inT_r9 : ∀ w ∈ wsL_law_r9, w ∈ lw_tbl := memIn_r _ [850, 851, 852, 853, 854, 856, 23, 857, 858, 859, 860, 861, 862, 863, 864, 866, 24, 867, 358, 359, 360, 361, 362, 363] (by decide +kernel)
set_option maxRecDepth 20000 in
theorem inT_r10 : ∀ w ∈ wsL_law_r10, w ∈ lw_tbl := memIn_r _ [364, 365, 367, 368, 369, 370, 371, 372, 373, 374, 376, 1, 377, 378, 379, 380, 381, 382, 383, 384, 385, 868, 869, 870] (by decide +kernel)
set_option maxRecDepth 20000 in
theorem inT_r11 : ∀ w ∈ wsL_law_r11, w ∈ lw_tbl := memIn_r _ [871, 872, 874, 25, 875, 876, 877, 878, 386, 387, 388, 389, 390, 391, 392, 393, 394, 879, 880, 881, 882, 883, 395, 396] (by decide +kernel)
set_option maxRecDepth 20000 in
theorem inT_r12 : ∀ w ∈ wsL_law_r12, w ∈ lw_tbl := memIn_r _ [397, 398, 399, 400, 401, 402, 403, 405, 2, 406, 407, 409, 3, 410, 411, 412, 413, 414, 415, 416, 417, 418, 419, 420] (by decide +kernel)
set_option maxRecDepth 20000 in
theorem inT_r13 : ∀ w ∈ wsL_law_r13, w ∈ lw_tbl := memIn_r _ [421, 422, 884, 885, 886, 887, 888, 890, 26, 891, 892, 894, 27, 895, 896, 898, 28, 899, 900, 902, 29, 903, 904, 906] (by decide +kernel)
set_option maxRecDepth 20000 in
theorem inT_r14 : ∀ w ∈ wsL_law_r14, w ∈ lw_tbl := memIn_r _ [30, 907, 908, 910, 31, 911, 912, 914, 32, 915, 423, 424, 425, 426, 427, 428, 429, 430, 431, 432, 433, 434, 435, 436] (by decide +kernel)
set_option maxRecDepth 20000 in
theorem inT_r15 : ∀ w ∈ wsL_law_r15, w ∈ lw_tbl := memIn_r _ [437, 438, 439, 440, 441, 442, 443, 444, 70, 445, 446, 447, 448, 916, 917, 918, 919, 920, 922, 33, 923, 924, 926, 34] (by decide +kernel)
set_option maxRecDepth 20000 in
theorem inT_r16 : ∀ w ∈ wsL_law_r16, w ∈ lw_tbl := memIn_r _ [927, 928, 930, 35, 931, 932, 933, 934, 449, 450, 451, 452, 453, 454, 455, 456, 457, 459, 4, 460, 461, 462, 463, 464] (by decide +kernel)
set_option maxRecDepth 20000 in
theorem inT_r17 : ∀ w ∈ wsL_law_r17, w ∈ lw_tbl := memIn_r _ [935, 936, 937, 938, 939, 941, 36, 942, 943, 945, 37, 946, 465, 466, 467, 468, 469, 470, 471, 472, 477, 473, 474, 475] (by decide +kernel)
set_option maxRecDepth 20000 in
theorem inT_r18 : ∀ w ∈ wsL_law_r18, w ∈ lw_tbl := memIn_r _ [476, 947, 948, 949, 950, 951, 953, 38, 954, 959, 955, 957, 39, 958, 478, 479, 480, 481, 482, 483, 484, 485, 960, 961] (by decide +kernel)
set_option maxRecDepth 20000 in
theorem inT_r19 : ∀ w ∈ wsL_law_r19, w ∈ lw_tbl := memIn_r _ [962, 963, 964, 966, 40, 967, 486, 487, 488, 489, 490, 491, 492, 493, 494, 496, 5, 497, 968, 969, 970, 971, 972, 974] (by decide +kernel)
