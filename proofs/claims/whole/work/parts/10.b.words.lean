/-! THE BEGINNING 1b -/
set_option maxRecDepth 20000 in
theorem inT_r20 : ∀ w ∈ wsL_law_r20, w ∈ lw_tbl := memIn_r _ [41, 975, 976, 978, 42, 979, 980, 982, 43, 983, 498, 499, 500, 501, 502, 503, 504, 505, 984, 985, 986, 987, 506, 507] (by decide +kernel)
set_option maxRecDepth 20000 in
theorem inT_r21 : ∀ w ∈ wsL_law_r21, w ∈ lw_tbl := memIn_r _ [508, 509, 511, 510, 512, 513, 514, 515, 516, 988, 989, 990, 991, 995, 992, 993, 994, 517, 518, 519, 520, 521, 522, 523] (by decide +kernel)
set_option maxRecDepth 20000 in
theorem inT_r22 : ∀ w ∈ wsL_law_r22, w ∈ lw_tbl := memIn_r _ [524, 525, 526, 528, 6, 529, 530, 531, 532, 533, 534, 996, 997, 998, 999, 1000, 1002, 44, 1003, 1004, 1006, 45, 1007, 1008] (by decide +kernel)
set_option maxRecDepth 20000 in
theorem inT_r23 : ∀ w ∈ wsL_law_r23, w ∈ lw_tbl := memIn_r _ [1010, 46, 1011, 535, 536, 537, 538, 539, 540, 541, 542, 543, 548, 549, 69, 550, 544, 546, 7, 547, 1012, 1013, 1014, 1015] (by decide +kernel)
set_option maxRecDepth 20000 in
theorem inT_r24 : ∀ w ∈ wsL_law_r24, w ∈ lw_tbl := memIn_r _ [551, 552, 553, 554, 558, 555, 556, 557, 1016, 1017, 1018, 1019, 559, 560, 561, 562, 563, 564, 565, 566, 567, 568, 569, 570] (by decide +kernel)
set_option maxRecDepth 20000 in
theorem inT_r25 : ∀ w ∈ wsL_law_r25, w ∈ lw_tbl := memIn_r _ [571, 572, 573, 574, 575, 576, 578, 8, 579, 580, 581, 582, 583, 584, 586, 9, 587, 588, 589, 590, 591, 1020, 1021, 1022] (by decide +kernel)
set_option maxRecDepth 20000 in
theorem inT_r26 : ∀ w ∈ wsL_law_r26, w ∈ lw_tbl := memIn_r _ [1023, 799, 795, 1024, 1026, 47, 1027, 1028, 1030, 48, 1031, 1032, 1034, 49, 1035, 592, 593, 594, 595, 596, 597, 598, 599, 600] (by decide +kernel)
set_option maxRecDepth 20000 in
theorem inT_r27 : ∀ w ∈ wsL_law_r27, w ∈ lw_tbl := memIn_r _ [1036, 1037, 1038, 1039, 1040, 601, 602, 603, 604, 605, 606, 607, 608, 609, 610, 611, 617, 612, 614, 10, 615, 616, 1041, 1042] (by decide +kernel)
set_option maxRecDepth 20000 in
theorem inT_r28 : ∀ w ∈ wsL_law_r28, w ∈ lw_tbl := memIn_r _ [1043, 1044, 1045, 1047, 50, 1048, 1049, 1051, 51, 1052, 618, 619, 620, 621, 622, 623, 624, 625, 626, 628, 11, 629, 1053, 1054] (by decide +kernel)
set_option maxRecDepth 20000 in
theorem inT_r29 : ∀ w ∈ wsL_law_r29, w ∈ lw_tbl := memIn_r _ [1055, 1056, 630, 631, 632, 633, 1057, 1058, 1059, 1060, 634, 635, 636, 637, 638, 1061, 1062, 1063, 1064, 639, 640, 641, 642, 643] (by decide +kernel)
set_option maxRecDepth 20000 in
theorem inT_r30 : ∀ w ∈ wsL_law_r30, w ∈ lw_tbl := memIn_r _ [644, 645, 646, 1065, 1066, 1067, 1068, 647, 648, 649, 650, 651, 652, 653, 654, 655, 1069, 1070, 1071, 1072, 656, 657, 658, 659] (by decide +kernel)
set_option maxRecDepth 20000 in
theorem inT_r31 : ∀ w ∈ wsL_law_r31, w ∈ lw_tbl := memIn_r _ [1073, 1074, 1075, 1076, 660, 661, 662, 663, 664, 665, 666, 667, 756, 668, 670, 12, 671, 672, 673, 674, 682, 684, 13, 685] (by decide +kernel)
set_option maxRecDepth 20000 in
theorem inT_r32 : ∀ w ∈ wsL_law_r32, w ∈ lw_tbl := memIn_r _ [686, 687, 688, 71, 689, 1123, 690, 691, 692, 693, 694, 1124, 696, 698, 14, 699, 700, 701, 702, 703, 704, 705, 706, 707] (by decide +kernel)
set_option maxRecDepth 20000 in
theorem inT_r33 : ∀ w ∈ wsL_law_r33, w ∈ lw_tbl := memIn_r _ [708, 709, 72, 710, 711, 712, 713, 714, 716, 717, 73, 718, 719, 720, 74, 721, 722, 723, 724, 725, 726, 727, 728, 729] (by decide +kernel)
set_option maxRecDepth 20000 in
theorem inT_r34 : ∀ w ∈ wsL_law_r34, w ∈ lw_tbl := memIn_r _ [730, 731, 732, 734, 736, 738, 739, 740, 741, 743, 15, 744, 745, 747, 16, 748, 749, 750, 751, 752, 754, 17, 755, 757] (by decide +kernel)
set_option maxRecDepth 20000 in
theorem inT_r35 : ∀ w ∈ wsL_law_r35, w ∈ lw_tbl := memIn_r _ [759, 18, 760, 761, 763, 19, 764, 765, 766, 767, 768, 769, 770, 771, 772, 773, 774, 775, 776, 1077, 1078, 1079, 1080, 803] (by decide +kernel)
set_option maxRecDepth 20000 in
theorem inT_r36 : ∀ w ∈ wsL_law_r36, w ∈ lw_tbl := memIn_r _ [802, 1081, 1083, 52, 1084, 800, 801, 1085, 1087, 53, 1088, 1089, 1091, 54, 1092, 1093, 1094, 1095, 1096, 1097, 1098, 1099, 1100, 1101] (by decide +kernel)
set_option maxRecDepth 20000 in
theorem inT_r37 : ∀ w ∈ wsL_law_r37, w ∈ lw_tbl := memIn_r _ [1102, 1103, 1105, 55, 1106, 1107, 1109, 56, 1110, 1111, 1113, 57, 1114, 1115, 1117, 58, 1118, 778, 779, 780, 781, 782, 783, 784] (by decide +kernel)
set_option maxRecDepth 20000 in
theorem inT_r38 : ∀ w ∈ wsL_law_r38, w ∈ lw_tbl := memIn_r _ [785, 1119, 1120, 1121, 1122] (by decide +kernel)
set_option maxRecDepth 20000 in
theorem inT_X0 : ∀ w ∈ wsX00, w ∈ lw_tbl := memIn_r _ [233, 235, 237] (by decide +kernel)
set_option maxRecDepth 20000 in
theorem inT_X1 : ∀ w ∈ wsX10, w ∈ lw_tbl := memIn_r _ [201, 203, 205, 207, 209, 211, 213, 215, 217] (by decide +kernel)
set_option maxRecDepth 20000 in
theorem inT_X2 : ∀ w ∈ wsX20, w ∈ lw_tbl := memIn_r _ [174, 176, 178, 180, 182, 184] (by decide +kernel)
set_option maxRecDepth 20000 in
theorem inT_X3 : ∀ w ∈ wsX30, w ∈ lw_tbl := memIn_r _ [99, 101, 103, 105] (by decide +kernel)
set_option maxRecDepth 20000 in
theorem inT_X4 : ∀ w ∈ wsX40, w ∈ lw_tbl := memIn_r _ [255, 257, 259, 261, 263, 265, 267, 269] (by decide +kernel)
set_option maxRecDepth 20000 in
theorem inT_X5 : ∀ w ∈ wsX50, w ∈ lw_tbl := memIn_r _ [135, 137, 139, 141, 143, 145, 147, 149, 151, 153] (by decide +kernel)
set_option maxRecDepth 20000 in
theorem inT_X6 : ∀ w ∈ wsX60, w ∈ lw_tbl := memIn_r _ [280, 282, 284, 286, 288, 290, 292] (by decide +kernel)
set_option maxRecDepth 20000 in
theorem inT_X7 : ∀ w ∈ wsX70, w ∈ lw_tbl := memIn_r _ [805, 807, 809, 811, 813, 815, 817, 819, 821, 823, 825, 827, 829] (by decide +kernel)
theorem mem_ap {big a b : List Cond} (ha : ∀ w ∈ a, w ∈ big) (hb : ∀ w ∈ b, w ∈ big) : ∀ w ∈ a ++ b, w ∈ big := fun w h => (List.mem_append.mp h).elim (ha w) (hb w)
theorem inT_rs : ∀ w ∈ (wsL_law_r1 ++ (wsL_law_r2 ++ (wsL_law_r3 ++ (wsL_law_r4 ++ (wsL_law_r5 ++ (wsL_law_r6 ++ (wsL_law_r7 ++ (wsL_law_r8 ++ (wsL_law_r9 ++ (wsL_law_r10 ++ (wsL_law_r11 ++ (wsL_law_r12 ++ (wsL_law_r13 ++ (wsL_law_r14 ++ (wsL_law_r15 ++ (wsL_law_r16 ++ (wsL_law_r17 ++ (wsL_law_r18 ++ (wsL_law_r19 ++ (wsL_law_r20 ++ (wsL_law_r21 ++ (wsL_law_r22 ++ (wsL_law_r23 ++ (wsL_law_r24 ++ (wsL_law_r25 ++ (wsL_law_r26 ++ (wsL_law_r27 ++ (wsL_law_r28 ++ (wsL_law_r29 ++ (wsL_law_r30 ++ (wsL_law_r31 ++ (wsL_law_r32 ++ (wsL_law_r33 ++ (wsL_law_r34 ++ (wsL_law_r35 ++ (wsL_law_r36 ++ (wsL_law_r37 ++ (wsL_law_r38)))))))))))))))))))))))))))))))))))))), w ∈ lw_tbl := mem_ap inT_r1 (mem_ap inT_r2 (mem_ap inT_r3 (mem_ap inT_r4 (mem_ap inT_r5 (mem_ap inT_r6 (mem_ap inT_r7 (mem_ap inT_r8 (mem_ap inT_r9 (mem_ap inT_r10 (mem_ap inT_r11 (mem_ap inT_r12 (mem_ap inT_r13 (mem_ap inT_r14 (mem_ap inT_r15 (mem_ap inT_r16 (mem_ap inT_r17 (mem_ap inT_r18 (mem_ap inT_r19 (mem_ap inT_r20 (mem_ap inT_r21 (mem_ap inT_r22 (mem_ap inT_r23 (mem_ap inT_r24 (mem_ap inT_r25 (mem_ap inT_r26 (mem_ap inT_r27 (mem_ap inT_r28 (mem_ap inT_r29 (mem_ap inT_r30 (mem_ap inT_r31 (mem_ap inT_r32 (mem_ap inT_r33 (mem_ap inT_r34 (mem_ap inT_r35 (mem_ap inT_r36 (mem_ap inT_r37 (inT_r38)))))))))))))))))))))))))))))))))))))
theorem inT_law : ∀ w ∈ wsL_law, w ∈ lw_tbl := mem_ap (mem_ap (mem_ap (mem_ap (mem_ap (mem_ap (mem_ap (mem_ap (mem_ap (inT_rs) inT_X6) inT_X7) inT_X1) inT_X0) inT_X4) inT_X3) inT_X5) inT_X2) (fun _ h => by cases h)
set_option maxRecDepth 20000 in
theorem inT_nest : ∀ w ∈ nestWords, w ∈ lw_tbl := memIn_r _ [85, 91, 111, 116, 118, 120, 122, 124, 126, 128, 130, 132, 134, 158, 163, 165, 167, 169, 171, 173, 188, 190, 191, 193, 197, 228, 232, 242, 248, 350, 366] (by decide +kernel)
theorem nest_on : ∀ w ∈ nestWords, w.onTables = true := fun w h => List.all_eq_true.mp (show nestWords.all (fun w => w.onTables) = true by decide +kernel) w h
set_option maxRecDepth 20000 in
theorem inT_cs : Cond.laysStatic "java/lang/String" "COMPACT_STRINGS" "Z" ∈ lw_tbl := List.mem_of_getElem? (i := 695) (by decide +kernel)
set_option maxRecDepth 20000 in
theorem inT_si : Cond.initialized "java/lang/String" ∈ lw_tbl := List.mem_of_getElem? (i := 71) (by decide +kernel)
set_option maxRecDepth 20000 in
theorem inT_pf : Cond.laysStatic "jdk/internal/util/Preconditions" "SIOOBE_FORMATTER" "Ljava/util/function/BiFunction;" ∈ lw_tbl := List.mem_of_getElem? (i := 715) (by decide +kernel)
set_option maxRecDepth 20000 in
theorem inT_pi : Cond.initialized "jdk/internal/util/Preconditions" ∈ lw_tbl := List.mem_of_getElem? (i := 73) (by decide +kernel)
set_option maxRecDepth 20000 in
theorem inT_ai : Cond.arrayClass .int ∈ lw_tbl := List.mem_of_getElem? (i := 108) (by decide +kernel)
set_option maxRecDepth 20000 in
theorem inT_ac : Cond.arrayClass .char ∈ lw_tbl := List.mem_of_getElem? (i := 272) (by decide +kernel)
set_option maxRecDepth 20000 in
theorem inT_ao : Cond.arrayOver (.object "GemMemos$Market") ∈ lw_tbl := List.mem_of_getElem? (i := 227) (by decide +kernel)
set_option maxRecDepth 20000 in
theorem inT_n0 : Cond.instantiable RX0 3 ∈ lw_tbl := List.mem_of_getElem? (i := 221) (by decide +kernel)
set_option maxRecDepth 20000 in
theorem inT_n1 : Cond.instantiable RX1 9 ∈ lw_tbl := List.mem_of_getElem? (i := 84) (by decide +kernel)
set_option maxRecDepth 20000 in
theorem inT_n2 : Cond.instantiable RX2 6 ∈ lw_tbl := List.mem_of_getElem? (i := 157) (by decide +kernel)
set_option maxRecDepth 20000 in
theorem inT_n3 : Cond.instantiable RX3 4 ∈ lw_tbl := List.mem_of_getElem? (i := 90) (by decide +kernel)
set_option maxRecDepth 20000 in
theorem inT_n4 : Cond.instantiable RX4 8 ∈ lw_tbl := List.mem_of_getElem? (i := 241) (by decide +kernel)
set_option maxRecDepth 20000 in
theorem inT_n5 : Cond.instantiable RX5 10 ∈ lw_tbl := List.mem_of_getElem? (i := 110) (by decide +kernel)
set_option maxRecDepth 20000 in
theorem inT_n6 : Cond.instantiable RX6 7 ∈ lw_tbl := List.mem_of_getElem? (i := 76) (by decide +kernel)
set_option maxRecDepth 20000 in
theorem inT_n7 : Cond.instantiable RX7 13 ∈ lw_tbl := List.mem_of_getElem? (i := 787) (by decide +kernel)
def litSr : List Cond := [.stringRef RX4 108 "lend", .stringRef RX4 110 "back", .stringRef RX4 112 "keep", .stringRef RX4 114 "sell", .stringRef RX4 116 "grade", .stringRef RX4 118 "rate", .stringRef RX4 120 "wait"]
set_option maxRecDepth 20000 in
theorem inT_lit : ∀ w ∈ litSr, w ∈ lw_tbl := memIn_r _ [675, 676, 677, 678, 679, 680, 681] (by decide +kernel)
