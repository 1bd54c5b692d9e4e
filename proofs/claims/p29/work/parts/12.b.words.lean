/-! THE BEGINNING 1b -/
set_option maxRecDepth 20000 in
theorem inT_r13 : ∀ w ∈ wsL_law_r13, w ∈ lw_tbl := memIn_r _ [288, 0, 289, 290, 291, 292, 293, 298, 299, 300, 301, 302, 303, 304, 305, 306, 314, 315, 316, 317, 318, 319, 320, 321] (by decide +kernel)
set_option maxRecDepth 20000 in
theorem inT_r14 : ∀ w ∈ wsL_law_r14, w ∈ lw_tbl := memIn_r _ [322, 323, 324, 325, 330, 338, 339, 340, 341, 342, 343, 344, 345, 404, 405, 406, 407, 412, 413, 414, 415, 416, 445, 446] (by decide +kernel)
set_option maxRecDepth 20000 in
theorem inT_r15a : ∀ w ∈ wsL_law_r15.take 16, w ∈ lw_tbl := memIn_r _ [447, 448, 450, 451, 452, 453, 454, 456, 6, 457, 458, 459, 460, 461, 506, 507] (by decide +kernel)
set_option maxRecDepth 20000 in
theorem inT_r15b : ∀ w ∈ wsL_law_r15.drop 17, w ∈ lw_tbl := memIn_r _ [509, 510, 511, 512, 513, 514, 515] (by decide +kernel)
theorem inT_r15c : ∀ w ∈ wsL_law_r15.drop 16, w ∈ lw_tbl := fun w hw => (List.mem_cons.mp (show w ∈ Cond.code yL_acts cL_acts 17 (some .boolean) :: wsL_law_r15.drop 17 from hw)).elim (fun e => e ▸ inT_acts) (inT_r15b w)
theorem inT_r15 : ∀ w ∈ wsL_law_r15, w ∈ lw_tbl := mem_td 16 inT_r15a inT_r15c
set_option maxRecDepth 20000 in
theorem inT_r16 : ∀ w ∈ wsL_law_r16, w ∈ lw_tbl := memIn_r _ [516, 517, 518, 519, 521, 522, 523, 524, 525, 526, 527, 528, 529, 531, 9, 532, 533, 534, 535, 536, 537, 538, 539, 540] (by decide +kernel)
set_option maxRecDepth 20000 in
theorem inT_r17 : ∀ w ∈ wsL_law_r17, w ∈ lw_tbl := memIn_r _ [541, 542, 543, 544, 545, 546, 547, 30, 548, 549, 550, 551, 552, 553, 554, 555, 556, 557, 558, 559, 560, 562, 10, 563] (by decide +kernel)
set_option maxRecDepth 20000 in
theorem inT_r18 : ∀ w ∈ wsL_law_r18, w ∈ lw_tbl := memIn_r _ [564, 565, 566, 567, 568, 569, 570, 571, 572, 573, 574, 575, 576, 577, 578, 579, 580, 581, 582, 583, 584, 585, 586, 587] (by decide +kernel)
set_option maxRecDepth 20000 in
theorem inT_r19 : ∀ w ∈ wsL_law_r19, w ∈ lw_tbl := memIn_r _ [588, 589, 591, 11, 592, 593, 594, 595, 596, 597, 598, 599, 600, 601, 602, 603, 604, 605, 606, 607, 608, 609, 610, 611] (by decide +kernel)
set_option maxRecDepth 20000 in
theorem inT_r20 : ∀ w ∈ wsL_law_r20, w ∈ lw_tbl := memIn_r _ [612, 613, 614, 615, 616, 617, 618, 619, 620, 621, 622, 623, 624, 625, 626, 627, 628, 629, 630, 631, 632, 633, 759, 634] (by decide +kernel)
set_option maxRecDepth 20000 in
theorem inT_r21 : ∀ w ∈ wsL_law_r21, w ∈ lw_tbl := memIn_r _ [635, 636, 637, 638, 639, 640, 641, 730, 642, 644, 12, 645, 646, 647, 648, 656, 658, 13, 659, 660, 661, 662, 31, 663] (by decide +kernel)
set_option maxRecDepth 20000 in
theorem inT_r22 : ∀ w ∈ wsL_law_r22, w ∈ lw_tbl := memIn_r _ [761, 664, 665, 666, 667, 668, 762, 670, 672, 14, 673, 674, 675, 676, 677, 678, 679, 680, 681, 682, 683, 32, 684, 685] (by decide +kernel)
set_option maxRecDepth 20000 in
theorem inT_r23 : ∀ w ∈ wsL_law_r23, w ∈ lw_tbl := memIn_r _ [686, 687, 688, 690, 691, 33, 692, 693, 694, 34, 695, 696, 697, 698, 699, 700, 701, 702, 703, 704, 705, 706, 708, 710] (by decide +kernel)
set_option maxRecDepth 20000 in
theorem inT_r24 : ∀ w ∈ wsL_law_r24, w ∈ lw_tbl := memIn_r _ [712, 713, 714, 715, 717, 15, 718, 719, 721, 16, 722, 723, 724, 725, 726, 728, 17, 729, 731, 733, 18, 734, 735, 737] (by decide +kernel)
set_option maxRecDepth 20000 in
theorem inT_r25 : ∀ w ∈ wsL_law_r25, w ∈ lw_tbl := memIn_r _ [19, 738, 739, 740, 741, 742, 743, 744, 745, 746, 747, 748, 749, 750, 751, 752, 753, 754, 755, 756, 757, 758] (by decide +kernel)
set_option maxRecDepth 20000 in
theorem inT_X0 : ∀ w ∈ wsX00, w ∈ lw_tbl := memIn_r _ [193, 195, 197] (by decide +kernel)
set_option maxRecDepth 20000 in
theorem inT_X1 : ∀ w ∈ wsX10, w ∈ lw_tbl := memIn_r _ [161, 163, 165, 167, 169, 171, 173, 175, 177] (by decide +kernel)
set_option maxRecDepth 20000 in
theorem inT_X2 : ∀ w ∈ wsX20, w ∈ lw_tbl := memIn_r _ [134, 136, 138, 140, 142, 144] (by decide +kernel)
set_option maxRecDepth 20000 in
theorem inT_X3 : ∀ w ∈ wsX30, w ∈ lw_tbl := memIn_r _ [59, 61, 63, 65] (by decide +kernel)
set_option maxRecDepth 20000 in
theorem inT_X4 : ∀ w ∈ wsX40, w ∈ lw_tbl := memIn_r _ [215, 217, 219, 221, 223, 225, 227, 229] (by decide +kernel)
set_option maxRecDepth 20000 in
theorem inT_X5 : ∀ w ∈ wsX50, w ∈ lw_tbl := memIn_r _ [95, 97, 99, 101, 103, 105, 107, 109, 111, 113] (by decide +kernel)
set_option maxRecDepth 20000 in
theorem inT_X6 : ∀ w ∈ wsX60, w ∈ lw_tbl := memIn_r _ [240, 242, 244, 246, 248, 250, 252] (by decide +kernel)
theorem inT_rs : ∀ w ∈ (wsL_law_r1 ++ (wsL_law_r2 ++ (wsL_law_r3 ++ (wsL_law_r4 ++ (wsL_law_r5 ++ (wsL_law_r6 ++ (wsL_law_r7 ++ (wsL_law_r8 ++ (wsL_law_r9 ++ (wsL_law_r10 ++ (wsL_law_r11 ++ (wsL_law_r12 ++ (wsL_law_r13 ++ (wsL_law_r14 ++ (wsL_law_r15 ++ (wsL_law_r16 ++ (wsL_law_r17 ++ (wsL_law_r18 ++ (wsL_law_r19 ++ (wsL_law_r20 ++ (wsL_law_r21 ++ (wsL_law_r22 ++ (wsL_law_r23 ++ (wsL_law_r24 ++ (wsL_law_r25))))))))))))))))))))))))), w ∈ lw_tbl := mem_ap inT_r1 (mem_ap inT_r2 (mem_ap inT_r3 (mem_ap inT_r4 (mem_ap inT_r5 (mem_ap inT_r6 (mem_ap inT_r7 (mem_ap inT_r8 (mem_ap inT_r9 (mem_ap inT_r10 (mem_ap inT_r11 (mem_ap inT_r12 (mem_ap inT_r13 (mem_ap inT_r14 (mem_ap inT_r15 (mem_ap inT_r16 (mem_ap inT_r17 (mem_ap inT_r18 (mem_ap inT_r19 (mem_ap inT_r20 (mem_ap inT_r21 (mem_ap inT_r22 (mem_ap inT_r23 (mem_ap inT_r24 (inT_r25))))))))))))))))))))))))
theorem inT_law : ∀ w ∈ wsL_law, w ∈ lw_tbl := mem_ap (mem_ap (mem_ap (mem_ap (mem_ap (mem_ap (mem_ap (mem_ap (inT_rs) inT_X6) inT_X1) inT_X0) inT_X4) inT_X3) inT_X5) inT_X2) (fun _ h => by cases h)
set_option maxRecDepth 20000 in
theorem inT_nest : ∀ w ∈ nestWords, w ∈ lw_tbl := memIn_r _ [45, 51, 71, 76, 78, 80, 82, 84, 86, 88, 90, 92, 94, 118, 123, 125, 127, 129, 131, 133, 148, 150, 151, 153, 157, 188, 192, 202, 208, 310, 326] (by decide +kernel)
theorem nest_on : ∀ w ∈ nestWords, w.onTables = true := fun w h => List.all_eq_true.mp (show nestWords.all (fun w => w.onTables) = true by decide +kernel) w h
set_option maxRecDepth 20000 in
theorem inT_cs : Cond.laysStatic "java/lang/String" "COMPACT_STRINGS" "Z" ∈ lw_tbl := List.mem_of_getElem? (i := 669) (by decide +kernel)
set_option maxRecDepth 20000 in
theorem inT_si : Cond.initialized "java/lang/String" ∈ lw_tbl := List.mem_of_getElem? (i := 31) (by decide +kernel)
set_option maxRecDepth 20000 in
theorem inT_pf : Cond.laysStatic "jdk/internal/util/Preconditions" "SIOOBE_FORMATTER" "Ljava/util/function/BiFunction;" ∈ lw_tbl := List.mem_of_getElem? (i := 689) (by decide +kernel)
set_option maxRecDepth 20000 in
theorem inT_pi : Cond.initialized "jdk/internal/util/Preconditions" ∈ lw_tbl := List.mem_of_getElem? (i := 33) (by decide +kernel)
set_option maxRecDepth 20000 in
theorem inT_ai : Cond.arrayClass .int ∈ lw_tbl := List.mem_of_getElem? (i := 68) (by decide +kernel)
set_option maxRecDepth 20000 in
theorem inT_ac : Cond.arrayClass .char ∈ lw_tbl := List.mem_of_getElem? (i := 232) (by decide +kernel)
set_option maxRecDepth 20000 in
theorem inT_ao : Cond.arrayOver (.object "GemMemos$Market") ∈ lw_tbl := List.mem_of_getElem? (i := 187) (by decide +kernel)
set_option maxRecDepth 20000 in
theorem inT_n0 : Cond.instantiable RX0 3 ∈ lw_tbl := List.mem_of_getElem? (i := 181) (by decide +kernel)
set_option maxRecDepth 20000 in
theorem inT_n1 : Cond.instantiable RX1 9 ∈ lw_tbl := List.mem_of_getElem? (i := 44) (by decide +kernel)
set_option maxRecDepth 20000 in
theorem inT_n2 : Cond.instantiable RX2 6 ∈ lw_tbl := List.mem_of_getElem? (i := 117) (by decide +kernel)
set_option maxRecDepth 20000 in
theorem inT_n3 : Cond.instantiable RX3 4 ∈ lw_tbl := List.mem_of_getElem? (i := 50) (by decide +kernel)
set_option maxRecDepth 20000 in
theorem inT_n4 : Cond.instantiable RX4 8 ∈ lw_tbl := List.mem_of_getElem? (i := 201) (by decide +kernel)
set_option maxRecDepth 20000 in
theorem inT_n5 : Cond.instantiable RX5 10 ∈ lw_tbl := List.mem_of_getElem? (i := 70) (by decide +kernel)
set_option maxRecDepth 20000 in
theorem inT_n6 : Cond.instantiable RX6 7 ∈ lw_tbl := List.mem_of_getElem? (i := 36) (by decide +kernel)
def litSr : List Cond := [.stringRef RX4 108 "lend", .stringRef RX4 110 "back", .stringRef RX4 112 "keep", .stringRef RX4 114 "sell", .stringRef RX4 116 "grade", .stringRef RX4 118 "rate", .stringRef RX4 120 "wait"]
set_option maxRecDepth 20000 in
theorem inT_lit : ∀ w ∈ litSr, w ∈ lw_tbl := memIn_r _ [649, 650, 651, 652, 653, 654, 655] (by decide +kernel)
