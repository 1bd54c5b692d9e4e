theorem dX7_goes_41 : decode cX7_goes 41 = .ok (.if_icmp .ge 13, 3) := by decide +kernel
theorem dX7_goes_44 : decode cX7_goes 44 = .ok (.aload_n 0, 1) := by decide +kernel
theorem dX7_goes_45 : decode cX7_goes 45 = .ok (.invokevirtual 98, 3) := by decide +kernel
theorem dX7_goes_48 : decode cX7_goes 48 = .ok (.iinc 3 1, 3) := by decide +kernel
theorem dX7_goes_51 : decode cX7_goes 51 = .ok (.goto (-12), 3) := by decide +kernel
theorem dX7_goes_54 : decode cX7_goes 54 = .ok (.aload_n 0, 1) := by decide +kernel
theorem dX7_goes_55 : decode cX7_goes 55 = .ok (.getfield 7, 3) := by decide +kernel
theorem dX7_goes_58 : decode cX7_goes 58 = .ok (.iconst 4, 1) := by decide +kernel
theorem dX7_goes_59 : decode cX7_goes 59 = .ok (.iaload, 1) := by decide +kernel
theorem dX7_goes_60 : decode cX7_goes 60 = .ok (.iload_n 2, 1) := by decide +kernel
theorem dX7_goes_61 : decode cX7_goes 61 = .ok (.isub, 1) := by decide +kernel
theorem dX7_goes_62 : decode cX7_goes 62 = .ok (.ireturn, 1) := by decide +kernel
set_option maxRecDepth 20000 in
theorem ggX7_dealer_X7_begins : GoodIn wsX7_dealer wsX7_begins := goodIn_r _ [7, 8, 1, 20, 21, 22, 23, 24, 25, 26, 27, 28, 29, 30, 31, 32] (by decide +kernel) (by decide +kernel)
set_option maxRecDepth 20000 in
theorem gX7_dealer_X7_begins : GoodIn wsX7_dealer (wsV RX7 101 RX7 yX7_begins wsX7_begins) := goodIn_app (goodIn_of _ (by decide +kernel)) ggX7_dealer_X7_begins
set_option maxRecDepth 20000 in
theorem ggX7_dealer_X7_acted : GoodIn wsX7_dealer wsX7_acted := goodIn_r _ [12, 13, 14, 15, 8, 16, 17, 18, 6, 19, 1, 20, 21, 22, 23, 24, 25, 26, 27, 28, 29, 30, 31, 32] (by decide +kernel) (by decide +kernel)
set_option maxRecDepth 20000 in
theorem gX7_dealer_X7_acted : GoodIn wsX7_dealer (wsV RX7 104 RX7 yX7_acted wsX7_acted) := goodIn_app (goodIn_of _ (by decide +kernel)) ggX7_dealer_X7_acted
theorem dX7_dealer_0 : decode cX7_dealer 0 = .ok (.aload_n 0, 1) := by decide +kernel
theorem dX7_dealer_1 : decode cX7_dealer 1 = .ok (.invokevirtual 101, 3) := by decide +kernel
theorem dX7_dealer_4 : decode cX7_dealer 4 = .ok (.aload_n 0, 1) := by decide +kernel
theorem dX7_dealer_5 : decode cX7_dealer 5 = .ok (.getfield 7, 3) := by decide +kernel
theorem dX7_dealer_8 : decode cX7_dealer 8 = .ok (.iconst 0, 1) := by decide +kernel
theorem dX7_dealer_9 : decode cX7_dealer 9 = .ok (.iaload, 1) := by decide +kernel
theorem dX7_dealer_10 : decode cX7_dealer 10 = .ok (.bipush 6, 2) := by decide +kernel
theorem dX7_dealer_12 : decode cX7_dealer 12 = .ok (.if_icmp .ne 6, 3) := by decide +kernel
theorem dX7_dealer_15 : decode cX7_dealer 15 = .ok (.ldc 70, 2) := by decide +kernel
theorem dX7_dealer_17 : decode cX7_dealer 17 = .ok (.ireturn, 1) := by decide +kernel
theorem dX7_dealer_18 : decode cX7_dealer 18 = .ok (.aload_n 0, 1) := by decide +kernel
theorem dX7_dealer_19 : decode cX7_dealer 19 = .ok (.getfield 7, 3) := by decide +kernel
theorem dX7_dealer_22 : decode cX7_dealer 22 = .ok (.iconst 0, 1) := by decide +kernel
theorem dX7_dealer_23 : decode cX7_dealer 23 = .ok (.dup2, 1) := by decide +kernel
theorem dX7_dealer_24 : decode cX7_dealer 24 = .ok (.iaload, 1) := by decide +kernel
theorem dX7_dealer_25 : decode cX7_dealer 25 = .ok (.iconst 1, 1) := by decide +kernel
theorem dX7_dealer_26 : decode cX7_dealer 26 = .ok (.iadd, 1) := by decide +kernel
theorem dX7_dealer_27 : decode cX7_dealer 27 = .ok (.iastore, 1) := by decide +kernel
theorem dX7_dealer_28 : decode cX7_dealer 28 = .ok (.aload_n 0, 1) := by decide +kernel
theorem dX7_dealer_29 : decode cX7_dealer 29 = .ok (.aload_n 0, 1) := by decide +kernel
theorem dX7_dealer_30 : decode cX7_dealer 30 = .ok (.getfield 7, 3) := by decide +kernel
theorem dX7_dealer_33 : decode cX7_dealer 33 = .ok (.iconst 0, 1) := by decide +kernel
theorem dX7_dealer_34 : decode cX7_dealer 34 = .ok (.iaload, 1) := by decide +kernel
theorem dX7_dealer_35 : decode cX7_dealer 35 = .ok (.iconst 1, 1) := by decide +kernel
theorem dX7_dealer_36 : decode cX7_dealer 36 = .ok (.isub, 1) := by decide +kernel
theorem dX7_dealer_37 : decode cX7_dealer 37 = .ok (.invokevirtual 104, 3) := by decide +kernel
theorem dX7_dealer_40 : decode cX7_dealer 40 = .ok (.ireturn, 1) := by decide +kernel
set_option maxRecDepth 20000 in
theorem ggX7_stone_X7_begins : GoodIn wsX7_stone wsX7_begins := goodIn_r _ [8, 9, 2, 34, 35, 36, 37, 38, 39, 40, 41, 42, 43, 44, 45, 46] (by decide +kernel) (by decide +kernel)
set_option maxRecDepth 20000 in
theorem gX7_stone_X7_begins : GoodIn wsX7_stone (wsV RX7 101 RX7 yX7_begins wsX7_begins) := goodIn_app (goodIn_of _ (by decide +kernel)) ggX7_stone_X7_begins
set_option maxRecDepth 20000 in
theorem ggX7_stone_X7_isDealer : GoodIn wsX7_stone wsX7_isDealer := goodIn_r _ [13, 2, 14, 15, 7, 16, 34, 35, 36, 37, 38, 39, 40, 41, 42, 43, 44, 45, 46] (by decide +kernel) (by decide +kernel)
set_option maxRecDepth 20000 in
theorem gX7_stone_X7_isDealer : GoodIn wsX7_stone (wsV RX7 62 RX7 yX7_isDealer wsX7_isDealer) := goodIn_app (goodIn_of _ (by decide +kernel)) ggX7_stone_X7_isDealer
set_option maxRecDepth 20000 in
theorem ggX7_stone_X7_in : GoodIn wsX7_stone wsX7_in := goodIn_r _ [16] (by decide +kernel) (by decide +kernel)
set_option maxRecDepth 20000 in
theorem gX7_stone_X7_in : GoodIn wsX7_stone (va_wsS RX7 36 yX7_in wsX7_in) := goodIn_app (goodIn_of _ (by decide +kernel)) ggX7_stone_X7_in
set_option maxRecDepth 20000 in
theorem ggX7_stone_X7_isGrade : GoodIn wsX7_stone wsX7_isGrade := goodIn_r _ [19, 14, 15, 7, 16] (by decide +kernel) (by decide +kernel)
set_option maxRecDepth 20000 in
theorem gX7_stone_X7_isGrade : GoodIn wsX7_stone (va_wsS RX7 92 yX7_isGrade wsX7_isGrade) := goodIn_app (goodIn_of _ (by decide +kernel)) ggX7_stone_X7_isGrade
set_option maxRecDepth 20000 in
theorem ggX7_stone_X7_setStone : GoodIn wsX7_stone wsX7_setStone := goodIn_r _ [23, 2, 34, 35, 36, 37, 38, 39, 40, 41, 42, 43, 44, 45, 46] (by decide +kernel) (by decide +kernel)
set_option maxRecDepth 20000 in
theorem gX7_stone_X7_setStone : GoodIn wsX7_stone (wsV RX7 71 RX7 yX7_setStone wsX7_setStone) := goodIn_app (goodIn_of _ (by decide +kernel)) ggX7_stone_X7_setStone
set_option maxRecDepth 20000 in
theorem ggX7_stone_X7_acted : GoodIn wsX7_stone wsX7_acted := goodIn_r _ [27, 1, 28, 29, 9, 30, 31, 32, 7, 33, 2, 34, 35, 36, 37, 38, 39, 40, 41, 42, 43, 44, 45, 46] (by decide +kernel) (by decide +kernel)
set_option maxRecDepth 20000 in
theorem gX7_stone_X7_acted : GoodIn wsX7_stone (wsV RX7 104 RX7 yX7_acted wsX7_acted) := goodIn_app (goodIn_of _ (by decide +kernel)) ggX7_stone_X7_acted
theorem dX7_stone_0 : decode cX7_stone 0 = .ok (.aload_n 0, 1) := by decide +kernel
theorem dX7_stone_1 : decode cX7_stone 1 = .ok (.invokevirtual 101, 3) := by decide +kernel
theorem dX7_stone_4 : decode cX7_stone 4 = .ok (.aload_n 0, 1) := by decide +kernel
theorem dX7_stone_5 : decode cX7_stone 5 = .ok (.iload_n 1, 1) := by decide +kernel
theorem dX7_stone_6 : decode cX7_stone 6 = .ok (.invokevirtual 62, 3) := by decide +kernel
theorem dX7_stone_9 : decode cX7_stone 9 = .ok (.ifCond .eq 23, 3) := by decide +kernel
theorem dX7_stone_12 : decode cX7_stone 12 = .ok (.iload_n 2, 1) := by decide +kernel
theorem dX7_stone_13 : decode cX7_stone 13 = .ok (.iconst 1, 1) := by decide +kernel
theorem dX7_stone_14 : decode cX7_stone 14 = .ok (.sipush 999, 3) := by decide +kernel
theorem dX7_stone_17 : decode cX7_stone 17 = .ok (.invokestatic 36, 3) := by decide +kernel
theorem dX7_stone_20 : decode cX7_stone 20 = .ok (.ifCond .eq 12, 3) := by decide +kernel
theorem dX7_stone_23 : decode cX7_stone 23 = .ok (.iload_n 3, 1) := by decide +kernel
theorem dX7_stone_24 : decode cX7_stone 24 = .ok (.iload 4, 2) := by decide +kernel
theorem dX7_stone_26 : decode cX7_stone 26 = .ok (.invokestatic 92, 3) := by decide +kernel
theorem dX7_stone_29 : decode cX7_stone 29 = .ok (.ifCond .ne 6, 3) := by decide +kernel
theorem dX7_stone_32 : decode cX7_stone 32 = .ok (.ldc 28, 2) := by decide +kernel
theorem dX7_stone_34 : decode cX7_stone 34 = .ok (.ireturn, 1) := by decide +kernel
theorem dX7_stone_35 : decode cX7_stone 35 = .ok (.aload_n 0, 1) := by decide +kernel
theorem dX7_stone_36 : decode cX7_stone 36 = .ok (.getfield 7, 3) := by decide +kernel
theorem dX7_stone_39 : decode cX7_stone 39 = .ok (.iconst 1, 1) := by decide +kernel
theorem dX7_stone_40 : decode cX7_stone 40 = .ok (.iaload, 1) := by decide +kernel
theorem dX7_stone_41 : decode cX7_stone 41 = .ok (.bipush 20, 2) := by decide +kernel
theorem dX7_stone_43 : decode cX7_stone 43 = .ok (.if_icmp .ne 6, 3) := by decide +kernel
theorem dX7_stone_46 : decode cX7_stone 46 = .ok (.ldc 70, 2) := by decide +kernel
theorem dX7_stone_48 : decode cX7_stone 48 = .ok (.ireturn, 1) := by decide +kernel
theorem dX7_stone_49 : decode cX7_stone 49 = .ok (.aload_n 0, 1) := by decide +kernel
theorem dX7_stone_50 : decode cX7_stone 50 = .ok (.getfield 7, 3) := by decide +kernel
theorem dX7_stone_53 : decode cX7_stone 53 = .ok (.iconst 1, 1) := by decide +kernel
theorem dX7_stone_54 : decode cX7_stone 54 = .ok (.iaload, 1) := by decide +kernel
theorem dX7_stone_55 : decode cX7_stone 55 = .ok (.istore 5, 2) := by decide +kernel
theorem dX7_stone_57 : decode cX7_stone 57 = .ok (.aload_n 0, 1) := by decide +kernel
theorem dX7_stone_58 : decode cX7_stone 58 = .ok (.getfield 7, 3) := by decide +kernel
theorem dX7_stone_61 : decode cX7_stone 61 = .ok (.iconst 1, 1) := by decide +kernel
theorem dX7_stone_62 : decode cX7_stone 62 = .ok (.dup2, 1) := by decide +kernel
theorem dX7_stone_63 : decode cX7_stone 63 = .ok (.iaload, 1) := by decide +kernel
theorem dX7_stone_64 : decode cX7_stone 64 = .ok (.iconst 1, 1) := by decide +kernel
theorem dX7_stone_65 : decode cX7_stone 65 = .ok (.iadd, 1) := by decide +kernel
theorem dX7_stone_66 : decode cX7_stone 66 = .ok (.iastore, 1) := by decide +kernel
theorem dX7_stone_67 : decode cX7_stone 67 = .ok (.aload_n 0, 1) := by decide +kernel
theorem dX7_stone_68 : decode cX7_stone 68 = .ok (.iload 5, 2) := by decide +kernel
theorem dX7_stone_70 : decode cX7_stone 70 = .ok (.iconst 0, 1) := by decide +kernel
theorem dX7_stone_71 : decode cX7_stone 71 = .ok (.iload_n 2, 1) := by decide +kernel
theorem dX7_stone_72 : decode cX7_stone 72 = .ok (.invokevirtual 71, 3) := by decide +kernel
theorem dX7_stone_75 : decode cX7_stone 75 = .ok (.aload_n 0, 1) := by decide +kernel
theorem dX7_stone_76 : decode cX7_stone 76 = .ok (.iload 5, 2) := by decide +kernel
theorem dX7_stone_78 : decode cX7_stone 78 = .ok (.iconst 1, 1) := by decide +kernel
theorem dX7_stone_79 : decode cX7_stone 79 = .ok (.iload_n 3, 1) := by decide +kernel
theorem dX7_stone_80 : decode cX7_stone 80 = .ok (.invokevirtual 71, 3) := by decide +kernel
theorem dX7_stone_83 : decode cX7_stone 83 = .ok (.aload_n 0, 1) := by decide +kernel
theorem dX7_stone_84 : decode cX7_stone 84 = .ok (.iload 5, 2) := by decide +kernel
theorem dX7_stone_86 : decode cX7_stone 86 = .ok (.iconst 2, 1) := by decide +kernel
theorem dX7_stone_87 : decode cX7_stone 87 = .ok (.iload 4, 2) := by decide +kernel
theorem dX7_stone_89 : decode cX7_stone 89 = .ok (.invokevirtual 71, 3) := by decide +kernel
theorem dX7_stone_92 : decode cX7_stone 92 = .ok (.aload_n 0, 1) := by decide +kernel
theorem dX7_stone_93 : decode cX7_stone 93 = .ok (.iload 5, 2) := by decide +kernel
theorem dX7_stone_95 : decode cX7_stone 95 = .ok (.iconst 3, 1) := by decide +kernel
theorem dX7_stone_96 : decode cX7_stone 96 = .ok (.iload_n 1, 1) := by decide +kernel
theorem dX7_stone_97 : decode cX7_stone 97 = .ok (.invokevirtual 71, 3) := by decide +kernel
theorem dX7_stone_100 : decode cX7_stone 100 = .ok (.aload_n 0, 1) := by decide +kernel
theorem dX7_stone_101 : decode cX7_stone 101 = .ok (.iload 5, 2) := by decide +kernel
theorem dX7_stone_103 : decode cX7_stone 103 = .ok (.iconst 4, 1) := by decide +kernel
theorem dX7_stone_104 : decode cX7_stone 104 = .ok (.iload_n 1, 1) := by decide +kernel
theorem dX7_stone_105 : decode cX7_stone 105 = .ok (.invokevirtual 71, 3) := by decide +kernel
theorem dX7_stone_108 : decode cX7_stone 108 = .ok (.aload_n 0, 1) := by decide +kernel
theorem dX7_stone_109 : decode cX7_stone 109 = .ok (.iload 5, 2) := by decide +kernel
theorem dX7_stone_111 : decode cX7_stone 111 = .ok (.iconst 5, 1) := by decide +kernel
theorem dX7_stone_112 : decode cX7_stone 112 = .ok (.iconst (-1), 1) := by decide +kernel
theorem dX7_stone_113 : decode cX7_stone 113 = .ok (.invokevirtual 71, 3) := by decide +kernel
theorem dX7_stone_116 : decode cX7_stone 116 = .ok (.aload_n 0, 1) := by decide +kernel
theorem dX7_stone_117 : decode cX7_stone 117 = .ok (.iload 5, 2) := by decide +kernel
theorem dX7_stone_119 : decode cX7_stone 119 = .ok (.invokevirtual 104, 3) := by decide +kernel
theorem dX7_stone_122 : decode cX7_stone 122 = .ok (.ireturn, 1) := by decide +kernel
set_option maxRecDepth 20000 in
theorem ggX7_rate_X7_begins : GoodIn wsX7_rate wsX7_begins := goodIn_r _ [5, 6, 7, 33, 34, 35, 36, 37, 38, 39, 40, 41, 42, 43, 44, 45] (by decide +kernel) (by decide +kernel)
set_option maxRecDepth 20000 in
theorem gX7_rate_X7_begins : GoodIn wsX7_rate (wsV RX7 101 RX7 yX7_begins wsX7_begins) := goodIn_app (goodIn_of _ (by decide +kernel)) ggX7_rate_X7_begins
set_option maxRecDepth 20000 in
theorem ggX7_rate_X7_rates : GoodIn wsX7_rate wsX7_rates := goodIn_r _ [11, 12, 7, 13, 14, 15, 4, 16, 17, 18, 19, 20, 21, 22, 33, 34, 35, 36, 37, 38, 39, 40, 41, 42, 43, 44, 45] (by decide +kernel) (by decide +kernel)
set_option maxRecDepth 20000 in
theorem gX7_rate_X7_rates : GoodIn wsX7_rate (wsV RX7 107 RX7 yX7_rates wsX7_rates) := goodIn_app (goodIn_of _ (by decide +kernel)) ggX7_rate_X7_rates
set_option maxRecDepth 20000 in
theorem ggX7_rate_X7_acted : GoodIn wsX7_rate wsX7_acted := goodIn_r _ [26, 12, 27, 28, 6, 29, 30, 31, 4, 32, 7, 33, 34, 35, 36, 37, 38, 39, 40, 41, 42, 43, 44, 45] (by decide +kernel) (by decide +kernel)
set_option maxRecDepth 20000 in
theorem gX7_rate_X7_acted : GoodIn wsX7_rate (wsV RX7 104 RX7 yX7_acted wsX7_acted) := goodIn_app (goodIn_of _ (by decide +kernel)) ggX7_rate_X7_acted
theorem dX7_rate_0 : decode cX7_rate 0 = .ok (.aload_n 0, 1) := by decide +kernel
theorem dX7_rate_1 : decode cX7_rate 1 = .ok (.invokevirtual 101, 3) := by decide +kernel
theorem dX7_rate_4 : decode cX7_rate 4 = .ok (.aload_n 0, 1) := by decide +kernel
theorem dX7_rate_5 : decode cX7_rate 5 = .ok (.aload_n 0, 1) := by decide +kernel
theorem dX7_rate_6 : decode cX7_rate 6 = .ok (.iload_n 1, 1) := by decide +kernel
theorem dX7_rate_7 : decode cX7_rate 7 = .ok (.iload_n 2, 1) := by decide +kernel
theorem dX7_rate_8 : decode cX7_rate 8 = .ok (.iload_n 3, 1) := by decide +kernel
theorem dX7_rate_9 : decode cX7_rate 9 = .ok (.iload 4, 2) := by decide +kernel
theorem dX7_rate_11 : decode cX7_rate 11 = .ok (.invokevirtual 107, 3) := by decide +kernel
theorem dX7_rate_14 : decode cX7_rate 14 = .ok (.invokevirtual 104, 3) := by decide +kernel
theorem dX7_rate_17 : decode cX7_rate 17 = .ok (.ireturn, 1) := by decide +kernel
set_option maxRecDepth 20000 in
theorem ggX7_unrate_X7_begins : GoodIn wsX7_unrate wsX7_begins := goodIn_r _ [8, 9, 2, 29, 30, 31, 32, 33, 34, 35, 36, 37, 38, 39, 40, 41] (by decide +kernel) (by decide +kernel)
set_option maxRecDepth 20000 in
theorem gX7_unrate_X7_begins : GoodIn wsX7_unrate (wsV RX7 101 RX7 yX7_begins wsX7_begins) := goodIn_app (goodIn_of _ (by decide +kernel)) ggX7_unrate_X7_begins
set_option maxRecDepth 20000 in
theorem ggX7_unrate_X7_in : GoodIn wsX7_unrate wsX7_in := goodIn_r _ [12] (by decide +kernel) (by decide +kernel)
set_option maxRecDepth 20000 in
theorem gX7_unrate_X7_in : GoodIn wsX7_unrate (va_wsS RX7 36 yX7_in wsX7_in) := goodIn_app (goodIn_of _ (by decide +kernel)) ggX7_unrate_X7_in
set_option maxRecDepth 20000 in
theorem ggX7_unrate_X7_isGrade : GoodIn wsX7_unrate wsX7_isGrade := goodIn_r _ [15, 10, 11, 7, 12] (by decide +kernel) (by decide +kernel)
set_option maxRecDepth 20000 in
theorem gX7_unrate_X7_isGrade : GoodIn wsX7_unrate (va_wsS RX7 92 yX7_isGrade wsX7_isGrade) := goodIn_app (goodIn_of _ (by decide +kernel)) ggX7_unrate_X7_isGrade
set_option maxRecDepth 20000 in
theorem ggX7_unrate_X7_rateAt : GoodIn wsX7_unrate wsX7_rateAt := goodIn_r _ [18] (by decide +kernel) (by decide +kernel)
set_option maxRecDepth 20000 in
theorem gX7_unrate_X7_rateAt : GoodIn wsX7_unrate (va_wsS RX7 44 yX7_rateAt wsX7_rateAt) := goodIn_app (goodIn_of _ (by decide +kernel)) ggX7_unrate_X7_rateAt
set_option maxRecDepth 20000 in
theorem ggX7_unrate_X7_acted : GoodIn wsX7_unrate wsX7_acted := goodIn_r _ [22, 1, 23, 24, 9, 25, 26, 27, 7, 28, 2, 29, 30, 31, 32, 33, 34, 35, 36, 37, 38, 39, 40, 41] (by decide +kernel) (by decide +kernel)
set_option maxRecDepth 20000 in
theorem gX7_unrate_X7_acted : GoodIn wsX7_unrate (wsV RX7 104 RX7 yX7_acted wsX7_acted) := goodIn_app (goodIn_of _ (by decide +kernel)) ggX7_unrate_X7_acted
theorem dX7_unrate_0 : decode cX7_unrate 0 = .ok (.aload_n 0, 1) := by decide +kernel
theorem dX7_unrate_1 : decode cX7_unrate 1 = .ok (.invokevirtual 101, 3) := by decide +kernel
theorem dX7_unrate_4 : decode cX7_unrate 4 = .ok (.iload_n 1, 1) := by decide +kernel
theorem dX7_unrate_5 : decode cX7_unrate 5 = .ok (.iconst 0, 1) := by decide +kernel
theorem dX7_unrate_6 : decode cX7_unrate 6 = .ok (.iconst 4, 1) := by decide +kernel
theorem dX7_unrate_7 : decode cX7_unrate 7 = .ok (.invokestatic 36, 3) := by decide +kernel
theorem dX7_unrate_10 : decode cX7_unrate 10 = .ok (.ifCond .eq 11, 3) := by decide +kernel
theorem dX7_unrate_13 : decode cX7_unrate 13 = .ok (.iload_n 2, 1) := by decide +kernel
theorem dX7_unrate_14 : decode cX7_unrate 14 = .ok (.iload_n 3, 1) := by decide +kernel
theorem dX7_unrate_15 : decode cX7_unrate 15 = .ok (.invokestatic 92, 3) := by decide +kernel
theorem dX7_unrate_18 : decode cX7_unrate 18 = .ok (.ifCond .ne 6, 3) := by decide +kernel
theorem dX7_unrate_21 : decode cX7_unrate 21 = .ok (.ldc 28, 2) := by decide +kernel
theorem dX7_unrate_23 : decode cX7_unrate 23 = .ok (.ireturn, 1) := by decide +kernel
theorem dX7_unrate_24 : decode cX7_unrate 24 = .ok (.iload_n 1, 1) := by decide +kernel
theorem dX7_unrate_25 : decode cX7_unrate 25 = .ok (.iload_n 2, 1) := by decide +kernel
theorem dX7_unrate_26 : decode cX7_unrate 26 = .ok (.iload_n 3, 1) := by decide +kernel
theorem dX7_unrate_27 : decode cX7_unrate 27 = .ok (.invokestatic 44, 3) := by decide +kernel
theorem dX7_unrate_30 : decode cX7_unrate 30 = .ok (.istore 4, 2) := by decide +kernel
theorem dX7_unrate_32 : decode cX7_unrate 32 = .ok (.aload_n 0, 1) := by decide +kernel
theorem dX7_unrate_33 : decode cX7_unrate 33 = .ok (.getfield 7, 3) := by decide +kernel
theorem dX7_unrate_36 : decode cX7_unrate 36 = .ok (.iload 4, 2) := by decide +kernel
theorem dX7_unrate_38 : decode cX7_unrate 38 = .ok (.iaload, 1) := by decide +kernel
theorem dX7_unrate_39 : decode cX7_unrate 39 = .ok (.istore 5, 2) := by decide +kernel
theorem dX7_unrate_41 : decode cX7_unrate 41 = .ok (.iload 5, 2) := by decide +kernel
theorem dX7_unrate_43 : decode cX7_unrate 43 = .ok (.ifCond .ne 6, 3) := by decide +kernel
theorem dX7_unrate_46 : decode cX7_unrate 46 = .ok (.ldc 69, 2) := by decide +kernel
theorem dX7_unrate_48 : decode cX7_unrate 48 = .ok (.ireturn, 1) := by decide +kernel
theorem dX7_unrate_49 : decode cX7_unrate 49 = .ok (.aload_n 0, 1) := by decide +kernel
theorem dX7_unrate_50 : decode cX7_unrate 50 = .ok (.getfield 7, 3) := by decide +kernel
theorem dX7_unrate_53 : decode cX7_unrate 53 = .ok (.iload 4, 2) := by decide +kernel
theorem dX7_unrate_55 : decode cX7_unrate 55 = .ok (.iconst 0, 1) := by decide +kernel
theorem dX7_unrate_56 : decode cX7_unrate 56 = .ok (.iastore, 1) := by decide +kernel
theorem dX7_unrate_57 : decode cX7_unrate 57 = .ok (.aload_n 0, 1) := by decide +kernel
theorem dX7_unrate_58 : decode cX7_unrate 58 = .ok (.getfield 7, 3) := by decide +kernel
theorem dX7_unrate_61 : decode cX7_unrate 61 = .ok (.iconst 5, 1) := by decide +kernel
theorem dX7_unrate_62 : decode cX7_unrate 62 = .ok (.dup2, 1) := by decide +kernel
theorem dX7_unrate_63 : decode cX7_unrate 63 = .ok (.iaload, 1) := by decide +kernel
theorem dX7_unrate_64 : decode cX7_unrate 64 = .ok (.iconst 1, 1) := by decide +kernel
theorem dX7_unrate_65 : decode cX7_unrate 65 = .ok (.isub, 1) := by decide +kernel
theorem dX7_unrate_66 : decode cX7_unrate 66 = .ok (.iastore, 1) := by decide +kernel
theorem dX7_unrate_67 : decode cX7_unrate 67 = .ok (.aload_n 0, 1) := by decide +kernel
theorem dX7_unrate_68 : decode cX7_unrate 68 = .ok (.iload 5, 2) := by decide +kernel
theorem dX7_unrate_70 : decode cX7_unrate 70 = .ok (.invokevirtual 104, 3) := by decide +kernel
theorem dX7_unrate_73 : decode cX7_unrate 73 = .ok (.ireturn, 1) := by decide +kernel
set_option maxRecDepth 20000 in
theorem ggX7_lend_X7_begins : GoodIn wsX7_lend wsX7_begins := goodIn_r _ [5, 6, 7, 63, 64, 65, 66, 67, 68, 69, 70, 71, 72, 73, 74, 75] (by decide +kernel) (by decide +kernel)
set_option maxRecDepth 20000 in
theorem gX7_lend_X7_begins : GoodIn wsX7_lend (wsV RX7 101 RX7 yX7_begins wsX7_begins) := goodIn_app (goodIn_of _ (by decide +kernel)) ggX7_lend_X7_begins
set_option maxRecDepth 20000 in
theorem ggX7_lend_X7_lends : GoodIn wsX7_lend wsX7_lends := goodIn_r _ [11, 7, 12, 13, 14, 15, 16, 17, 4, 18, 19, 20, 21, 22, 23, 24, 25, 26, 27, 28, 29, 30, 31, 32, 33, 34, 35, 36, 37, 38, 39, 40, 41, 42, 43, 44, 45, 46, 47, 48, 49, 50, 51, 52, 63, 64, 65, 66, 67, 68, 69, 70, 71, 72, 73, 74, 75] (by decide +kernel) (by decide +kernel)
set_option maxRecDepth 20000 in
theorem gX7_lend_X7_lends : GoodIn wsX7_lend (wsV RX7 111 RX7 yX7_lends wsX7_lends) := goodIn_app (goodIn_of _ (by decide +kernel)) ggX7_lend_X7_lends
set_option maxRecDepth 20000 in
theorem ggX7_lend_X7_acted : GoodIn wsX7_lend wsX7_acted := goodIn_r _ [56, 12, 57, 58, 6, 59, 60, 61, 4, 62, 7, 63, 64, 65, 66, 67, 68, 69, 70, 71, 72, 73, 74, 75] (by decide +kernel) (by decide +kernel)
set_option maxRecDepth 20000 in
theorem gX7_lend_X7_acted : GoodIn wsX7_lend (wsV RX7 104 RX7 yX7_acted wsX7_acted) := goodIn_app (goodIn_of _ (by decide +kernel)) ggX7_lend_X7_acted
theorem dX7_lend_0 : decode cX7_lend 0 = .ok (.aload_n 0, 1) := by decide +kernel
theorem dX7_lend_1 : decode cX7_lend 1 = .ok (.invokevirtual 101, 3) := by decide +kernel
theorem dX7_lend_4 : decode cX7_lend 4 = .ok (.aload_n 0, 1) := by decide +kernel
theorem dX7_lend_5 : decode cX7_lend 5 = .ok (.aload_n 0, 1) := by decide +kernel
theorem dX7_lend_6 : decode cX7_lend 6 = .ok (.iload_n 1, 1) := by decide +kernel
theorem dX7_lend_7 : decode cX7_lend 7 = .ok (.iload_n 2, 1) := by decide +kernel
theorem dX7_lend_8 : decode cX7_lend 8 = .ok (.iload_n 3, 1) := by decide +kernel
theorem dX7_lend_9 : decode cX7_lend 9 = .ok (.iload 4, 2) := by decide +kernel
theorem dX7_lend_11 : decode cX7_lend 11 = .ok (.invokevirtual 111, 3) := by decide +kernel
theorem dX7_lend_14 : decode cX7_lend 14 = .ok (.invokevirtual 104, 3) := by decide +kernel
theorem dX7_lend_17 : decode cX7_lend 17 = .ok (.ireturn, 1) := by decide +kernel
set_option maxRecDepth 20000 in
theorem ggX7_back_X7_begins : GoodIn wsX7_back wsX7_begins := goodIn_r _ [5, 6, 7, 50, 51, 52, 53, 54, 55, 56, 57, 58, 59, 60, 61, 62] (by decide +kernel) (by decide +kernel)
set_option maxRecDepth 20000 in
theorem gX7_back_X7_begins : GoodIn wsX7_back (wsV RX7 101 RX7 yX7_begins wsX7_begins) := goodIn_app (goodIn_of _ (by decide +kernel)) ggX7_back_X7_begins
set_option maxRecDepth 20000 in
theorem ggX7_back_X7_gives : GoodIn wsX7_back wsX7_gives := goodIn_r _ [11, 12, 13, 14, 15, 16, 4, 17, 7, 18, 19, 20, 21, 22, 23, 24, 25, 26, 27, 28, 29, 30, 31, 32, 33, 34, 35, 36, 37, 38, 39, 50, 51, 52, 53, 54, 55, 56, 57, 58, 59, 60, 61, 62] (by decide +kernel) (by decide +kernel)
set_option maxRecDepth 20000 in
theorem gX7_back_X7_gives : GoodIn wsX7_back (wsV RX7 114 RX7 yX7_gives wsX7_gives) := goodIn_app (goodIn_of _ (by decide +kernel)) ggX7_back_X7_gives
set_option maxRecDepth 20000 in
theorem ggX7_back_X7_acted : GoodIn wsX7_back wsX7_acted := goodIn_r _ [43, 12, 44, 45, 6, 46, 47, 48, 4, 49, 7, 50, 51, 52, 53, 54, 55, 56, 57, 58, 59, 60, 61, 62] (by decide +kernel) (by decide +kernel)
set_option maxRecDepth 20000 in
theorem gX7_back_X7_acted : GoodIn wsX7_back (wsV RX7 104 RX7 yX7_acted wsX7_acted) := goodIn_app (goodIn_of _ (by decide +kernel)) ggX7_back_X7_acted
theorem dX7_back_0 : decode cX7_back 0 = .ok (.aload_n 0, 1) := by decide +kernel
theorem dX7_back_1 : decode cX7_back 1 = .ok (.invokevirtual 101, 3) := by decide +kernel
theorem dX7_back_4 : decode cX7_back 4 = .ok (.aload_n 0, 1) := by decide +kernel
theorem dX7_back_5 : decode cX7_back 5 = .ok (.aload_n 0, 1) := by decide +kernel
theorem dX7_back_6 : decode cX7_back 6 = .ok (.iload_n 1, 1) := by decide +kernel
theorem dX7_back_7 : decode cX7_back 7 = .ok (.invokevirtual 114, 3) := by decide +kernel
theorem dX7_back_10 : decode cX7_back 10 = .ok (.invokevirtual 104, 3) := by decide +kernel
theorem dX7_back_13 : decode cX7_back 13 = .ok (.ireturn, 1) := by decide +kernel
set_option maxRecDepth 20000 in
theorem ggX7_keep_X7_begins : GoodIn wsX7_keep wsX7_begins := goodIn_r _ [5, 6, 7, 47, 48, 49, 50, 51, 52, 53, 54, 55, 56, 57, 58, 59] (by decide +kernel) (by decide +kernel)
set_option maxRecDepth 20000 in
theorem gX7_keep_X7_begins : GoodIn wsX7_keep (wsV RX7 101 RX7 yX7_begins wsX7_begins) := goodIn_app (goodIn_of _ (by decide +kernel)) ggX7_keep_X7_begins
set_option maxRecDepth 20000 in
theorem ggX7_keep_X7_keeps : GoodIn wsX7_keep wsX7_keeps := goodIn_r _ [11, 12, 13, 14, 15, 16, 4, 17, 7, 18, 19, 20, 21, 22, 23, 24, 25, 26, 27, 28, 29, 30, 31, 32, 33, 34, 35, 36, 47, 48, 49, 50, 51, 52, 53, 54, 55, 56, 57, 58, 59] (by decide +kernel) (by decide +kernel)
set_option maxRecDepth 20000 in
theorem gX7_keep_X7_keeps : GoodIn wsX7_keep (wsV RX7 117 RX7 yX7_keeps wsX7_keeps) := goodIn_app (goodIn_of _ (by decide +kernel)) ggX7_keep_X7_keeps
set_option maxRecDepth 20000 in
theorem ggX7_keep_X7_acted : GoodIn wsX7_keep wsX7_acted := goodIn_r _ [40, 12, 41, 42, 6, 43, 44, 45, 4, 46, 7, 47, 48, 49, 50, 51, 52, 53, 54, 55, 56, 57, 58, 59] (by decide +kernel) (by decide +kernel)
set_option maxRecDepth 20000 in
theorem gX7_keep_X7_acted : GoodIn wsX7_keep (wsV RX7 104 RX7 yX7_acted wsX7_acted) := goodIn_app (goodIn_of _ (by decide +kernel)) ggX7_keep_X7_acted
theorem dX7_keep_0 : decode cX7_keep 0 = .ok (.aload_n 0, 1) := by decide +kernel
theorem dX7_keep_1 : decode cX7_keep 1 = .ok (.invokevirtual 101, 3) := by decide +kernel
theorem dX7_keep_4 : decode cX7_keep 4 = .ok (.aload_n 0, 1) := by decide +kernel
theorem dX7_keep_5 : decode cX7_keep 5 = .ok (.aload_n 0, 1) := by decide +kernel
theorem dX7_keep_6 : decode cX7_keep 6 = .ok (.iload_n 1, 1) := by decide +kernel
theorem dX7_keep_7 : decode cX7_keep 7 = .ok (.invokevirtual 117, 3) := by decide +kernel
theorem dX7_keep_10 : decode cX7_keep 10 = .ok (.invokevirtual 104, 3) := by decide +kernel
theorem dX7_keep_13 : decode cX7_keep 13 = .ok (.ireturn, 1) := by decide +kernel
set_option maxRecDepth 20000 in
theorem ggX7_sell_X7_begins : GoodIn wsX7_sell wsX7_begins := goodIn_r _ [5, 6, 7, 48, 49, 50, 51, 52, 53, 54, 55, 56, 57, 58, 59, 60] (by decide +kernel) (by decide +kernel)
set_option maxRecDepth 20000 in
theorem gX7_sell_X7_begins : GoodIn wsX7_sell (wsV RX7 101 RX7 yX7_begins wsX7_begins) := goodIn_app (goodIn_of _ (by decide +kernel)) ggX7_sell_X7_begins
set_option maxRecDepth 20000 in
theorem ggX7_sell_X7_sells : GoodIn wsX7_sell wsX7_sells := goodIn_r _ [11, 12, 13, 7, 14, 15, 16, 17, 4, 18, 19, 20, 21, 22, 23, 24, 25, 26, 27, 28, 29, 30, 31, 32, 33, 34, 35, 36, 37, 48, 49, 50, 51, 52, 53, 54, 55, 56, 57, 58, 59, 60] (by decide +kernel) (by decide +kernel)
set_option maxRecDepth 20000 in
theorem gX7_sell_X7_sells : GoodIn wsX7_sell (wsV RX7 120 RX7 yX7_sells wsX7_sells) := goodIn_app (goodIn_of _ (by decide +kernel)) ggX7_sell_X7_sells
set_option maxRecDepth 20000 in
theorem ggX7_sell_X7_acted : GoodIn wsX7_sell wsX7_acted := goodIn_r _ [41, 12, 42, 43, 6, 44, 45, 46, 4, 47, 7, 48, 49, 50, 51, 52, 53, 54, 55, 56, 57, 58, 59, 60] (by decide +kernel) (by decide +kernel)
set_option maxRecDepth 20000 in
theorem gX7_sell_X7_acted : GoodIn wsX7_sell (wsV RX7 104 RX7 yX7_acted wsX7_acted) := goodIn_app (goodIn_of _ (by decide +kernel)) ggX7_sell_X7_acted
theorem dX7_sell_0 : decode cX7_sell 0 = .ok (.aload_n 0, 1) := by decide +kernel
theorem dX7_sell_1 : decode cX7_sell 1 = .ok (.invokevirtual 101, 3) := by decide +kernel
theorem dX7_sell_4 : decode cX7_sell 4 = .ok (.aload_n 0, 1) := by decide +kernel
theorem dX7_sell_5 : decode cX7_sell 5 = .ok (.aload_n 0, 1) := by decide +kernel
theorem dX7_sell_6 : decode cX7_sell 6 = .ok (.iload_n 1, 1) := by decide +kernel
theorem dX7_sell_7 : decode cX7_sell 7 = .ok (.iload_n 2, 1) := by decide +kernel
theorem dX7_sell_8 : decode cX7_sell 8 = .ok (.invokevirtual 120, 3) := by decide +kernel
theorem dX7_sell_11 : decode cX7_sell 11 = .ok (.invokevirtual 104, 3) := by decide +kernel
theorem dX7_sell_14 : decode cX7_sell 14 = .ok (.ireturn, 1) := by decide +kernel
set_option maxRecDepth 20000 in
theorem ggX7_grade_X7_begins : GoodIn wsX7_grade wsX7_begins := goodIn_r _ [5, 6, 7, 65, 66, 67, 68, 69, 70, 71, 72, 73, 74, 75, 76, 77] (by decide +kernel) (by decide +kernel)
set_option maxRecDepth 20000 in
theorem gX7_grade_X7_begins : GoodIn wsX7_grade (wsV RX7 101 RX7 yX7_begins wsX7_begins) := goodIn_app (goodIn_of _ (by decide +kernel)) ggX7_grade_X7_begins
set_option maxRecDepth 20000 in
theorem ggX7_grade_X7_grades1 : GoodIn wsX7_grade wsX7_grades1 := goodIn_r _ [11, 12, 13, 14, 15, 16, 4, 17, 7, 18, 19, 20, 21, 22, 23, 24, 25, 26, 27, 28, 29, 30, 31, 32, 33, 34, 35, 36, 37, 38, 39, 40, 41, 42, 43, 44, 45, 46, 47, 48, 49, 50, 51, 52, 53, 54, 65, 66, 67, 68, 69, 70, 71, 72, 73, 74, 75, 76, 77] (by decide +kernel) (by decide +kernel)
set_option maxRecDepth 20000 in
theorem gX7_grade_X7_grades1 : GoodIn wsX7_grade (wsV RX7 123 RX7 yX7_grades1 wsX7_grades1) := goodIn_app (goodIn_of _ (by decide +kernel)) ggX7_grade_X7_grades1
set_option maxRecDepth 20000 in
theorem ggX7_grade_X7_acted : GoodIn wsX7_grade wsX7_acted := goodIn_r _ [58, 12, 59, 60, 6, 61, 62, 63, 4, 64, 7, 65, 66, 67, 68, 69, 70, 71, 72, 73, 74, 75, 76, 77] (by decide +kernel) (by decide +kernel)
set_option maxRecDepth 20000 in
theorem gX7_grade_X7_acted : GoodIn wsX7_grade (wsV RX7 104 RX7 yX7_acted wsX7_acted) := goodIn_app (goodIn_of _ (by decide +kernel)) ggX7_grade_X7_acted
theorem dX7_grade_0 : decode cX7_grade 0 = .ok (.aload_n 0, 1) := by decide +kernel
theorem dX7_grade_1 : decode cX7_grade 1 = .ok (.invokevirtual 101, 3) := by decide +kernel
theorem dX7_grade_4 : decode cX7_grade 4 = .ok (.aload_n 0, 1) := by decide +kernel
theorem dX7_grade_5 : decode cX7_grade 5 = .ok (.aload_n 0, 1) := by decide +kernel
theorem dX7_grade_6 : decode cX7_grade 6 = .ok (.iload_n 1, 1) := by decide +kernel
theorem dX7_grade_7 : decode cX7_grade 7 = .ok (.iload_n 2, 1) := by decide +kernel
theorem dX7_grade_8 : decode cX7_grade 8 = .ok (.iload_n 3, 1) := by decide +kernel
theorem dX7_grade_9 : decode cX7_grade 9 = .ok (.invokevirtual 123, 3) := by decide +kernel
theorem dX7_grade_12 : decode cX7_grade 12 = .ok (.invokevirtual 104, 3) := by decide +kernel
theorem dX7_grade_15 : decode cX7_grade 15 = .ok (.ireturn, 1) := by decide +kernel
set_option maxRecDepth 20000 in
theorem ggX7_pause_X7_begins : GoodIn wsX7_pause wsX7_begins := goodIn_r _ [5, 6, 7, 47, 48, 49, 50, 51, 52, 53, 54, 55, 56, 57, 58, 59] (by decide +kernel) (by decide +kernel)
set_option maxRecDepth 20000 in
theorem gX7_pause_X7_begins : GoodIn wsX7_pause (wsV RX7 101 RX7 yX7_begins wsX7_begins) := goodIn_app (goodIn_of _ (by decide +kernel)) ggX7_pause_X7_begins
set_option maxRecDepth 20000 in
theorem ggX7_pause_X7_goes : GoodIn wsX7_pause wsX7_goes := goodIn_r _ [11, 12, 7, 13, 14, 15, 4, 16, 17, 18, 19, 20, 21, 22, 23, 24, 25, 26, 27, 28, 29, 30, 31, 32, 33, 34, 35, 36, 47, 48, 49, 50, 51, 52, 53, 54, 55, 56, 57, 58, 59] (by decide +kernel) (by decide +kernel)
set_option maxRecDepth 20000 in
theorem gX7_pause_X7_goes : GoodIn wsX7_pause (wsV RX7 126 RX7 yX7_goes wsX7_goes) := goodIn_app (goodIn_of _ (by decide +kernel)) ggX7_pause_X7_goes
set_option maxRecDepth 20000 in
theorem ggX7_pause_X7_acted : GoodIn wsX7_pause wsX7_acted := goodIn_r _ [40, 12, 41, 42, 6, 43, 44, 45, 4, 46, 7, 47, 48, 49, 50, 51, 52, 53, 54, 55, 56, 57, 58, 59] (by decide +kernel) (by decide +kernel)
set_option maxRecDepth 20000 in
theorem gX7_pause_X7_acted : GoodIn wsX7_pause (wsV RX7 104 RX7 yX7_acted wsX7_acted) := goodIn_app (goodIn_of _ (by decide +kernel)) ggX7_pause_X7_acted
theorem dX7_pause_0 : decode cX7_pause 0 = .ok (.aload_n 0, 1) := by decide +kernel
theorem dX7_pause_1 : decode cX7_pause 1 = .ok (.invokevirtual 101, 3) := by decide +kernel
theorem dX7_pause_4 : decode cX7_pause 4 = .ok (.aload_n 0, 1) := by decide +kernel
theorem dX7_pause_5 : decode cX7_pause 5 = .ok (.aload_n 0, 1) := by decide +kernel
theorem dX7_pause_6 : decode cX7_pause 6 = .ok (.iload_n 1, 1) := by decide +kernel
theorem dX7_pause_7 : decode cX7_pause 7 = .ok (.invokevirtual 126, 3) := by decide +kernel
theorem dX7_pause_10 : decode cX7_pause 10 = .ok (.invokevirtual 104, 3) := by decide +kernel
theorem dX7_pause_13 : decode cX7_pause 13 = .ok (.ireturn, 1) := by decide +kernel
set_option maxRecDepth 20000 in
theorem ggX7_set_X7_begins : GoodIn wsX7_set wsX7_begins := goodIn_r _ [7, 8, 2, 22, 23, 24, 25, 26, 27, 28, 29, 30, 31, 32, 33, 34] (by decide +kernel) (by decide +kernel)
set_option maxRecDepth 20000 in
theorem gX7_set_X7_begins : GoodIn wsX7_set (wsV RX7 101 RX7 yX7_begins wsX7_begins) := goodIn_app (goodIn_of _ (by decide +kernel)) ggX7_set_X7_begins
set_option maxRecDepth 20000 in
theorem ggX7_set_X7_in : GoodIn wsX7_set wsX7_in := goodIn_r _ [11] (by decide +kernel) (by decide +kernel)
set_option maxRecDepth 20000 in
theorem gX7_set_X7_in : GoodIn wsX7_set (va_wsS RX7 36 yX7_in wsX7_in) := goodIn_app (goodIn_of _ (by decide +kernel)) ggX7_set_X7_in
set_option maxRecDepth 20000 in
theorem ggX7_set_X7_acted : GoodIn wsX7_set wsX7_acted := goodIn_r _ [15, 1, 16, 17, 8, 18, 19, 20, 6, 21, 2, 22, 23, 24, 25, 26, 27, 28, 29, 30, 31, 32, 33, 34] (by decide +kernel) (by decide +kernel)
set_option maxRecDepth 20000 in
theorem gX7_set_X7_acted : GoodIn wsX7_set (wsV RX7 104 RX7 yX7_acted wsX7_acted) := goodIn_app (goodIn_of _ (by decide +kernel)) ggX7_set_X7_acted
theorem dX7_set_0 : decode cX7_set 0 = .ok (.aload_n 0, 1) := by decide +kernel
theorem dX7_set_1 : decode cX7_set 1 = .ok (.invokevirtual 101, 3) := by decide +kernel
theorem dX7_set_4 : decode cX7_set 4 = .ok (.iload_n 1, 1) := by decide +kernel
theorem dX7_set_5 : decode cX7_set 5 = .ok (.iconst 0, 1) := by decide +kernel
theorem dX7_set_6 : decode cX7_set 6 = .ok (.iconst 1, 1) := by decide +kernel
theorem dX7_set_7 : decode cX7_set 7 = .ok (.invokestatic 36, 3) := by decide +kernel
theorem dX7_set_10 : decode cX7_set 10 = .ok (.ifCond .eq 22, 3) := by decide +kernel
theorem dX7_set_13 : decode cX7_set 13 = .ok (.iload_n 2, 1) := by decide +kernel
theorem dX7_set_14 : decode cX7_set 14 = .ok (.iconst 0, 1) := by decide +kernel
theorem dX7_set_15 : decode cX7_set 15 = .ok (.iload_n 1, 1) := by decide +kernel
theorem dX7_set_16 : decode cX7_set 16 = .ok (.ifCond .ne 8, 3) := by decide +kernel
theorem dX7_set_19 : decode cX7_set 19 = .ok (.bipush 30, 2) := by decide +kernel
theorem dX7_set_21 : decode cX7_set 21 = .ok (.goto 5, 3) := by decide +kernel
theorem dX7_set_24 : decode cX7_set 24 = .ok (.bipush 100, 2) := by decide +kernel
theorem dX7_set_26 : decode cX7_set 26 = .ok (.invokestatic 36, 3) := by decide +kernel
theorem dX7_set_29 : decode cX7_set 29 = .ok (.ifCond .ne 6, 3) := by decide +kernel
theorem dX7_set_32 : decode cX7_set 32 = .ok (.ldc 28, 2) := by decide +kernel
theorem dX7_set_34 : decode cX7_set 34 = .ok (.ireturn, 1) := by decide +kernel
theorem dX7_set_35 : decode cX7_set 35 = .ok (.aload_n 0, 1) := by decide +kernel
theorem dX7_set_36 : decode cX7_set 36 = .ok (.getfield 7, 3) := by decide +kernel
theorem dX7_set_39 : decode cX7_set 39 = .ok (.bipush 6, 2) := by decide +kernel
theorem dX7_set_41 : decode cX7_set 41 = .ok (.iload_n 1, 1) := by decide +kernel
theorem dX7_set_42 : decode cX7_set 42 = .ok (.iadd, 1) := by decide +kernel
theorem dX7_set_43 : decode cX7_set 43 = .ok (.iaload, 1) := by decide +kernel
theorem dX7_set_44 : decode cX7_set 44 = .ok (.istore_n 3, 1) := by decide +kernel
theorem dX7_set_45 : decode cX7_set 45 = .ok (.aload_n 0, 1) := by decide +kernel
theorem dX7_set_46 : decode cX7_set 46 = .ok (.getfield 7, 3) := by decide +kernel
theorem dX7_set_49 : decode cX7_set 49 = .ok (.bipush 6, 2) := by decide +kernel
theorem dX7_set_51 : decode cX7_set 51 = .ok (.iload_n 1, 1) := by decide +kernel
theorem dX7_set_52 : decode cX7_set 52 = .ok (.iadd, 1) := by decide +kernel
theorem dX7_set_53 : decode cX7_set 53 = .ok (.iload_n 2, 1) := by decide +kernel
theorem dX7_set_54 : decode cX7_set 54 = .ok (.iastore, 1) := by decide +kernel
theorem dX7_set_55 : decode cX7_set 55 = .ok (.aload_n 0, 1) := by decide +kernel
theorem dX7_set_56 : decode cX7_set 56 = .ok (.iload_n 3, 1) := by decide +kernel
theorem dX7_set_57 : decode cX7_set 57 = .ok (.invokevirtual 104, 3) := by decide +kernel
theorem dX7_set_60 : decode cX7_set 60 = .ok (.ireturn, 1) := by decide +kernel
theorem dX7_orNone_0 : decode cX7_orNone 0 = .ok (.iload_n 0, 1) := by decide +kernel
theorem dX7_orNone_1 : decode cX7_orNone 1 = .ok (.ifCond .ge 8, 3) := by decide +kernel
theorem dX7_orNone_4 : decode cX7_orNone 4 = .ok (.ldc 129, 2) := by decide +kernel
theorem dX7_orNone_6 : decode cX7_orNone 6 = .ok (.goto 4, 3) := by decide +kernel
theorem dX7_orNone_9 : decode cX7_orNone 9 = .ok (.iload_n 0, 1) := by decide +kernel
theorem dX7_orNone_10 : decode cX7_orNone 10 = .ok (.ireturn, 1) := by decide +kernel
set_option maxRecDepth 20000 in
theorem ggX7_stoneOf_X7_isStone : GoodIn wsX7_stoneOf wsX7_isStone := goodIn_r _ [7, 8, 9, 10, 6, 11, 42, 43, 44, 45, 46, 47, 48, 49, 50, 51, 52, 53, 54] (by decide +kernel) (by decide +kernel)
set_option maxRecDepth 20000 in
theorem gX7_stoneOf_X7_isStone : GoodIn wsX7_stoneOf (wsV RX7 75 RX7 yX7_isStone wsX7_isStone) := goodIn_app (goodIn_of _ (by decide +kernel)) ggX7_stoneOf_X7_isStone
set_option maxRecDepth 20000 in
theorem ggX7_stoneOf_X7_in : GoodIn wsX7_stoneOf wsX7_in := goodIn_r _ [11] (by decide +kernel) (by decide +kernel)
set_option maxRecDepth 20000 in
theorem gX7_stoneOf_X7_in : GoodIn wsX7_stoneOf (va_wsS RX7 36 yX7_in wsX7_in) := goodIn_app (goodIn_of _ (by decide +kernel)) ggX7_stoneOf_X7_in
set_option maxRecDepth 20000 in
theorem ggX7_stoneOf_X7_sieve : GoodIn wsX7_stoneOf wsX7_sieve := goodIn_r _ [15, 16, 17, 18, 6, 19, 8, 42, 43, 44, 45, 46, 47, 48, 49, 50, 51, 52, 53, 54] (by decide +kernel) (by decide +kernel)
set_option maxRecDepth 20000 in
theorem gX7_stoneOf_X7_sieve : GoodIn wsX7_stoneOf (wsV RX7 48 RX7 yX7_sieve wsX7_sieve) := goodIn_app (goodIn_of _ (by decide +kernel)) ggX7_stoneOf_X7_sieve
set_option maxRecDepth 20000 in
theorem ggX7_stoneOf_X7_ofStone : GoodIn wsX7_stoneOf wsX7_ofStone := goodIn_r _ [19, 8, 42, 43, 44, 45, 46, 47, 48, 49, 50, 51, 52, 53, 54] (by decide +kernel) (by decide +kernel)
set_option maxRecDepth 20000 in
theorem gX7_stoneOf_X7_ofStone : GoodIn wsX7_stoneOf (wsV RX7 40 RX7 yX7_ofStone wsX7_ofStone) := goodIn_app (goodIn_of _ (by decide +kernel)) ggX7_stoneOf_X7_ofStone
set_option maxRecDepth 20000 in
theorem ggX7_stoneOf_X7_orNone : GoodIn wsX7_stoneOf wsX7_orNone := goodIn_r _ [22, 2] (by decide +kernel) (by decide +kernel)
set_option maxRecDepth 20000 in
theorem gX7_stoneOf_X7_orNone : GoodIn wsX7_stoneOf (va_wsS RX7 130 yX7_orNone wsX7_orNone) := goodIn_app (goodIn_of _ (by decide +kernel)) ggX7_stoneOf_X7_orNone
set_option maxRecDepth 20000 in
theorem ggX7_stoneOf_X7_price : GoodIn wsX7_stoneOf wsX7_price := goodIn_r _ [26, 12, 13, 14, 6, 15, 16, 17, 18, 19, 8, 27, 28, 29, 30, 31, 32, 33, 42, 43, 44, 45, 46, 47, 48, 49, 50, 51, 52, 53, 54] (by decide +kernel) (by decide +kernel)
set_option maxRecDepth 20000 in
theorem gX7_stoneOf_X7_price : GoodIn wsX7_stoneOf (wsV RX7 59 RX7 yX7_price wsX7_price) := goodIn_app (goodIn_of _ (by decide +kernel)) ggX7_stoneOf_X7_price
set_option maxRecDepth 20000 in
theorem ggX7_stoneOf_X7_isOut : GoodIn wsX7_stoneOf wsX7_isOut := goodIn_r _ [37, 16, 17, 18, 6, 19, 8, 42, 43, 44, 45, 46, 47, 48, 49, 50, 51, 52, 53, 54] (by decide +kernel) (by decide +kernel)
set_option maxRecDepth 20000 in
theorem gX7_stoneOf_X7_isOut : GoodIn wsX7_stoneOf (wsV RX7 55 RX7 yX7_isOut wsX7_isOut) := goodIn_app (goodIn_of _ (by decide +kernel)) ggX7_stoneOf_X7_isOut
set_option maxRecDepth 20000 in
theorem ggX7_stoneOf_X7_isSold : GoodIn wsX7_stoneOf wsX7_isSold := goodIn_r _ [41, 16, 17, 18, 6, 19, 8, 42, 43, 44, 45, 46, 47, 48, 49, 50, 51, 52, 53, 54] (by decide +kernel) (by decide +kernel)
set_option maxRecDepth 20000 in
theorem gX7_stoneOf_X7_isSold : GoodIn wsX7_stoneOf (wsV RX7 88 RX7 yX7_isSold wsX7_isSold) := goodIn_app (goodIn_of _ (by decide +kernel)) ggX7_stoneOf_X7_isSold
theorem dX7_stoneOf_0 : decode cX7_stoneOf 0 = .ok (.aload_n 0, 1) := by decide +kernel
theorem dX7_stoneOf_1 : decode cX7_stoneOf 1 = .ok (.iload_n 1, 1) := by decide +kernel
theorem dX7_stoneOf_2 : decode cX7_stoneOf 2 = .ok (.invokevirtual 75, 3) := by decide +kernel
theorem dX7_stoneOf_5 : decode cX7_stoneOf 5 = .ok (.ifCond .eq 13, 3) := by decide +kernel
theorem dX7_stoneOf_8 : decode cX7_stoneOf 8 = .ok (.iload_n 2, 1) := by decide +kernel
theorem dX7_stoneOf_9 : decode cX7_stoneOf 9 = .ok (.iconst 0, 1) := by decide +kernel
theorem dX7_stoneOf_10 : decode cX7_stoneOf 10 = .ok (.bipush 10, 2) := by decide +kernel
theorem dX7_stoneOf_12 : decode cX7_stoneOf 12 = .ok (.invokestatic 36, 3) := by decide +kernel
theorem dX7_stoneOf_15 : decode cX7_stoneOf 15 = .ok (.ifCond .ne 6, 3) := by decide +kernel
theorem dX7_stoneOf_18 : decode cX7_stoneOf 18 = .ok (.ldc 28, 2) := by decide +kernel
theorem dX7_stoneOf_20 : decode cX7_stoneOf 20 = .ok (.ireturn, 1) := by decide +kernel
theorem dX7_stoneOf_21 : decode cX7_stoneOf 21 = .ok (.iload_n 2, 1) := by decide +kernel
theorem dX7_stoneOf_22 : decode cX7_stoneOf 22 = .ok (.tableswitch 133 3 10 #[46, 52, 52, 64, 73, 83, 104, 125], 46) := by decide +kernel
theorem dX7_stoneOf_68 : decode cX7_stoneOf 68 = .ok (.aload_n 0, 1) := by decide +kernel
theorem dX7_stoneOf_69 : decode cX7_stoneOf 69 = .ok (.iload_n 1, 1) := by decide +kernel
theorem dX7_stoneOf_70 : decode cX7_stoneOf 70 = .ok (.invokevirtual 48, 3) := by decide +kernel
theorem dX7_stoneOf_73 : decode cX7_stoneOf 73 = .ok (.ireturn, 1) := by decide +kernel
theorem dX7_stoneOf_74 : decode cX7_stoneOf 74 = .ok (.aload_n 0, 1) := by decide +kernel
theorem dX7_stoneOf_75 : decode cX7_stoneOf 75 = .ok (.iload_n 1, 1) := by decide +kernel
theorem dX7_stoneOf_76 : decode cX7_stoneOf 76 = .ok (.iload_n 2, 1) := by decide +kernel
theorem dX7_stoneOf_77 : decode cX7_stoneOf 77 = .ok (.iconst 1, 1) := by decide +kernel
theorem dX7_stoneOf_78 : decode cX7_stoneOf 78 = .ok (.isub, 1) := by decide +kernel
theorem dX7_stoneOf_79 : decode cX7_stoneOf 79 = .ok (.invokevirtual 40, 3) := by decide +kernel
theorem dX7_stoneOf_82 : decode cX7_stoneOf 82 = .ok (.invokestatic 130, 3) := by decide +kernel
theorem dX7_stoneOf_85 : decode cX7_stoneOf 85 = .ok (.ireturn, 1) := by decide +kernel
theorem dX7_stoneOf_86 : decode cX7_stoneOf 86 = .ok (.aload_n 0, 1) := by decide +kernel
theorem dX7_stoneOf_87 : decode cX7_stoneOf 87 = .ok (.iload_n 1, 1) := by decide +kernel
theorem dX7_stoneOf_88 : decode cX7_stoneOf 88 = .ok (.invokevirtual 59, 3) := by decide +kernel
theorem dX7_stoneOf_91 : decode cX7_stoneOf 91 = .ok (.invokestatic 130, 3) := by decide +kernel
theorem dX7_stoneOf_94 : decode cX7_stoneOf 94 = .ok (.ireturn, 1) := by decide +kernel
theorem dX7_stoneOf_95 : decode cX7_stoneOf 95 = .ok (.aload_n 0, 1) := by decide +kernel
theorem dX7_stoneOf_96 : decode cX7_stoneOf 96 = .ok (.iload_n 1, 1) := by decide +kernel
theorem dX7_stoneOf_97 : decode cX7_stoneOf 97 = .ok (.iconst 5, 1) := by decide +kernel
theorem dX7_stoneOf_98 : decode cX7_stoneOf 98 = .ok (.invokevirtual 40, 3) := by decide +kernel
theorem dX7_stoneOf_101 : decode cX7_stoneOf 101 = .ok (.invokestatic 130, 3) := by decide +kernel
theorem dX7_stoneOf_104 : decode cX7_stoneOf 104 = .ok (.ireturn, 1) := by decide +kernel
theorem dX7_stoneOf_105 : decode cX7_stoneOf 105 = .ok (.aload_n 0, 1) := by decide +kernel
theorem dX7_stoneOf_106 : decode cX7_stoneOf 106 = .ok (.iload_n 1, 1) := by decide +kernel
theorem dX7_stoneOf_107 : decode cX7_stoneOf 107 = .ok (.invokevirtual 55, 3) := by decide +kernel
theorem dX7_stoneOf_110 : decode cX7_stoneOf 110 = .ok (.ifCond .eq 13, 3) := by decide +kernel
theorem dX7_stoneOf_113 : decode cX7_stoneOf 113 = .ok (.aload_n 0, 1) := by decide +kernel
theorem dX7_stoneOf_114 : decode cX7_stoneOf 114 = .ok (.iload_n 1, 1) := by decide +kernel
theorem dX7_stoneOf_115 : decode cX7_stoneOf 115 = .ok (.bipush 6, 2) := by decide +kernel
theorem dX7_stoneOf_117 : decode cX7_stoneOf 117 = .ok (.invokevirtual 40, 3) := by decide +kernel
theorem dX7_stoneOf_120 : decode cX7_stoneOf 120 = .ok (.goto 5, 3) := by decide +kernel
theorem dX7_stoneOf_123 : decode cX7_stoneOf 123 = .ok (.ldc 129, 2) := by decide +kernel
theorem dX7_stoneOf_125 : decode cX7_stoneOf 125 = .ok (.ireturn, 1) := by decide +kernel
theorem dX7_stoneOf_126 : decode cX7_stoneOf 126 = .ok (.aload_n 0, 1) := by decide +kernel
theorem dX7_stoneOf_127 : decode cX7_stoneOf 127 = .ok (.iload_n 1, 1) := by decide +kernel
theorem dX7_stoneOf_128 : decode cX7_stoneOf 128 = .ok (.invokevirtual 88, 3) := by decide +kernel
theorem dX7_stoneOf_131 : decode cX7_stoneOf 131 = .ok (.ifCond .eq 13, 3) := by decide +kernel
theorem dX7_stoneOf_134 : decode cX7_stoneOf 134 = .ok (.aload_n 0, 1) := by decide +kernel
theorem dX7_stoneOf_135 : decode cX7_stoneOf 135 = .ok (.iload_n 1, 1) := by decide +kernel
theorem dX7_stoneOf_136 : decode cX7_stoneOf 136 = .ok (.bipush 7, 2) := by decide +kernel
theorem dX7_stoneOf_138 : decode cX7_stoneOf 138 = .ok (.invokevirtual 40, 3) := by decide +kernel
theorem dX7_stoneOf_141 : decode cX7_stoneOf 141 = .ok (.goto 5, 3) := by decide +kernel
theorem dX7_stoneOf_144 : decode cX7_stoneOf 144 = .ok (.ldc 129, 2) := by decide +kernel
theorem dX7_stoneOf_146 : decode cX7_stoneOf 146 = .ok (.ireturn, 1) := by decide +kernel
theorem dX7_stoneOf_147 : decode cX7_stoneOf 147 = .ok (.aload_n 0, 1) := by decide +kernel
theorem dX7_stoneOf_148 : decode cX7_stoneOf 148 = .ok (.iload_n 1, 1) := by decide +kernel
theorem dX7_stoneOf_149 : decode cX7_stoneOf 149 = .ok (.bipush 8, 2) := by decide +kernel
theorem dX7_stoneOf_151 : decode cX7_stoneOf 151 = .ok (.invokevirtual 40, 3) := by decide +kernel
theorem dX7_stoneOf_154 : decode cX7_stoneOf 154 = .ok (.ireturn, 1) := by decide +kernel
theorem dX7_stoneOf_155 : decode cX7_stoneOf 155 = .ok (.aload_n 0, 1) := by decide +kernel
theorem dX7_stoneOf_156 : decode cX7_stoneOf 156 = .ok (.iload_n 1, 1) := by decide +kernel
theorem dX7_stoneOf_157 : decode cX7_stoneOf 157 = .ok (.iload_n 2, 1) := by decide +kernel
theorem dX7_stoneOf_158 : decode cX7_stoneOf 158 = .ok (.invokevirtual 40, 3) := by decide +kernel
theorem dX7_stoneOf_161 : decode cX7_stoneOf 161 = .ok (.ireturn, 1) := by decide +kernel
set_option maxRecDepth 20000 in
theorem ggX7_setOf_X7_ofStone : GoodIn wsX7_setOf wsX7_ofStone := goodIn_r _ [6, 1, 7, 8, 9, 10, 11, 12, 13, 14, 15, 16, 17, 18, 19] (by decide +kernel) (by decide +kernel)
set_option maxRecDepth 20000 in
theorem gX7_setOf_X7_ofStone : GoodIn wsX7_setOf (wsV RX7 40 RX7 yX7_ofStone wsX7_ofStone) := goodIn_app (goodIn_of _ (by decide +kernel)) ggX7_setOf_X7_ofStone
theorem dX7_setOf_0 : decode cX7_setOf 0 = .ok (.iconst 0, 1) := by decide +kernel
theorem dX7_setOf_1 : decode cX7_setOf 1 = .ok (.istore_n 3, 1) := by decide +kernel
theorem dX7_setOf_2 : decode cX7_setOf 2 = .ok (.iconst 0, 1) := by decide +kernel
theorem dX7_setOf_3 : decode cX7_setOf 3 = .ok (.istore 4, 2) := by decide +kernel
theorem dX7_setOf_5 : decode cX7_setOf 5 = .ok (.iload 4, 2) := by decide +kernel
theorem dX7_setOf_7 : decode cX7_setOf 7 = .ok (.aload_n 0, 1) := by decide +kernel
theorem dX7_setOf_8 : decode cX7_setOf 8 = .ok (.getfield 7, 3) := by decide +kernel
theorem dX7_setOf_11 : decode cX7_setOf 11 = .ok (.iconst 1, 1) := by decide +kernel
theorem dX7_setOf_12 : decode cX7_setOf 12 = .ok (.iaload, 1) := by decide +kernel
theorem dX7_setOf_13 : decode cX7_setOf 13 = .ok (.if_icmp .ge 31, 3) := by decide +kernel
theorem dX7_setOf_16 : decode cX7_setOf 16 = .ok (.iload_n 3, 1) := by decide +kernel
theorem dX7_setOf_17 : decode cX7_setOf 17 = .ok (.aload_n 0, 1) := by decide +kernel
theorem dX7_setOf_18 : decode cX7_setOf 18 = .ok (.iload 4, 2) := by decide +kernel
theorem dX7_setOf_20 : decode cX7_setOf 20 = .ok (.iload_n 2, 1) := by decide +kernel
theorem dX7_setOf_21 : decode cX7_setOf 21 = .ok (.invokevirtual 40, 3) := by decide +kernel
theorem dX7_setOf_24 : decode cX7_setOf 24 = .ok (.iload_n 1, 1) := by decide +kernel
theorem dX7_setOf_25 : decode cX7_setOf 25 = .ok (.if_icmp .ne 10, 3) := by decide +kernel
theorem dX7_setOf_28 : decode cX7_setOf 28 = .ok (.iconst 1, 1) := by decide +kernel
theorem dX7_setOf_29 : decode cX7_setOf 29 = .ok (.iload 4, 2) := by decide +kernel
theorem dX7_setOf_31 : decode cX7_setOf 31 = .ok (.ishl, 1) := by decide +kernel
theorem dX7_setOf_32 : decode cX7_setOf 32 = .ok (.goto 4, 3) := by decide +kernel
theorem dX7_setOf_35 : decode cX7_setOf 35 = .ok (.iconst 0, 1) := by decide +kernel
theorem dX7_setOf_36 : decode cX7_setOf 36 = .ok (.ior, 1) := by decide +kernel
theorem dX7_setOf_37 : decode cX7_setOf 37 = .ok (.istore_n 3, 1) := by decide +kernel
theorem dX7_setOf_38 : decode cX7_setOf 38 = .ok (.iinc 4 1, 3) := by decide +kernel
theorem dX7_setOf_41 : decode cX7_setOf 41 = .ok (.goto (-36), 3) := by decide +kernel
theorem dX7_setOf_44 : decode cX7_setOf 44 = .ok (.iload_n 3, 1) := by decide +kernel
theorem dX7_setOf_45 : decode cX7_setOf 45 = .ok (.ireturn, 1) := by decide +kernel
set_option maxRecDepth 20000 in
theorem ggX7_worth_X7_price : GoodIn wsX7_worth wsX7_price := goodIn_r _ [6, 7, 8, 9, 5, 10, 11, 12, 13, 14, 1, 15, 16, 17, 18, 19, 20, 21, 22, 23, 24, 25, 26, 27, 28, 29, 30, 31, 32, 33, 34] (by decide +kernel) (by decide +kernel)
set_option maxRecDepth 20000 in
theorem gX7_worth_X7_price : GoodIn wsX7_worth (wsV RX7 59 RX7 yX7_price wsX7_price) := goodIn_app (goodIn_of _ (by decide +kernel)) ggX7_worth_X7_price
set_option maxRecDepth 20000 in
theorem ggX7_worth_X7_ofStone : GoodIn wsX7_worth wsX7_ofStone := goodIn_r _ [14, 1, 22, 23, 24, 25, 26, 27, 28, 29, 30, 31, 32, 33, 34] (by decide +kernel) (by decide +kernel)
set_option maxRecDepth 20000 in
theorem gX7_worth_X7_ofStone : GoodIn wsX7_worth (wsV RX7 40 RX7 yX7_ofStone wsX7_ofStone) := goodIn_app (goodIn_of _ (by decide +kernel)) ggX7_worth_X7_ofStone
theorem dX7_worth_0 : decode cX7_worth 0 = .ok (.iconst 0, 1) := by decide +kernel
theorem dX7_worth_1 : decode cX7_worth 1 = .ok (.istore_n 2, 1) := by decide +kernel
theorem dX7_worth_2 : decode cX7_worth 2 = .ok (.iconst 0, 1) := by decide +kernel
theorem dX7_worth_3 : decode cX7_worth 3 = .ok (.istore_n 3, 1) := by decide +kernel
theorem dX7_worth_4 : decode cX7_worth 4 = .ok (.iload_n 3, 1) := by decide +kernel
theorem dX7_worth_5 : decode cX7_worth 5 = .ok (.aload_n 0, 1) := by decide +kernel
theorem dX7_worth_6 : decode cX7_worth 6 = .ok (.getfield 7, 3) := by decide +kernel
theorem dX7_worth_9 : decode cX7_worth 9 = .ok (.iconst 1, 1) := by decide +kernel
theorem dX7_worth_10 : decode cX7_worth 10 = .ok (.iaload, 1) := by decide +kernel
theorem dX7_worth_11 : decode cX7_worth 11 = .ok (.if_icmp .ge 40, 3) := by decide +kernel
theorem dX7_worth_14 : decode cX7_worth 14 = .ok (.aload_n 0, 1) := by decide +kernel
theorem dX7_worth_15 : decode cX7_worth 15 = .ok (.iload_n 3, 1) := by decide +kernel
theorem dX7_worth_16 : decode cX7_worth 16 = .ok (.invokevirtual 59, 3) := by decide +kernel
theorem dX7_worth_19 : decode cX7_worth 19 = .ok (.istore 4, 2) := by decide +kernel
theorem dX7_worth_21 : decode cX7_worth 21 = .ok (.iload_n 2, 1) := by decide +kernel
theorem dX7_worth_22 : decode cX7_worth 22 = .ok (.aload_n 0, 1) := by decide +kernel
theorem dX7_worth_23 : decode cX7_worth 23 = .ok (.iload_n 3, 1) := by decide +kernel
theorem dX7_worth_24 : decode cX7_worth 24 = .ok (.iconst 3, 1) := by decide +kernel
theorem dX7_worth_25 : decode cX7_worth 25 = .ok (.invokevirtual 40, 3) := by decide +kernel
theorem dX7_worth_28 : decode cX7_worth 28 = .ok (.iload_n 1, 1) := by decide +kernel
theorem dX7_worth_29 : decode cX7_worth 29 = .ok (.if_icmp .ne 13, 3) := by decide +kernel
theorem dX7_worth_32 : decode cX7_worth 32 = .ok (.iload 4, 2) := by decide +kernel
theorem dX7_worth_34 : decode cX7_worth 34 = .ok (.ifCond .le 8, 3) := by decide +kernel
theorem dX7_worth_37 : decode cX7_worth 37 = .ok (.iload 4, 2) := by decide +kernel
theorem dX7_worth_39 : decode cX7_worth 39 = .ok (.goto 4, 3) := by decide +kernel
theorem dX7_worth_42 : decode cX7_worth 42 = .ok (.iconst 0, 1) := by decide +kernel
theorem dX7_worth_43 : decode cX7_worth 43 = .ok (.iadd, 1) := by decide +kernel
theorem dX7_worth_44 : decode cX7_worth 44 = .ok (.istore_n 2, 1) := by decide +kernel
theorem dX7_worth_45 : decode cX7_worth 45 = .ok (.iinc 3 1, 3) := by decide +kernel
theorem dX7_worth_48 : decode cX7_worth 48 = .ok (.goto (-44), 3) := by decide +kernel
theorem dX7_worth_51 : decode cX7_worth 51 = .ok (.iload_n 2, 1) := by decide +kernel
theorem dX7_worth_52 : decode cX7_worth 52 = .ok (.ireturn, 1) := by decide +kernel
set_option maxRecDepth 20000 in
theorem ggX7_askedBy_X7_isOut : GoodIn wsX7_askedBy wsX7_isOut := goodIn_r _ [6, 7, 8, 9, 5, 10, 1, 15, 16, 17, 18, 19, 20, 21, 22, 23, 24, 25, 26, 27] (by decide +kernel) (by decide +kernel)
set_option maxRecDepth 20000 in
theorem gX7_askedBy_X7_isOut : GoodIn wsX7_askedBy (wsV RX7 55 RX7 yX7_isOut wsX7_isOut) := goodIn_app (goodIn_of _ (by decide +kernel)) ggX7_askedBy_X7_isOut
set_option maxRecDepth 20000 in
theorem ggX7_askedBy_X7_ofStone : GoodIn wsX7_askedBy wsX7_ofStone := goodIn_r _ [10, 1, 15, 16, 17, 18, 19, 20, 21, 22, 23, 24, 25, 26, 27] (by decide +kernel) (by decide +kernel)
set_option maxRecDepth 20000 in
theorem gX7_askedBy_X7_ofStone : GoodIn wsX7_askedBy (wsV RX7 40 RX7 yX7_ofStone wsX7_ofStone) := goodIn_app (goodIn_of _ (by decide +kernel)) ggX7_askedBy_X7_ofStone
set_option maxRecDepth 20000 in
theorem ggX7_askedBy_X7_ofMemo : GoodIn wsX7_askedBy wsX7_ofMemo := goodIn_r _ [14, 1, 15, 16, 17, 18, 19, 20, 21, 22, 23, 24, 25, 26, 27] (by decide +kernel) (by decide +kernel)
set_option maxRecDepth 20000 in
theorem gX7_askedBy_X7_ofMemo : GoodIn wsX7_askedBy (wsV RX7 95 RX7 yX7_ofMemo wsX7_ofMemo) := goodIn_app (goodIn_of _ (by decide +kernel)) ggX7_askedBy_X7_ofMemo
theorem dX7_askedBy_0 : decode cX7_askedBy 0 = .ok (.iconst 0, 1) := by decide +kernel
theorem dX7_askedBy_1 : decode cX7_askedBy 1 = .ok (.istore_n 3, 1) := by decide +kernel
theorem dX7_askedBy_2 : decode cX7_askedBy 2 = .ok (.iconst 0, 1) := by decide +kernel
theorem dX7_askedBy_3 : decode cX7_askedBy 3 = .ok (.istore 4, 2) := by decide +kernel
theorem dX7_askedBy_5 : decode cX7_askedBy 5 = .ok (.iload 4, 2) := by decide +kernel
theorem dX7_askedBy_7 : decode cX7_askedBy 7 = .ok (.aload_n 0, 1) := by decide +kernel
theorem dX7_askedBy_8 : decode cX7_askedBy 8 = .ok (.getfield 7, 3) := by decide +kernel
theorem dX7_askedBy_11 : decode cX7_askedBy 11 = .ok (.iconst 1, 1) := by decide +kernel
theorem dX7_askedBy_12 : decode cX7_askedBy 12 = .ok (.iaload, 1) := by decide +kernel
theorem dX7_askedBy_13 : decode cX7_askedBy 13 = .ok (.if_icmp .ge 49, 3) := by decide +kernel
theorem dX7_askedBy_16 : decode cX7_askedBy 16 = .ok (.iload_n 3, 1) := by decide +kernel
theorem dX7_askedBy_17 : decode cX7_askedBy 17 = .ok (.aload_n 0, 1) := by decide +kernel
theorem dX7_askedBy_18 : decode cX7_askedBy 18 = .ok (.iload 4, 2) := by decide +kernel
theorem dX7_askedBy_20 : decode cX7_askedBy 20 = .ok (.invokevirtual 55, 3) := by decide +kernel
theorem dX7_askedBy_23 : decode cX7_askedBy 23 = .ok (.ifCond .eq 30, 3) := by decide +kernel
theorem dX7_askedBy_26 : decode cX7_askedBy 26 = .ok (.aload_n 0, 1) := by decide +kernel
theorem dX7_askedBy_27 : decode cX7_askedBy 27 = .ok (.aload_n 0, 1) := by decide +kernel
theorem dX7_askedBy_28 : decode cX7_askedBy 28 = .ok (.iload 4, 2) := by decide +kernel
theorem dX7_askedBy_30 : decode cX7_askedBy 30 = .ok (.iconst 5, 1) := by decide +kernel
theorem dX7_askedBy_31 : decode cX7_askedBy 31 = .ok (.invokevirtual 40, 3) := by decide +kernel
theorem dX7_askedBy_34 : decode cX7_askedBy 34 = .ok (.iload_n 2, 1) := by decide +kernel
theorem dX7_askedBy_35 : decode cX7_askedBy 35 = .ok (.invokevirtual 95, 3) := by decide +kernel
theorem dX7_askedBy_38 : decode cX7_askedBy 38 = .ok (.iload_n 1, 1) := by decide +kernel
theorem dX7_askedBy_39 : decode cX7_askedBy 39 = .ok (.if_icmp .ne 14, 3) := by decide +kernel
theorem dX7_askedBy_42 : decode cX7_askedBy 42 = .ok (.aload_n 0, 1) := by decide +kernel
theorem dX7_askedBy_43 : decode cX7_askedBy 43 = .ok (.iload 4, 2) := by decide +kernel
theorem dX7_askedBy_45 : decode cX7_askedBy 45 = .ok (.bipush 6, 2) := by decide +kernel
theorem dX7_askedBy_47 : decode cX7_askedBy 47 = .ok (.invokevirtual 40, 3) := by decide +kernel
theorem dX7_askedBy_50 : decode cX7_askedBy 50 = .ok (.goto 4, 3) := by decide +kernel
theorem dX7_askedBy_53 : decode cX7_askedBy 53 = .ok (.iconst 0, 1) := by decide +kernel
theorem dX7_askedBy_54 : decode cX7_askedBy 54 = .ok (.iadd, 1) := by decide +kernel
theorem dX7_askedBy_55 : decode cX7_askedBy 55 = .ok (.istore_n 3, 1) := by decide +kernel
theorem dX7_askedBy_56 : decode cX7_askedBy 56 = .ok (.iinc 4 1, 3) := by decide +kernel
theorem dX7_askedBy_59 : decode cX7_askedBy 59 = .ok (.goto (-54), 3) := by decide +kernel
theorem dX7_askedBy_62 : decode cX7_askedBy 62 = .ok (.iload_n 3, 1) := by decide +kernel
theorem dX7_askedBy_63 : decode cX7_askedBy 63 = .ok (.ireturn, 1) := by decide +kernel
set_option maxRecDepth 20000 in
theorem ggX7_dealerOf_X7_isDealer : GoodIn wsX7_dealerOf wsX7_isDealer := goodIn_r _ [8, 3, 9, 10, 7, 11, 51, 52, 53, 54, 55, 56, 57, 58, 59, 60, 61, 62, 63] (by decide +kernel) (by decide +kernel)
set_option maxRecDepth 20000 in
theorem gX7_dealerOf_X7_isDealer : GoodIn wsX7_dealerOf (wsV RX7 62 RX7 yX7_isDealer wsX7_isDealer) := goodIn_app (goodIn_of _ (by decide +kernel)) ggX7_dealerOf_X7_isDealer
set_option maxRecDepth 20000 in
theorem ggX7_dealerOf_X7_in : GoodIn wsX7_dealerOf wsX7_in := goodIn_r _ [11] (by decide +kernel) (by decide +kernel)
set_option maxRecDepth 20000 in
theorem gX7_dealerOf_X7_in : GoodIn wsX7_dealerOf (va_wsS RX7 36 yX7_in wsX7_in) := goodIn_app (goodIn_of _ (by decide +kernel)) ggX7_dealerOf_X7_in
set_option maxRecDepth 20000 in
theorem ggX7_dealerOf_X7_setOf : GoodIn wsX7_dealerOf wsX7_setOf := goodIn_r _ [15, 3, 16, 17, 18, 7, 19, 51, 52, 53, 54, 55, 56, 57, 58, 59, 60, 61, 62, 63] (by decide +kernel) (by decide +kernel)
set_option maxRecDepth 20000 in
theorem gX7_dealerOf_X7_setOf : GoodIn wsX7_dealerOf (wsV RX7 133 RX7 yX7_setOf wsX7_setOf) := goodIn_app (goodIn_of _ (by decide +kernel)) ggX7_dealerOf_X7_setOf
set_option maxRecDepth 20000 in
theorem ggX7_dealerOf_X7_worth : GoodIn wsX7_dealerOf wsX7_worth := goodIn_r _ [23, 3, 24, 25, 26, 7, 27, 28, 29, 30, 31, 16, 17, 18, 19, 32, 33, 34, 35, 36, 37, 38, 51, 52, 53, 54, 55, 56, 57, 58, 59, 60, 61, 62, 63] (by decide +kernel) (by decide +kernel)
set_option maxRecDepth 20000 in
theorem gX7_dealerOf_X7_worth : GoodIn wsX7_dealerOf (wsV RX7 136 RX7 yX7_worth wsX7_worth) := goodIn_app (goodIn_of _ (by decide +kernel)) ggX7_dealerOf_X7_worth
set_option maxRecDepth 20000 in
theorem ggX7_dealerOf_X7_askedBy : GoodIn wsX7_dealerOf wsX7_askedBy := goodIn_r _ [42, 3, 43, 44, 45, 7, 46, 16, 17, 18, 19, 47, 48, 49, 50, 51, 52, 53, 54, 55, 56, 57, 58, 59, 60, 61, 62, 63] (by decide +kernel) (by decide +kernel)
set_option maxRecDepth 20000 in
theorem gX7_dealerOf_X7_askedBy : GoodIn wsX7_dealerOf (wsV RX7 139 RX7 yX7_askedBy wsX7_askedBy) := goodIn_app (goodIn_of _ (by decide +kernel)) ggX7_dealerOf_X7_askedBy
theorem dX7_dealerOf_0 : decode cX7_dealerOf 0 = .ok (.aload_n 0, 1) := by decide +kernel
theorem dX7_dealerOf_1 : decode cX7_dealerOf 1 = .ok (.iload_n 1, 1) := by decide +kernel
theorem dX7_dealerOf_2 : decode cX7_dealerOf 2 = .ok (.invokevirtual 62, 3) := by decide +kernel
theorem dX7_dealerOf_5 : decode cX7_dealerOf 5 = .ok (.ifCond .eq 12, 3) := by decide +kernel
theorem dX7_dealerOf_8 : decode cX7_dealerOf 8 = .ok (.iload_n 2, 1) := by decide +kernel
theorem dX7_dealerOf_9 : decode cX7_dealerOf 9 = .ok (.iconst 0, 1) := by decide +kernel
theorem dX7_dealerOf_10 : decode cX7_dealerOf 10 = .ok (.iconst 5, 1) := by decide +kernel
theorem dX7_dealerOf_11 : decode cX7_dealerOf 11 = .ok (.invokestatic 36, 3) := by decide +kernel
theorem dX7_dealerOf_14 : decode cX7_dealerOf 14 = .ok (.ifCond .ne 6, 3) := by decide +kernel
theorem dX7_dealerOf_17 : decode cX7_dealerOf 17 = .ok (.ldc 28, 2) := by decide +kernel
theorem dX7_dealerOf_19 : decode cX7_dealerOf 19 = .ok (.ireturn, 1) := by decide +kernel
theorem dX7_dealerOf_20 : decode cX7_dealerOf 20 = .ok (.iload_n 2, 1) := by decide +kernel
theorem dX7_dealerOf_21 : decode cX7_dealerOf 21 = .ok (.tableswitch 66 0 3 #[31, 44, 44, 60], 31) := by decide +kernel
theorem dX7_dealerOf_52 : decode cX7_dealerOf 52 = .ok (.ldc 91, 2) := by decide +kernel
theorem dX7_dealerOf_54 : decode cX7_dealerOf 54 = .ok (.aload_n 0, 1) := by decide +kernel
theorem dX7_dealerOf_55 : decode cX7_dealerOf 55 = .ok (.getfield 7, 3) := by decide +kernel
theorem dX7_dealerOf_58 : decode cX7_dealerOf 58 = .ok (.bipush 8, 2) := by decide +kernel
theorem dX7_dealerOf_60 : decode cX7_dealerOf 60 = .ok (.iload_n 1, 1) := by decide +kernel
theorem dX7_dealerOf_61 : decode cX7_dealerOf 61 = .ok (.iadd, 1) := by decide +kernel
theorem dX7_dealerOf_62 : decode cX7_dealerOf 62 = .ok (.iaload, 1) := by decide +kernel
theorem dX7_dealerOf_63 : decode cX7_dealerOf 63 = .ok (.iadd, 1) := by decide +kernel
theorem dX7_dealerOf_64 : decode cX7_dealerOf 64 = .ok (.ireturn, 1) := by decide +kernel
theorem dX7_dealerOf_65 : decode cX7_dealerOf 65 = .ok (.aload_n 0, 1) := by decide +kernel
theorem dX7_dealerOf_66 : decode cX7_dealerOf 66 = .ok (.iload_n 1, 1) := by decide +kernel
theorem dX7_dealerOf_67 : decode cX7_dealerOf 67 = .ok (.iload_n 2, 1) := by decide +kernel
theorem dX7_dealerOf_68 : decode cX7_dealerOf 68 = .ok (.iconst 1, 1) := by decide +kernel
theorem dX7_dealerOf_69 : decode cX7_dealerOf 69 = .ok (.if_icmp .ne 7, 3) := by decide +kernel
theorem dX7_dealerOf_72 : decode cX7_dealerOf 72 = .ok (.iconst 3, 1) := by decide +kernel
theorem dX7_dealerOf_73 : decode cX7_dealerOf 73 = .ok (.goto 4, 3) := by decide +kernel
theorem dX7_dealerOf_76 : decode cX7_dealerOf 76 = .ok (.iconst 4, 1) := by decide +kernel
theorem dX7_dealerOf_77 : decode cX7_dealerOf 77 = .ok (.invokevirtual 133, 3) := by decide +kernel
theorem dX7_dealerOf_80 : decode cX7_dealerOf 80 = .ok (.ireturn, 1) := by decide +kernel
theorem dX7_dealerOf_81 : decode cX7_dealerOf 81 = .ok (.aload_n 0, 1) := by decide +kernel
theorem dX7_dealerOf_82 : decode cX7_dealerOf 82 = .ok (.iload_n 1, 1) := by decide +kernel
theorem dX7_dealerOf_83 : decode cX7_dealerOf 83 = .ok (.invokevirtual 136, 3) := by decide +kernel
theorem dX7_dealerOf_86 : decode cX7_dealerOf 86 = .ok (.ireturn, 1) := by decide +kernel
theorem dX7_dealerOf_87 : decode cX7_dealerOf 87 = .ok (.aload_n 0, 1) := by decide +kernel
theorem dX7_dealerOf_88 : decode cX7_dealerOf 88 = .ok (.iload_n 1, 1) := by decide +kernel
theorem dX7_dealerOf_89 : decode cX7_dealerOf 89 = .ok (.iload_n 2, 1) := by decide +kernel
theorem dX7_dealerOf_90 : decode cX7_dealerOf 90 = .ok (.iconst 4, 1) := by decide +kernel
theorem dX7_dealerOf_91 : decode cX7_dealerOf 91 = .ok (.if_icmp .ne 7, 3) := by decide +kernel
theorem dX7_dealerOf_94 : decode cX7_dealerOf 94 = .ok (.iconst 1, 1) := by decide +kernel
theorem dX7_dealerOf_95 : decode cX7_dealerOf 95 = .ok (.goto 4, 3) := by decide +kernel
theorem dX7_dealerOf_98 : decode cX7_dealerOf 98 = .ok (.iconst 0, 1) := by decide +kernel
theorem dX7_dealerOf_99 : decode cX7_dealerOf 99 = .ok (.invokevirtual 139, 3) := by decide +kernel
theorem dX7_dealerOf_102 : decode cX7_dealerOf 102 = .ok (.ireturn, 1) := by decide +kernel
set_option maxRecDepth 20000 in
theorem ggX7_memoOf_X7_in : GoodIn wsX7_memoOf wsX7_in := goodIn_r _ [6] (by decide +kernel) (by decide +kernel)
set_option maxRecDepth 20000 in
theorem gX7_memoOf_X7_in : GoodIn wsX7_memoOf (va_wsS RX7 36 yX7_in wsX7_in) := goodIn_app (goodIn_of _ (by decide +kernel)) ggX7_memoOf_X7_in
set_option maxRecDepth 20000 in
theorem ggX7_memoOf_X7_ofMemo : GoodIn wsX7_memoOf wsX7_ofMemo := goodIn_r _ [10, 1, 19, 20, 21, 22, 23, 24, 25, 26, 27, 28, 29, 30, 31] (by decide +kernel) (by decide +kernel)
set_option maxRecDepth 20000 in
theorem gX7_memoOf_X7_ofMemo : GoodIn wsX7_memoOf (wsV RX7 95 RX7 yX7_ofMemo wsX7_ofMemo) := goodIn_app (goodIn_of _ (by decide +kernel)) ggX7_memoOf_X7_ofMemo
set_option maxRecDepth 20000 in
theorem ggX7_memoOf_X7_outBy : GoodIn wsX7_memoOf wsX7_outBy := goodIn_r _ [14, 1, 15, 16, 17, 5, 18, 19, 20, 21, 22, 23, 24, 25, 26, 27, 28, 29, 30, 31] (by decide +kernel) (by decide +kernel)
set_option maxRecDepth 20000 in
theorem gX7_memoOf_X7_outBy : GoodIn wsX7_memoOf (wsV RX7 78 RX7 yX7_outBy wsX7_outBy) := goodIn_app (goodIn_of _ (by decide +kernel)) ggX7_memoOf_X7_outBy
