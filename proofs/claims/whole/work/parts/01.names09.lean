theorem dX7_memoOf_0 : decode cX7_memoOf 0 = .ok (.iload_n 1, 1) := by decide +kernel
theorem dX7_memoOf_1 : decode cX7_memoOf 1 = .ok (.iconst 0, 1) := by decide +kernel
theorem dX7_memoOf_2 : decode cX7_memoOf 2 = .ok (.aload_n 0, 1) := by decide +kernel
theorem dX7_memoOf_3 : decode cX7_memoOf 3 = .ok (.getfield 7, 3) := by decide +kernel
theorem dX7_memoOf_6 : decode cX7_memoOf 6 = .ok (.iconst 2, 1) := by decide +kernel
theorem dX7_memoOf_7 : decode cX7_memoOf 7 = .ok (.iaload, 1) := by decide +kernel
theorem dX7_memoOf_8 : decode cX7_memoOf 8 = .ok (.iconst 1, 1) := by decide +kernel
theorem dX7_memoOf_9 : decode cX7_memoOf 9 = .ok (.isub, 1) := by decide +kernel
theorem dX7_memoOf_10 : decode cX7_memoOf 10 = .ok (.invokestatic 36, 3) := by decide +kernel
theorem dX7_memoOf_13 : decode cX7_memoOf 13 = .ok (.ifCond .eq 13, 3) := by decide +kernel
theorem dX7_memoOf_16 : decode cX7_memoOf 16 = .ok (.iload_n 2, 1) := by decide +kernel
theorem dX7_memoOf_17 : decode cX7_memoOf 17 = .ok (.iconst 0, 1) := by decide +kernel
theorem dX7_memoOf_18 : decode cX7_memoOf 18 = .ok (.bipush 7, 2) := by decide +kernel
theorem dX7_memoOf_20 : decode cX7_memoOf 20 = .ok (.invokestatic 36, 3) := by decide +kernel
theorem dX7_memoOf_23 : decode cX7_memoOf 23 = .ok (.ifCond .ne 6, 3) := by decide +kernel
theorem dX7_memoOf_26 : decode cX7_memoOf 26 = .ok (.ldc 28, 2) := by decide +kernel
theorem dX7_memoOf_28 : decode cX7_memoOf 28 = .ok (.ireturn, 1) := by decide +kernel
theorem dX7_memoOf_29 : decode cX7_memoOf 29 = .ok (.aload_n 0, 1) := by decide +kernel
theorem dX7_memoOf_30 : decode cX7_memoOf 30 = .ok (.iload_n 1, 1) := by decide +kernel
theorem dX7_memoOf_31 : decode cX7_memoOf 31 = .ok (.iconst 2, 1) := by decide +kernel
theorem dX7_memoOf_32 : decode cX7_memoOf 32 = .ok (.invokevirtual 95, 3) := by decide +kernel
theorem dX7_memoOf_35 : decode cX7_memoOf 35 = .ok (.aload_n 0, 1) := by decide +kernel
theorem dX7_memoOf_36 : decode cX7_memoOf 36 = .ok (.getfield 7, 3) := by decide +kernel
theorem dX7_memoOf_39 : decode cX7_memoOf 39 = .ok (.iconst 3, 1) := by decide +kernel
theorem dX7_memoOf_40 : decode cX7_memoOf 40 = .ok (.iaload, 1) := by decide +kernel
theorem dX7_memoOf_41 : decode cX7_memoOf 41 = .ok (.isub, 1) := by decide +kernel
theorem dX7_memoOf_42 : decode cX7_memoOf 42 = .ok (.istore_n 3, 1) := by decide +kernel
theorem dX7_memoOf_43 : decode cX7_memoOf 43 = .ok (.iload_n 2, 1) := by decide +kernel
theorem dX7_memoOf_44 : decode cX7_memoOf 44 = .ok (.tableswitch 75 3 7 #[36, 42, 42, 51, 65], 36) := by decide +kernel
theorem dX7_memoOf_80 : decode cX7_memoOf 80 = .ok (.aload_n 0, 1) := by decide +kernel
theorem dX7_memoOf_81 : decode cX7_memoOf 81 = .ok (.iload_n 1, 1) := by decide +kernel
theorem dX7_memoOf_82 : decode cX7_memoOf 82 = .ok (.invokevirtual 78, 3) := by decide +kernel
theorem dX7_memoOf_85 : decode cX7_memoOf 85 = .ok (.ireturn, 1) := by decide +kernel
theorem dX7_memoOf_86 : decode cX7_memoOf 86 = .ok (.aload_n 0, 1) := by decide +kernel
theorem dX7_memoOf_87 : decode cX7_memoOf 87 = .ok (.iload_n 1, 1) := by decide +kernel
theorem dX7_memoOf_88 : decode cX7_memoOf 88 = .ok (.iload_n 2, 1) := by decide +kernel
theorem dX7_memoOf_89 : decode cX7_memoOf 89 = .ok (.iconst 1, 1) := by decide +kernel
theorem dX7_memoOf_90 : decode cX7_memoOf 90 = .ok (.isub, 1) := by decide +kernel
theorem dX7_memoOf_91 : decode cX7_memoOf 91 = .ok (.invokevirtual 95, 3) := by decide +kernel
theorem dX7_memoOf_94 : decode cX7_memoOf 94 = .ok (.ireturn, 1) := by decide +kernel
theorem dX7_memoOf_95 : decode cX7_memoOf 95 = .ok (.aload_n 0, 1) := by decide +kernel
theorem dX7_memoOf_96 : decode cX7_memoOf 96 = .ok (.iload_n 1, 1) := by decide +kernel
theorem dX7_memoOf_97 : decode cX7_memoOf 97 = .ok (.invokevirtual 78, 3) := by decide +kernel
theorem dX7_memoOf_100 : decode cX7_memoOf 100 = .ok (.ifCond .ne 7, 3) := by decide +kernel
theorem dX7_memoOf_103 : decode cX7_memoOf 103 = .ok (.iconst 0, 1) := by decide +kernel
theorem dX7_memoOf_104 : decode cX7_memoOf 104 = .ok (.goto 4, 3) := by decide +kernel
theorem dX7_memoOf_107 : decode cX7_memoOf 107 = .ok (.iconst 1, 1) := by decide +kernel
theorem dX7_memoOf_108 : decode cX7_memoOf 108 = .ok (.ireturn, 1) := by decide +kernel
theorem dX7_memoOf_109 : decode cX7_memoOf 109 = .ok (.iload_n 3, 1) := by decide +kernel
theorem dX7_memoOf_110 : decode cX7_memoOf 110 = .ok (.ifCond .ge 7, 3) := by decide +kernel
theorem dX7_memoOf_113 : decode cX7_memoOf 113 = .ok (.iconst 0, 1) := by decide +kernel
theorem dX7_memoOf_114 : decode cX7_memoOf 114 = .ok (.goto 4, 3) := by decide +kernel
theorem dX7_memoOf_117 : decode cX7_memoOf 117 = .ok (.iload_n 3, 1) := by decide +kernel
theorem dX7_memoOf_118 : decode cX7_memoOf 118 = .ok (.ireturn, 1) := by decide +kernel
theorem dX7_memoOf_119 : decode cX7_memoOf 119 = .ok (.aload_n 0, 1) := by decide +kernel
theorem dX7_memoOf_120 : decode cX7_memoOf 120 = .ok (.iload_n 1, 1) := by decide +kernel
theorem dX7_memoOf_121 : decode cX7_memoOf 121 = .ok (.iload_n 2, 1) := by decide +kernel
theorem dX7_memoOf_122 : decode cX7_memoOf 122 = .ok (.invokevirtual 95, 3) := by decide +kernel
theorem dX7_memoOf_125 : decode cX7_memoOf 125 = .ok (.ireturn, 1) := by decide +kernel
set_option maxRecDepth 20000 in
theorem ggX7_rateOf_X7_in : GoodIn wsX7_rateOf wsX7_in := goodIn_r _ [7] (by decide +kernel) (by decide +kernel)
set_option maxRecDepth 20000 in
theorem gX7_rateOf_X7_in : GoodIn wsX7_rateOf (va_wsS RX7 36 yX7_in wsX7_in) := goodIn_app (goodIn_of _ (by decide +kernel)) ggX7_rateOf_X7_in
set_option maxRecDepth 20000 in
theorem ggX7_rateOf_X7_isGrade : GoodIn wsX7_rateOf wsX7_isGrade := goodIn_r _ [10, 4, 5, 6, 7] (by decide +kernel) (by decide +kernel)
set_option maxRecDepth 20000 in
theorem gX7_rateOf_X7_isGrade : GoodIn wsX7_rateOf (va_wsS RX7 92 yX7_isGrade wsX7_isGrade) := goodIn_app (goodIn_of _ (by decide +kernel)) ggX7_rateOf_X7_isGrade
set_option maxRecDepth 20000 in
theorem ggX7_rateOf_X7_rateAt : GoodIn wsX7_rateOf wsX7_rateAt := goodIn_r _ [13] (by decide +kernel) (by decide +kernel)
set_option maxRecDepth 20000 in
theorem gX7_rateOf_X7_rateAt : GoodIn wsX7_rateOf (va_wsS RX7 44 yX7_rateAt wsX7_rateAt) := goodIn_app (goodIn_of _ (by decide +kernel)) ggX7_rateOf_X7_rateAt
set_option maxRecDepth 20000 in
theorem ggX7_rateOf_X7_rateFor : GoodIn wsX7_rateOf wsX7_rateFor := goodIn_r _ [17, 2, 11, 12, 6, 13, 18, 19, 20, 21, 22, 23, 24, 25, 26, 27, 28, 29, 30] (by decide +kernel) (by decide +kernel)
set_option maxRecDepth 20000 in
theorem gX7_rateOf_X7_rateFor : GoodIn wsX7_rateOf (wsV RX7 52 RX7 yX7_rateFor wsX7_rateFor) := goodIn_app (goodIn_of _ (by decide +kernel)) ggX7_rateOf_X7_rateFor
theorem dX7_rateOf_0 : decode cX7_rateOf 0 = .ok (.iload_n 1, 1) := by decide +kernel
theorem dX7_rateOf_1 : decode cX7_rateOf 1 = .ok (.iconst 0, 1) := by decide +kernel
theorem dX7_rateOf_2 : decode cX7_rateOf 2 = .ok (.iconst 4, 1) := by decide +kernel
theorem dX7_rateOf_3 : decode cX7_rateOf 3 = .ok (.invokestatic 36, 3) := by decide +kernel
theorem dX7_rateOf_6 : decode cX7_rateOf 6 = .ok (.ifCond .eq 21, 3) := by decide +kernel
theorem dX7_rateOf_9 : decode cX7_rateOf 9 = .ok (.iload_n 2, 1) := by decide +kernel
theorem dX7_rateOf_10 : decode cX7_rateOf 10 = .ok (.iload_n 3, 1) := by decide +kernel
theorem dX7_rateOf_11 : decode cX7_rateOf 11 = .ok (.invokestatic 92, 3) := by decide +kernel
theorem dX7_rateOf_14 : decode cX7_rateOf 14 = .ok (.ifCond .eq 13, 3) := by decide +kernel
theorem dX7_rateOf_17 : decode cX7_rateOf 17 = .ok (.iload 4, 2) := by decide +kernel
theorem dX7_rateOf_19 : decode cX7_rateOf 19 = .ok (.iconst 0, 1) := by decide +kernel
theorem dX7_rateOf_20 : decode cX7_rateOf 20 = .ok (.iconst 1, 1) := by decide +kernel
theorem dX7_rateOf_21 : decode cX7_rateOf 21 = .ok (.invokestatic 36, 3) := by decide +kernel
theorem dX7_rateOf_24 : decode cX7_rateOf 24 = .ok (.ifCond .ne 6, 3) := by decide +kernel
theorem dX7_rateOf_27 : decode cX7_rateOf 27 = .ok (.ldc 28, 2) := by decide +kernel
theorem dX7_rateOf_29 : decode cX7_rateOf 29 = .ok (.ireturn, 1) := by decide +kernel
theorem dX7_rateOf_30 : decode cX7_rateOf 30 = .ok (.iload 4, 2) := by decide +kernel
theorem dX7_rateOf_32 : decode cX7_rateOf 32 = .ok (.iconst 1, 1) := by decide +kernel
theorem dX7_rateOf_33 : decode cX7_rateOf 33 = .ok (.if_icmp .ne 17, 3) := by decide +kernel
theorem dX7_rateOf_36 : decode cX7_rateOf 36 = .ok (.aload_n 0, 1) := by decide +kernel
theorem dX7_rateOf_37 : decode cX7_rateOf 37 = .ok (.getfield 7, 3) := by decide +kernel
theorem dX7_rateOf_40 : decode cX7_rateOf 40 = .ok (.iload_n 1, 1) := by decide +kernel
theorem dX7_rateOf_41 : decode cX7_rateOf 41 = .ok (.iload_n 2, 1) := by decide +kernel
theorem dX7_rateOf_42 : decode cX7_rateOf 42 = .ok (.iload_n 3, 1) := by decide +kernel
theorem dX7_rateOf_43 : decode cX7_rateOf 43 = .ok (.invokestatic 44, 3) := by decide +kernel
theorem dX7_rateOf_46 : decode cX7_rateOf 46 = .ok (.iaload, 1) := by decide +kernel
theorem dX7_rateOf_47 : decode cX7_rateOf 47 = .ok (.goto 10, 3) := by decide +kernel
theorem dX7_rateOf_50 : decode cX7_rateOf 50 = .ok (.aload_n 0, 1) := by decide +kernel
theorem dX7_rateOf_51 : decode cX7_rateOf 51 = .ok (.iload_n 1, 1) := by decide +kernel
theorem dX7_rateOf_52 : decode cX7_rateOf 52 = .ok (.iload_n 2, 1) := by decide +kernel
theorem dX7_rateOf_53 : decode cX7_rateOf 53 = .ok (.iload_n 3, 1) := by decide +kernel
theorem dX7_rateOf_54 : decode cX7_rateOf 54 = .ok (.invokevirtual 52, 3) := by decide +kernel
theorem dX7_rateOf_57 : decode cX7_rateOf 57 = .ok (.istore 5, 2) := by decide +kernel
theorem dX7_rateOf_59 : decode cX7_rateOf 59 = .ok (.iload 5, 2) := by decide +kernel
theorem dX7_rateOf_61 : decode cX7_rateOf 61 = .ok (.ifCond .ne 8, 3) := by decide +kernel
theorem dX7_rateOf_64 : decode cX7_rateOf 64 = .ok (.ldc 129, 2) := by decide +kernel
theorem dX7_rateOf_66 : decode cX7_rateOf 66 = .ok (.goto 5, 3) := by decide +kernel
theorem dX7_rateOf_69 : decode cX7_rateOf 69 = .ok (.iload 5, 2) := by decide +kernel
theorem dX7_rateOf_71 : decode cX7_rateOf 71 = .ok (.ireturn, 1) := by decide +kernel
set_option maxRecDepth 20000 in
theorem ggX7_stonesOf_X7_ofStone : GoodIn wsX7_stonesOf wsX7_ofStone := goodIn_r _ [6, 1, 15, 16, 17, 18, 19, 20, 21, 22, 23, 24, 25, 26, 27] (by decide +kernel) (by decide +kernel)
set_option maxRecDepth 20000 in
theorem gX7_stonesOf_X7_ofStone : GoodIn wsX7_stonesOf (wsV RX7 40 RX7 yX7_ofStone wsX7_ofStone) := goodIn_app (goodIn_of _ (by decide +kernel)) ggX7_stonesOf_X7_ofStone
set_option maxRecDepth 20000 in
theorem ggX7_stonesOf_X7_isSold : GoodIn wsX7_stonesOf wsX7_isSold := goodIn_r _ [10, 2, 3, 4, 5, 6, 1, 15, 16, 17, 18, 19, 20, 21, 22, 23, 24, 25, 26, 27] (by decide +kernel) (by decide +kernel)
set_option maxRecDepth 20000 in
theorem gX7_stonesOf_X7_isSold : GoodIn wsX7_stonesOf (wsV RX7 88 RX7 yX7_isSold wsX7_isSold) := goodIn_app (goodIn_of _ (by decide +kernel)) ggX7_stonesOf_X7_isSold
set_option maxRecDepth 20000 in
theorem ggX7_stonesOf_X7_isOut : GoodIn wsX7_stonesOf wsX7_isOut := goodIn_r _ [14, 2, 3, 4, 5, 6, 1, 15, 16, 17, 18, 19, 20, 21, 22, 23, 24, 25, 26, 27] (by decide +kernel) (by decide +kernel)
set_option maxRecDepth 20000 in
theorem gX7_stonesOf_X7_isOut : GoodIn wsX7_stonesOf (wsV RX7 55 RX7 yX7_isOut wsX7_isOut) := goodIn_app (goodIn_of _ (by decide +kernel)) ggX7_stonesOf_X7_isOut
theorem dX7_stonesOf_0 : decode cX7_stonesOf 0 = .ok (.iconst 0, 1) := by decide +kernel
theorem dX7_stonesOf_1 : decode cX7_stonesOf 1 = .ok (.istore_n 2, 1) := by decide +kernel
theorem dX7_stonesOf_2 : decode cX7_stonesOf 2 = .ok (.iconst 0, 1) := by decide +kernel
theorem dX7_stonesOf_3 : decode cX7_stonesOf 3 = .ok (.istore_n 3, 1) := by decide +kernel
theorem dX7_stonesOf_4 : decode cX7_stonesOf 4 = .ok (.iload_n 3, 1) := by decide +kernel
theorem dX7_stonesOf_5 : decode cX7_stonesOf 5 = .ok (.aload_n 0, 1) := by decide +kernel
theorem dX7_stonesOf_6 : decode cX7_stonesOf 6 = .ok (.getfield 7, 3) := by decide +kernel
theorem dX7_stonesOf_9 : decode cX7_stonesOf 9 = .ok (.iconst 1, 1) := by decide +kernel
theorem dX7_stonesOf_10 : decode cX7_stonesOf 10 = .ok (.iaload, 1) := by decide +kernel
theorem dX7_stonesOf_11 : decode cX7_stonesOf 11 = .ok (.if_icmp .ge 57, 3) := by decide +kernel
theorem dX7_stonesOf_14 : decode cX7_stonesOf 14 = .ok (.iload_n 2, 1) := by decide +kernel
theorem dX7_stonesOf_15 : decode cX7_stonesOf 15 = .ok (.iload_n 1, 1) := by decide +kernel
theorem dX7_stonesOf_16 : decode cX7_stonesOf 16 = .ok (.bipush 9, 2) := by decide +kernel
theorem dX7_stonesOf_18 : decode cX7_stonesOf 18 = .ok (.if_icmp .ne 13, 3) := by decide +kernel
theorem dX7_stonesOf_21 : decode cX7_stonesOf 21 = .ok (.aload_n 0, 1) := by decide +kernel
theorem dX7_stonesOf_22 : decode cX7_stonesOf 22 = .ok (.iload_n 3, 1) := by decide +kernel
theorem dX7_stonesOf_23 : decode cX7_stonesOf 23 = .ok (.bipush 7, 2) := by decide +kernel
theorem dX7_stonesOf_25 : decode cX7_stonesOf 25 = .ok (.invokevirtual 40, 3) := by decide +kernel
theorem dX7_stonesOf_28 : decode cX7_stonesOf 28 = .ok (.goto 32, 3) := by decide +kernel
theorem dX7_stonesOf_31 : decode cX7_stonesOf 31 = .ok (.iload_n 1, 1) := by decide +kernel
theorem dX7_stonesOf_32 : decode cX7_stonesOf 32 = .ok (.iconst 2, 1) := by decide +kernel
theorem dX7_stonesOf_33 : decode cX7_stonesOf 33 = .ok (.if_icmp .ne 14, 3) := by decide +kernel
theorem dX7_stonesOf_36 : decode cX7_stonesOf 36 = .ok (.aload_n 0, 1) := by decide +kernel
theorem dX7_stonesOf_37 : decode cX7_stonesOf 37 = .ok (.iload_n 3, 1) := by decide +kernel
theorem dX7_stonesOf_38 : decode cX7_stonesOf 38 = .ok (.invokevirtual 88, 3) := by decide +kernel
theorem dX7_stonesOf_41 : decode cX7_stonesOf 41 = .ok (.ifCond .eq 18, 3) := by decide +kernel
theorem dX7_stonesOf_44 : decode cX7_stonesOf 44 = .ok (.goto 11, 3) := by decide +kernel
theorem dX7_stonesOf_47 : decode cX7_stonesOf 47 = .ok (.aload_n 0, 1) := by decide +kernel
theorem dX7_stonesOf_48 : decode cX7_stonesOf 48 = .ok (.iload_n 3, 1) := by decide +kernel
theorem dX7_stonesOf_49 : decode cX7_stonesOf 49 = .ok (.invokevirtual 55, 3) := by decide +kernel
theorem dX7_stonesOf_52 : decode cX7_stonesOf 52 = .ok (.ifCond .eq 7, 3) := by decide +kernel
theorem dX7_stonesOf_55 : decode cX7_stonesOf 55 = .ok (.iconst 1, 1) := by decide +kernel
theorem dX7_stonesOf_56 : decode cX7_stonesOf 56 = .ok (.goto 4, 3) := by decide +kernel
theorem dX7_stonesOf_59 : decode cX7_stonesOf 59 = .ok (.iconst 0, 1) := by decide +kernel
theorem dX7_stonesOf_60 : decode cX7_stonesOf 60 = .ok (.iadd, 1) := by decide +kernel
theorem dX7_stonesOf_61 : decode cX7_stonesOf 61 = .ok (.istore_n 2, 1) := by decide +kernel
theorem dX7_stonesOf_62 : decode cX7_stonesOf 62 = .ok (.iinc 3 1, 3) := by decide +kernel
theorem dX7_stonesOf_65 : decode cX7_stonesOf 65 = .ok (.goto (-61), 3) := by decide +kernel
theorem dX7_stonesOf_68 : decode cX7_stonesOf 68 = .ok (.iload_n 2, 1) := by decide +kernel
theorem dX7_stonesOf_69 : decode cX7_stonesOf 69 = .ok (.ireturn, 1) := by decide +kernel
set_option maxRecDepth 20000 in
theorem ggX7_openMemos_X7_outBy : GoodIn wsX7_openMemos wsX7_outBy := goodIn_r _ [6, 1, 7, 8, 9, 5, 10, 11, 12, 13, 14, 15, 16, 17, 18, 19, 20, 21, 22, 23] (by decide +kernel) (by decide +kernel)
set_option maxRecDepth 20000 in
theorem gX7_openMemos_X7_outBy : GoodIn wsX7_openMemos (wsV RX7 78 RX7 yX7_outBy wsX7_outBy) := goodIn_app (goodIn_of _ (by decide +kernel)) ggX7_openMemos_X7_outBy
theorem dX7_openMemos_0 : decode cX7_openMemos 0 = .ok (.iconst 0, 1) := by decide +kernel
theorem dX7_openMemos_1 : decode cX7_openMemos 1 = .ok (.istore_n 1, 1) := by decide +kernel
theorem dX7_openMemos_2 : decode cX7_openMemos 2 = .ok (.iconst 0, 1) := by decide +kernel
theorem dX7_openMemos_3 : decode cX7_openMemos 3 = .ok (.istore_n 2, 1) := by decide +kernel
theorem dX7_openMemos_4 : decode cX7_openMemos 4 = .ok (.iload_n 2, 1) := by decide +kernel
theorem dX7_openMemos_5 : decode cX7_openMemos 5 = .ok (.aload_n 0, 1) := by decide +kernel
theorem dX7_openMemos_6 : decode cX7_openMemos 6 = .ok (.getfield 7, 3) := by decide +kernel
theorem dX7_openMemos_9 : decode cX7_openMemos 9 = .ok (.iconst 2, 1) := by decide +kernel
theorem dX7_openMemos_10 : decode cX7_openMemos 10 = .ok (.iaload, 1) := by decide +kernel
theorem dX7_openMemos_11 : decode cX7_openMemos 11 = .ok (.if_icmp .ge 25, 3) := by decide +kernel
theorem dX7_openMemos_14 : decode cX7_openMemos 14 = .ok (.iload_n 1, 1) := by decide +kernel
theorem dX7_openMemos_15 : decode cX7_openMemos 15 = .ok (.aload_n 0, 1) := by decide +kernel
theorem dX7_openMemos_16 : decode cX7_openMemos 16 = .ok (.iload_n 2, 1) := by decide +kernel
theorem dX7_openMemos_17 : decode cX7_openMemos 17 = .ok (.invokevirtual 78, 3) := by decide +kernel
theorem dX7_openMemos_20 : decode cX7_openMemos 20 = .ok (.ifCond .ne 7, 3) := by decide +kernel
theorem dX7_openMemos_23 : decode cX7_openMemos 23 = .ok (.iconst 0, 1) := by decide +kernel
theorem dX7_openMemos_24 : decode cX7_openMemos 24 = .ok (.goto 4, 3) := by decide +kernel
theorem dX7_openMemos_27 : decode cX7_openMemos 27 = .ok (.iconst 1, 1) := by decide +kernel
theorem dX7_openMemos_28 : decode cX7_openMemos 28 = .ok (.iadd, 1) := by decide +kernel
theorem dX7_openMemos_29 : decode cX7_openMemos 29 = .ok (.istore_n 1, 1) := by decide +kernel
theorem dX7_openMemos_30 : decode cX7_openMemos 30 = .ok (.iinc 2 1, 3) := by decide +kernel
theorem dX7_openMemos_33 : decode cX7_openMemos 33 = .ok (.goto (-29), 3) := by decide +kernel
theorem dX7_openMemos_36 : decode cX7_openMemos 36 = .ok (.iload_n 1, 1) := by decide +kernel
theorem dX7_openMemos_37 : decode cX7_openMemos 37 = .ok (.ireturn, 1) := by decide +kernel
theorem dX7_balances_0 : decode cX7_balances 0 = .ok (.iconst 0, 1) := by decide +kernel
theorem dX7_balances_1 : decode cX7_balances 1 = .ok (.istore_n 1, 1) := by decide +kernel
theorem dX7_balances_2 : decode cX7_balances 2 = .ok (.iconst 0, 1) := by decide +kernel
theorem dX7_balances_3 : decode cX7_balances 3 = .ok (.istore_n 2, 1) := by decide +kernel
theorem dX7_balances_4 : decode cX7_balances 4 = .ok (.iload_n 2, 1) := by decide +kernel
theorem dX7_balances_5 : decode cX7_balances 5 = .ok (.bipush 6, 2) := by decide +kernel
theorem dX7_balances_7 : decode cX7_balances 7 = .ok (.if_icmp .ge 21, 3) := by decide +kernel
theorem dX7_balances_10 : decode cX7_balances 10 = .ok (.iload_n 1, 1) := by decide +kernel
theorem dX7_balances_11 : decode cX7_balances 11 = .ok (.aload_n 0, 1) := by decide +kernel
theorem dX7_balances_12 : decode cX7_balances 12 = .ok (.getfield 7, 3) := by decide +kernel
theorem dX7_balances_15 : decode cX7_balances 15 = .ok (.bipush 8, 2) := by decide +kernel
theorem dX7_balances_17 : decode cX7_balances 17 = .ok (.iload_n 2, 1) := by decide +kernel
theorem dX7_balances_18 : decode cX7_balances 18 = .ok (.iadd, 1) := by decide +kernel
theorem dX7_balances_19 : decode cX7_balances 19 = .ok (.iaload, 1) := by decide +kernel
theorem dX7_balances_20 : decode cX7_balances 20 = .ok (.iadd, 1) := by decide +kernel
theorem dX7_balances_21 : decode cX7_balances 21 = .ok (.istore_n 1, 1) := by decide +kernel
theorem dX7_balances_22 : decode cX7_balances 22 = .ok (.iinc 2 1, 3) := by decide +kernel
theorem dX7_balances_25 : decode cX7_balances 25 = .ok (.goto (-21), 3) := by decide +kernel
theorem dX7_balances_28 : decode cX7_balances 28 = .ok (.iload_n 1, 1) := by decide +kernel
theorem dX7_balances_29 : decode cX7_balances 29 = .ok (.ireturn, 1) := by decide +kernel
set_option maxRecDepth 20000 in
theorem ggX7_count_X7_stonesOf : GoodIn wsX7_count wsX7_stonesOf := goodIn_r _ [11, 1, 12, 13, 14, 10, 15, 16, 17, 18, 19, 20, 21, 22, 23, 39, 40, 41, 42, 43, 44, 45, 46, 47, 48, 49, 50, 51] (by decide +kernel) (by decide +kernel)
set_option maxRecDepth 20000 in
theorem gX7_count_X7_stonesOf : GoodIn wsX7_count (wsV RX7 142 RX7 yX7_stonesOf wsX7_stonesOf) := goodIn_app (goodIn_of _ (by decide +kernel)) ggX7_count_X7_stonesOf
set_option maxRecDepth 20000 in
theorem ggX7_count_X7_openMemos : GoodIn wsX7_count wsX7_openMemos := goodIn_r _ [27, 1, 28, 29, 30, 10, 31, 12, 13, 14, 15, 39, 40, 41, 42, 43, 44, 45, 46, 47, 48, 49, 50, 51] (by decide +kernel) (by decide +kernel)
set_option maxRecDepth 20000 in
theorem gX7_count_X7_openMemos : GoodIn wsX7_count (wsV RX7 145 RX7 yX7_openMemos wsX7_openMemos) := goodIn_app (goodIn_of _ (by decide +kernel)) ggX7_count_X7_openMemos
set_option maxRecDepth 20000 in
theorem ggX7_count_X7_balances : GoodIn wsX7_count wsX7_balances := goodIn_r _ [35, 1, 39, 40, 41, 42, 43, 44, 45, 46, 47, 48, 49, 50, 51] (by decide +kernel) (by decide +kernel)
set_option maxRecDepth 20000 in
theorem gX7_count_X7_balances : GoodIn wsX7_count (wsV RX7 149 RX7 yX7_balances wsX7_balances) := goodIn_app (goodIn_of _ (by decide +kernel)) ggX7_count_X7_balances
set_option maxRecDepth 20000 in
theorem ggX7_count_X7_in : GoodIn wsX7_count wsX7_in := goodIn_r _ [38] (by decide +kernel) (by decide +kernel)
set_option maxRecDepth 20000 in
theorem gX7_count_X7_in : GoodIn wsX7_count (va_wsS RX7 36 yX7_in wsX7_in) := goodIn_app (goodIn_of _ (by decide +kernel)) ggX7_count_X7_in
theorem dX7_count_0 : decode cX7_count 0 = .ok (.iload_n 1, 1) := by decide +kernel
theorem dX7_count_1 : decode cX7_count 1 = .ok (.tableswitch 148 0 13 #[71, 71, 78, 78, 84, 91, 96, 103, 110, 78, 118, 125, 130, 135], 71) := by decide +kernel
theorem dX7_count_72 : decode cX7_count 72 = .ok (.aload_n 0, 1) := by decide +kernel
theorem dX7_count_73 : decode cX7_count 73 = .ok (.getfield 7, 3) := by decide +kernel
theorem dX7_count_76 : decode cX7_count 76 = .ok (.iload_n 1, 1) := by decide +kernel
theorem dX7_count_77 : decode cX7_count 77 = .ok (.iaload, 1) := by decide +kernel
theorem dX7_count_78 : decode cX7_count 78 = .ok (.ireturn, 1) := by decide +kernel
theorem dX7_count_79 : decode cX7_count 79 = .ok (.aload_n 0, 1) := by decide +kernel
theorem dX7_count_80 : decode cX7_count 80 = .ok (.iload_n 1, 1) := by decide +kernel
theorem dX7_count_81 : decode cX7_count 81 = .ok (.invokevirtual 142, 3) := by decide +kernel
theorem dX7_count_84 : decode cX7_count 84 = .ok (.ireturn, 1) := by decide +kernel
theorem dX7_count_85 : decode cX7_count 85 = .ok (.aload_n 0, 1) := by decide +kernel
theorem dX7_count_86 : decode cX7_count 86 = .ok (.getfield 7, 3) := by decide +kernel
theorem dX7_count_89 : decode cX7_count 89 = .ok (.iconst 2, 1) := by decide +kernel
theorem dX7_count_90 : decode cX7_count 90 = .ok (.iaload, 1) := by decide +kernel
theorem dX7_count_91 : decode cX7_count 91 = .ok (.ireturn, 1) := by decide +kernel
theorem dX7_count_92 : decode cX7_count 92 = .ok (.aload_n 0, 1) := by decide +kernel
theorem dX7_count_93 : decode cX7_count 93 = .ok (.invokevirtual 145, 3) := by decide +kernel
theorem dX7_count_96 : decode cX7_count 96 = .ok (.ireturn, 1) := by decide +kernel
theorem dX7_count_97 : decode cX7_count 97 = .ok (.aload_n 0, 1) := by decide +kernel
theorem dX7_count_98 : decode cX7_count 98 = .ok (.getfield 7, 3) := by decide +kernel
theorem dX7_count_101 : decode cX7_count 101 = .ok (.iconst 5, 1) := by decide +kernel
theorem dX7_count_102 : decode cX7_count 102 = .ok (.iaload, 1) := by decide +kernel
theorem dX7_count_103 : decode cX7_count 103 = .ok (.ireturn, 1) := by decide +kernel
theorem dX7_count_104 : decode cX7_count 104 = .ok (.aload_n 0, 1) := by decide +kernel
theorem dX7_count_105 : decode cX7_count 105 = .ok (.getfield 7, 3) := by decide +kernel
theorem dX7_count_108 : decode cX7_count 108 = .ok (.iconst 3, 1) := by decide +kernel
theorem dX7_count_109 : decode cX7_count 109 = .ok (.iaload, 1) := by decide +kernel
theorem dX7_count_110 : decode cX7_count 110 = .ok (.ireturn, 1) := by decide +kernel
theorem dX7_count_111 : decode cX7_count 111 = .ok (.ldc 91, 2) := by decide +kernel
theorem dX7_count_113 : decode cX7_count 113 = .ok (.aload_n 0, 1) := by decide +kernel
theorem dX7_count_114 : decode cX7_count 114 = .ok (.invokevirtual 149, 3) := by decide +kernel
theorem dX7_count_117 : decode cX7_count 117 = .ok (.iadd, 1) := by decide +kernel
theorem dX7_count_118 : decode cX7_count 118 = .ok (.ireturn, 1) := by decide +kernel
theorem dX7_count_119 : decode cX7_count 119 = .ok (.aload_n 0, 1) := by decide +kernel
theorem dX7_count_120 : decode cX7_count 120 = .ok (.getfield 7, 3) := by decide +kernel
theorem dX7_count_123 : decode cX7_count 123 = .ok (.iconst 4, 1) := by decide +kernel
theorem dX7_count_124 : decode cX7_count 124 = .ok (.iaload, 1) := by decide +kernel
theorem dX7_count_125 : decode cX7_count 125 = .ok (.ireturn, 1) := by decide +kernel
theorem dX7_count_126 : decode cX7_count 126 = .ok (.aload_n 0, 1) := by decide +kernel
theorem dX7_count_127 : decode cX7_count 127 = .ok (.getfield 32, 3) := by decide +kernel
theorem dX7_count_130 : decode cX7_count 130 = .ok (.ireturn, 1) := by decide +kernel
theorem dX7_count_131 : decode cX7_count 131 = .ok (.aload_n 0, 1) := by decide +kernel
theorem dX7_count_132 : decode cX7_count 132 = .ok (.getfield 152, 3) := by decide +kernel
theorem dX7_count_135 : decode cX7_count 135 = .ok (.ireturn, 1) := by decide +kernel
theorem dX7_count_136 : decode cX7_count 136 = .ok (.aload_n 0, 1) := by decide +kernel
theorem dX7_count_137 : decode cX7_count 137 = .ok (.getfield 155, 3) := by decide +kernel
theorem dX7_count_140 : decode cX7_count 140 = .ok (.ifCond .eq 7, 3) := by decide +kernel
theorem dX7_count_143 : decode cX7_count 143 = .ok (.iconst 1, 1) := by decide +kernel
theorem dX7_count_144 : decode cX7_count 144 = .ok (.goto 4, 3) := by decide +kernel
theorem dX7_count_147 : decode cX7_count 147 = .ok (.iconst 0, 1) := by decide +kernel
theorem dX7_count_148 : decode cX7_count 148 = .ok (.ireturn, 1) := by decide +kernel
theorem dX7_count_149 : decode cX7_count 149 = .ok (.iload_n 1, 1) := by decide +kernel
theorem dX7_count_150 : decode cX7_count 150 = .ok (.bipush 14, 2) := by decide +kernel
theorem dX7_count_152 : decode cX7_count 152 = .ok (.bipush 15, 2) := by decide +kernel
theorem dX7_count_154 : decode cX7_count 154 = .ok (.invokestatic 36, 3) := by decide +kernel
theorem dX7_count_157 : decode cX7_count 157 = .ok (.ifCond .eq 18, 3) := by decide +kernel
theorem dX7_count_160 : decode cX7_count 160 = .ok (.aload_n 0, 1) := by decide +kernel
theorem dX7_count_161 : decode cX7_count 161 = .ok (.getfield 7, 3) := by decide +kernel
theorem dX7_count_164 : decode cX7_count 164 = .ok (.bipush 6, 2) := by decide +kernel
theorem dX7_count_166 : decode cX7_count 166 = .ok (.iload_n 1, 1) := by decide +kernel
theorem dX7_count_167 : decode cX7_count 167 = .ok (.iadd, 1) := by decide +kernel
theorem dX7_count_168 : decode cX7_count 168 = .ok (.bipush 14, 2) := by decide +kernel
theorem dX7_count_170 : decode cX7_count 170 = .ok (.isub, 1) := by decide +kernel
theorem dX7_count_171 : decode cX7_count 171 = .ok (.iaload, 1) := by decide +kernel
theorem dX7_count_172 : decode cX7_count 172 = .ok (.goto 5, 3) := by decide +kernel
theorem dX7_count_175 : decode cX7_count 175 = .ok (.ldc 28, 2) := by decide +kernel
theorem dX7_count_177 : decode cX7_count 177 = .ok (.ireturn, 1) := by decide +kernel
set_option maxRecDepth 20000 in
theorem ggX7_best_X7_isDealer : GoodIn wsX7_best wsX7_isDealer := goodIn_r _ [8, 3, 9, 10, 7, 11, 35, 36, 37, 38, 39, 40, 41, 42, 43, 44, 45, 46, 47] (by decide +kernel) (by decide +kernel)
set_option maxRecDepth 20000 in
theorem gX7_best_X7_isDealer : GoodIn wsX7_best (wsV RX7 62 RX7 yX7_isDealer wsX7_isDealer) := goodIn_app (goodIn_of _ (by decide +kernel)) ggX7_best_X7_isDealer
set_option maxRecDepth 20000 in
theorem ggX7_best_X7_in : GoodIn wsX7_best wsX7_in := goodIn_r _ [11] (by decide +kernel) (by decide +kernel)
set_option maxRecDepth 20000 in
theorem gX7_best_X7_in : GoodIn wsX7_best (va_wsS RX7 36 yX7_in wsX7_in) := goodIn_app (goodIn_of _ (by decide +kernel)) ggX7_best_X7_in
set_option maxRecDepth 20000 in
theorem ggX7_best_X7_price : GoodIn wsX7_best wsX7_price := goodIn_r _ [15, 16, 17, 18, 7, 19, 20, 21, 22, 23, 3, 24, 25, 26, 27, 28, 29, 30, 35, 36, 37, 38, 39, 40, 41, 42, 43, 44, 45, 46, 47] (by decide +kernel) (by decide +kernel)
set_option maxRecDepth 20000 in
theorem gX7_best_X7_price : GoodIn wsX7_best (wsV RX7 59 RX7 yX7_price wsX7_price) := goodIn_app (goodIn_of _ (by decide +kernel)) ggX7_best_X7_price
set_option maxRecDepth 20000 in
theorem ggX7_best_X7_ofStone : GoodIn wsX7_best wsX7_ofStone := goodIn_r _ [23, 3, 35, 36, 37, 38, 39, 40, 41, 42, 43, 44, 45, 46, 47] (by decide +kernel) (by decide +kernel)
set_option maxRecDepth 20000 in
theorem gX7_best_X7_ofStone : GoodIn wsX7_best (wsV RX7 40 RX7 yX7_ofStone wsX7_ofStone) := goodIn_app (goodIn_of _ (by decide +kernel)) ggX7_best_X7_ofStone
set_option maxRecDepth 20000 in
theorem ggX7_best_X7_orNone : GoodIn wsX7_best wsX7_orNone := goodIn_r _ [33, 34] (by decide +kernel) (by decide +kernel)
set_option maxRecDepth 20000 in
theorem gX7_best_X7_orNone : GoodIn wsX7_best (va_wsS RX7 130 yX7_orNone wsX7_orNone) := goodIn_app (goodIn_of _ (by decide +kernel)) ggX7_best_X7_orNone
theorem dX7_best_0 : decode cX7_best 0 = .ok (.aload_n 0, 1) := by decide +kernel
theorem dX7_best_1 : decode cX7_best 1 = .ok (.iload_n 1, 1) := by decide +kernel
theorem dX7_best_2 : decode cX7_best 2 = .ok (.invokevirtual 62, 3) := by decide +kernel
theorem dX7_best_5 : decode cX7_best 5 = .ok (.ifCond .eq 13, 3) := by decide +kernel
theorem dX7_best_8 : decode cX7_best 8 = .ok (.iload_n 2, 1) := by decide +kernel
theorem dX7_best_9 : decode cX7_best 9 = .ok (.iconst 0, 1) := by decide +kernel
theorem dX7_best_10 : decode cX7_best 10 = .ok (.ldc 159, 2) := by decide +kernel
theorem dX7_best_12 : decode cX7_best 12 = .ok (.invokestatic 36, 3) := by decide +kernel
theorem dX7_best_15 : decode cX7_best 15 = .ok (.ifCond .ne 6, 3) := by decide +kernel
theorem dX7_best_18 : decode cX7_best 18 = .ok (.ldc 28, 2) := by decide +kernel
theorem dX7_best_20 : decode cX7_best 20 = .ok (.ireturn, 1) := by decide +kernel
theorem dX7_best_21 : decode cX7_best 21 = .ok (.iconst (-1), 1) := by decide +kernel
theorem dX7_best_22 : decode cX7_best 22 = .ok (.istore_n 3, 1) := by decide +kernel
theorem dX7_best_23 : decode cX7_best 23 = .ok (.iconst 0, 1) := by decide +kernel
theorem dX7_best_24 : decode cX7_best 24 = .ok (.istore 4, 2) := by decide +kernel
theorem dX7_best_26 : decode cX7_best 26 = .ok (.iload 4, 2) := by decide +kernel
theorem dX7_best_28 : decode cX7_best 28 = .ok (.aload_n 0, 1) := by decide +kernel
theorem dX7_best_29 : decode cX7_best 29 = .ok (.getfield 7, 3) := by decide +kernel
theorem dX7_best_32 : decode cX7_best 32 = .ok (.iconst 1, 1) := by decide +kernel
theorem dX7_best_33 : decode cX7_best 33 = .ok (.iaload, 1) := by decide +kernel
theorem dX7_best_34 : decode cX7_best 34 = .ok (.if_icmp .ge 97, 3) := by decide +kernel
theorem dX7_best_37 : decode cX7_best 37 = .ok (.aload_n 0, 1) := by decide +kernel
theorem dX7_best_38 : decode cX7_best 38 = .ok (.iload 4, 2) := by decide +kernel
theorem dX7_best_40 : decode cX7_best 40 = .ok (.invokevirtual 59, 3) := by decide +kernel
theorem dX7_best_43 : decode cX7_best 43 = .ok (.istore 5, 2) := by decide +kernel
theorem dX7_best_45 : decode cX7_best 45 = .ok (.aload_n 0, 1) := by decide +kernel
theorem dX7_best_46 : decode cX7_best 46 = .ok (.iload 4, 2) := by decide +kernel
theorem dX7_best_48 : decode cX7_best 48 = .ok (.iconst 4, 1) := by decide +kernel
theorem dX7_best_49 : decode cX7_best 49 = .ok (.invokevirtual 40, 3) := by decide +kernel
theorem dX7_best_52 : decode cX7_best 52 = .ok (.iload_n 1, 1) := by decide +kernel
theorem dX7_best_53 : decode cX7_best 53 = .ok (.if_icmp .ne 72, 3) := by decide +kernel
theorem dX7_best_56 : decode cX7_best 56 = .ok (.iload 5, 2) := by decide +kernel
theorem dX7_best_58 : decode cX7_best 58 = .ok (.iconst 0, 1) := by decide +kernel
theorem dX7_best_59 : decode cX7_best 59 = .ok (.iload_n 2, 1) := by decide +kernel
theorem dX7_best_60 : decode cX7_best 60 = .ok (.invokestatic 36, 3) := by decide +kernel
theorem dX7_best_63 : decode cX7_best 63 = .ok (.ifCond .eq 62, 3) := by decide +kernel
theorem dX7_best_66 : decode cX7_best 66 = .ok (.iload_n 3, 1) := by decide +kernel
theorem dX7_best_67 : decode cX7_best 67 = .ok (.ifCond .lt 39, 3) := by decide +kernel
theorem dX7_best_70 : decode cX7_best 70 = .ok (.iload 5, 2) := by decide +kernel
theorem dX7_best_72 : decode cX7_best 72 = .ok (.aload_n 0, 1) := by decide +kernel
theorem dX7_best_73 : decode cX7_best 73 = .ok (.iload_n 3, 1) := by decide +kernel
theorem dX7_best_74 : decode cX7_best 74 = .ok (.invokevirtual 59, 3) := by decide +kernel
theorem dX7_best_77 : decode cX7_best 77 = .ok (.if_icmp .gt 29, 3) := by decide +kernel
theorem dX7_best_80 : decode cX7_best 80 = .ok (.iload 5, 2) := by decide +kernel
theorem dX7_best_82 : decode cX7_best 82 = .ok (.aload_n 0, 1) := by decide +kernel
theorem dX7_best_83 : decode cX7_best 83 = .ok (.iload_n 3, 1) := by decide +kernel
theorem dX7_best_84 : decode cX7_best 84 = .ok (.invokevirtual 59, 3) := by decide +kernel
theorem dX7_best_87 : decode cX7_best 87 = .ok (.if_icmp .ne 23, 3) := by decide +kernel
theorem dX7_best_90 : decode cX7_best 90 = .ok (.aload_n 0, 1) := by decide +kernel
theorem dX7_best_91 : decode cX7_best 91 = .ok (.iload 4, 2) := by decide +kernel
theorem dX7_best_93 : decode cX7_best 93 = .ok (.iconst 0, 1) := by decide +kernel
theorem dX7_best_94 : decode cX7_best 94 = .ok (.invokevirtual 40, 3) := by decide +kernel
theorem dX7_best_97 : decode cX7_best 97 = .ok (.aload_n 0, 1) := by decide +kernel
theorem dX7_best_98 : decode cX7_best 98 = .ok (.iload_n 3, 1) := by decide +kernel
theorem dX7_best_99 : decode cX7_best 99 = .ok (.iconst 0, 1) := by decide +kernel
theorem dX7_best_100 : decode cX7_best 100 = .ok (.invokevirtual 40, 3) := by decide +kernel
theorem dX7_best_103 : decode cX7_best 103 = .ok (.if_icmp .le 7, 3) := by decide +kernel
theorem dX7_best_106 : decode cX7_best 106 = .ok (.iconst 1, 1) := by decide +kernel
theorem dX7_best_107 : decode cX7_best 107 = .ok (.goto 4, 3) := by decide +kernel
theorem dX7_best_110 : decode cX7_best 110 = .ok (.iconst 0, 1) := by decide +kernel
theorem dX7_best_111 : decode cX7_best 111 = .ok (.istore 6, 2) := by decide +kernel
theorem dX7_best_113 : decode cX7_best 113 = .ok (.iload 6, 2) := by decide +kernel
theorem dX7_best_115 : decode cX7_best 115 = .ok (.ifCond .eq 8, 3) := by decide +kernel
theorem dX7_best_118 : decode cX7_best 118 = .ok (.iload 4, 2) := by decide +kernel
theorem dX7_best_120 : decode cX7_best 120 = .ok (.goto 4, 3) := by decide +kernel
theorem dX7_best_123 : decode cX7_best 123 = .ok (.iload_n 3, 1) := by decide +kernel
theorem dX7_best_124 : decode cX7_best 124 = .ok (.istore_n 3, 1) := by decide +kernel
theorem dX7_best_125 : decode cX7_best 125 = .ok (.iinc 4 1, 3) := by decide +kernel
theorem dX7_best_128 : decode cX7_best 128 = .ok (.goto (-102), 3) := by decide +kernel
theorem dX7_best_131 : decode cX7_best 131 = .ok (.iload_n 3, 1) := by decide +kernel
theorem dX7_best_132 : decode cX7_best 132 = .ok (.invokestatic 130, 3) := by decide +kernel
theorem dX7_best_135 : decode cX7_best 135 = .ok (.ireturn, 1) := by decide +kernel
set_option maxRecDepth 20000 in
theorem ggX7_areAlike_X7_sieve : GoodIn wsX7_areAlike wsX7_sieve := goodIn_r _ [5, 6, 7, 8, 4, 9, 10, 11, 12, 13, 14, 15, 16, 17, 18, 19, 20, 21, 22, 23] (by decide +kernel) (by decide +kernel)
set_option maxRecDepth 20000 in
theorem gX7_areAlike_X7_sieve : GoodIn wsX7_areAlike (wsV RX7 48 RX7 yX7_sieve wsX7_sieve) := goodIn_app (goodIn_of _ (by decide +kernel)) ggX7_areAlike_X7_sieve
set_option maxRecDepth 20000 in
theorem ggX7_areAlike_X7_ofStone : GoodIn wsX7_areAlike wsX7_ofStone := goodIn_r _ [9, 10, 11, 12, 13, 14, 15, 16, 17, 18, 19, 20, 21, 22, 23] (by decide +kernel) (by decide +kernel)
set_option maxRecDepth 20000 in
theorem gX7_areAlike_X7_ofStone : GoodIn wsX7_areAlike (wsV RX7 40 RX7 yX7_ofStone wsX7_ofStone) := goodIn_app (goodIn_of _ (by decide +kernel)) ggX7_areAlike_X7_ofStone
theorem dX7_areAlike_0 : decode cX7_areAlike 0 = .ok (.aload_n 0, 1) := by decide +kernel
theorem dX7_areAlike_1 : decode cX7_areAlike 1 = .ok (.iload_n 1, 1) := by decide +kernel
theorem dX7_areAlike_2 : decode cX7_areAlike 2 = .ok (.invokevirtual 48, 3) := by decide +kernel
theorem dX7_areAlike_5 : decode cX7_areAlike 5 = .ok (.aload_n 0, 1) := by decide +kernel
theorem dX7_areAlike_6 : decode cX7_areAlike 6 = .ok (.iload_n 2, 1) := by decide +kernel
theorem dX7_areAlike_7 : decode cX7_areAlike 7 = .ok (.invokevirtual 48, 3) := by decide +kernel
theorem dX7_areAlike_10 : decode cX7_areAlike 10 = .ok (.if_icmp .ne 37, 3) := by decide +kernel
theorem dX7_areAlike_13 : decode cX7_areAlike 13 = .ok (.aload_n 0, 1) := by decide +kernel
theorem dX7_areAlike_14 : decode cX7_areAlike 14 = .ok (.iload_n 1, 1) := by decide +kernel
theorem dX7_areAlike_15 : decode cX7_areAlike 15 = .ok (.iconst 1, 1) := by decide +kernel
theorem dX7_areAlike_16 : decode cX7_areAlike 16 = .ok (.invokevirtual 40, 3) := by decide +kernel
theorem dX7_areAlike_19 : decode cX7_areAlike 19 = .ok (.aload_n 0, 1) := by decide +kernel
theorem dX7_areAlike_20 : decode cX7_areAlike 20 = .ok (.iload_n 2, 1) := by decide +kernel
theorem dX7_areAlike_21 : decode cX7_areAlike 21 = .ok (.iconst 1, 1) := by decide +kernel
theorem dX7_areAlike_22 : decode cX7_areAlike 22 = .ok (.invokevirtual 40, 3) := by decide +kernel
theorem dX7_areAlike_25 : decode cX7_areAlike 25 = .ok (.if_icmp .ne 22, 3) := by decide +kernel
theorem dX7_areAlike_28 : decode cX7_areAlike 28 = .ok (.aload_n 0, 1) := by decide +kernel
theorem dX7_areAlike_29 : decode cX7_areAlike 29 = .ok (.iload_n 1, 1) := by decide +kernel
theorem dX7_areAlike_30 : decode cX7_areAlike 30 = .ok (.iconst 2, 1) := by decide +kernel
theorem dX7_areAlike_31 : decode cX7_areAlike 31 = .ok (.invokevirtual 40, 3) := by decide +kernel
theorem dX7_areAlike_34 : decode cX7_areAlike 34 = .ok (.aload_n 0, 1) := by decide +kernel
theorem dX7_areAlike_35 : decode cX7_areAlike 35 = .ok (.iload_n 2, 1) := by decide +kernel
theorem dX7_areAlike_36 : decode cX7_areAlike 36 = .ok (.iconst 2, 1) := by decide +kernel
theorem dX7_areAlike_37 : decode cX7_areAlike 37 = .ok (.invokevirtual 40, 3) := by decide +kernel
theorem dX7_areAlike_40 : decode cX7_areAlike 40 = .ok (.if_icmp .ne 7, 3) := by decide +kernel
theorem dX7_areAlike_43 : decode cX7_areAlike 43 = .ok (.iconst 1, 1) := by decide +kernel
theorem dX7_areAlike_44 : decode cX7_areAlike 44 = .ok (.goto 4, 3) := by decide +kernel
theorem dX7_areAlike_47 : decode cX7_areAlike 47 = .ok (.iconst 0, 1) := by decide +kernel
theorem dX7_areAlike_48 : decode cX7_areAlike 48 = .ok (.ireturn, 1) := by decide +kernel
set_option maxRecDepth 20000 in
theorem ggX7_apart_X7_ofStone : GoodIn wsX7_apart wsX7_ofStone := goodIn_r _ [5, 6, 7, 8, 9, 10, 11, 12, 13, 14, 15, 16, 17, 18, 19] (by decide +kernel) (by decide +kernel)
set_option maxRecDepth 20000 in
theorem gX7_apart_X7_ofStone : GoodIn wsX7_apart (wsV RX7 40 RX7 yX7_ofStone wsX7_ofStone) := goodIn_app (goodIn_of _ (by decide +kernel)) ggX7_apart_X7_ofStone
theorem dX7_apart_0 : decode cX7_apart 0 = .ok (.aload_n 0, 1) := by decide +kernel
theorem dX7_apart_1 : decode cX7_apart 1 = .ok (.iload_n 1, 1) := by decide +kernel
theorem dX7_apart_2 : decode cX7_apart 2 = .ok (.iconst 0, 1) := by decide +kernel
theorem dX7_apart_3 : decode cX7_apart 3 = .ok (.invokevirtual 40, 3) := by decide +kernel
theorem dX7_apart_6 : decode cX7_apart 6 = .ok (.aload_n 0, 1) := by decide +kernel
theorem dX7_apart_7 : decode cX7_apart 7 = .ok (.iload_n 2, 1) := by decide +kernel
theorem dX7_apart_8 : decode cX7_apart 8 = .ok (.iconst 0, 1) := by decide +kernel
theorem dX7_apart_9 : decode cX7_apart 9 = .ok (.invokevirtual 40, 3) := by decide +kernel
theorem dX7_apart_12 : decode cX7_apart 12 = .ok (.isub, 1) := by decide +kernel
theorem dX7_apart_13 : decode cX7_apart 13 = .ok (.istore_n 3, 1) := by decide +kernel
theorem dX7_apart_14 : decode cX7_apart 14 = .ok (.iload_n 3, 1) := by decide +kernel
theorem dX7_apart_15 : decode cX7_apart 15 = .ok (.ifCond .ge 8, 3) := by decide +kernel
theorem dX7_apart_18 : decode cX7_apart 18 = .ok (.iload_n 3, 1) := by decide +kernel
theorem dX7_apart_19 : decode cX7_apart 19 = .ok (.ineg, 1) := by decide +kernel
theorem dX7_apart_20 : decode cX7_apart 20 = .ok (.goto 4, 3) := by decide +kernel
theorem dX7_apart_23 : decode cX7_apart 23 = .ok (.iload_n 3, 1) := by decide +kernel
theorem dX7_apart_24 : decode cX7_apart 24 = .ok (.ireturn, 1) := by decide +kernel
set_option maxRecDepth 20000 in
theorem ggX7_pair_X7_isDealer : GoodIn wsX7_pair wsX7_isDealer := goodIn_r _ [8, 2, 9, 10, 7, 11, 28, 29, 30, 31, 32, 33, 34, 35, 36, 37, 38, 39, 40] (by decide +kernel) (by decide +kernel)
set_option maxRecDepth 20000 in
theorem gX7_pair_X7_isDealer : GoodIn wsX7_pair (wsV RX7 62 RX7 yX7_isDealer wsX7_isDealer) := goodIn_app (goodIn_of _ (by decide +kernel)) ggX7_pair_X7_isDealer
set_option maxRecDepth 20000 in
theorem ggX7_pair_X7_in : GoodIn wsX7_pair wsX7_in := goodIn_r _ [11] (by decide +kernel) (by decide +kernel)
set_option maxRecDepth 20000 in
theorem gX7_pair_X7_in : GoodIn wsX7_pair (va_wsS RX7 36 yX7_in wsX7_in) := goodIn_app (goodIn_of _ (by decide +kernel)) ggX7_pair_X7_in
set_option maxRecDepth 20000 in
theorem ggX7_pair_X7_ofStone : GoodIn wsX7_pair wsX7_ofStone := goodIn_r _ [15, 2, 28, 29, 30, 31, 32, 33, 34, 35, 36, 37, 38, 39, 40] (by decide +kernel) (by decide +kernel)
set_option maxRecDepth 20000 in
theorem gX7_pair_X7_ofStone : GoodIn wsX7_pair (wsV RX7 40 RX7 yX7_ofStone wsX7_ofStone) := goodIn_app (goodIn_of _ (by decide +kernel)) ggX7_pair_X7_ofStone
set_option maxRecDepth 20000 in
theorem ggX7_pair_X7_areAlike : GoodIn wsX7_pair wsX7_areAlike := goodIn_r _ [19, 20, 21, 22, 7, 23, 12, 13, 14, 15, 2, 28, 29, 30, 31, 32, 33, 34, 35, 36, 37, 38, 39, 40] (by decide +kernel) (by decide +kernel)
set_option maxRecDepth 20000 in
theorem gX7_pair_X7_areAlike : GoodIn wsX7_pair (wsV RX7 160 RX7 yX7_areAlike wsX7_areAlike) := goodIn_app (goodIn_of _ (by decide +kernel)) ggX7_pair_X7_areAlike
set_option maxRecDepth 20000 in
theorem ggX7_pair_X7_apart : GoodIn wsX7_pair wsX7_apart := goodIn_r _ [27, 12, 13, 14, 7, 15, 2, 28, 29, 30, 31, 32, 33, 34, 35, 36, 37, 38, 39, 40] (by decide +kernel) (by decide +kernel)
set_option maxRecDepth 20000 in
theorem gX7_pair_X7_apart : GoodIn wsX7_pair (wsV RX7 163 RX7 yX7_apart wsX7_apart) := goodIn_app (goodIn_of _ (by decide +kernel)) ggX7_pair_X7_apart
theorem dX7_pair_0 : decode cX7_pair 0 = .ok (.aload_n 0, 1) := by decide +kernel
theorem dX7_pair_1 : decode cX7_pair 1 = .ok (.iload_n 1, 1) := by decide +kernel
theorem dX7_pair_2 : decode cX7_pair 2 = .ok (.invokevirtual 62, 3) := by decide +kernel
theorem dX7_pair_5 : decode cX7_pair 5 = .ok (.ifCond .eq 12, 3) := by decide +kernel
theorem dX7_pair_8 : decode cX7_pair 8 = .ok (.iload_n 2, 1) := by decide +kernel
theorem dX7_pair_9 : decode cX7_pair 9 = .ok (.iconst 0, 1) := by decide +kernel
theorem dX7_pair_10 : decode cX7_pair 10 = .ok (.iconst 2, 1) := by decide +kernel
theorem dX7_pair_11 : decode cX7_pair 11 = .ok (.invokestatic 36, 3) := by decide +kernel
theorem dX7_pair_14 : decode cX7_pair 14 = .ok (.ifCond .ne 6, 3) := by decide +kernel
theorem dX7_pair_17 : decode cX7_pair 17 = .ok (.ldc 28, 2) := by decide +kernel
theorem dX7_pair_19 : decode cX7_pair 19 = .ok (.ireturn, 1) := by decide +kernel
theorem dX7_pair_20 : decode cX7_pair 20 = .ok (.iconst (-1), 1) := by decide +kernel
theorem dX7_pair_21 : decode cX7_pair 21 = .ok (.istore_n 3, 1) := by decide +kernel
theorem dX7_pair_22 : decode cX7_pair 22 = .ok (.iconst 0, 1) := by decide +kernel
theorem dX7_pair_23 : decode cX7_pair 23 = .ok (.istore 4, 2) := by decide +kernel
theorem dX7_pair_25 : decode cX7_pair 25 = .ok (.iconst 0, 1) := by decide +kernel
theorem dX7_pair_26 : decode cX7_pair 26 = .ok (.istore 5, 2) := by decide +kernel
theorem dX7_pair_28 : decode cX7_pair 28 = .ok (.iload 5, 2) := by decide +kernel
theorem dX7_pair_30 : decode cX7_pair 30 = .ok (.sipush 400, 3) := by decide +kernel
theorem dX7_pair_33 : decode cX7_pair 33 = .ok (.if_icmp .ge 116, 3) := by decide +kernel
theorem dX7_pair_36 : decode cX7_pair 36 = .ok (.iload 5, 2) := by decide +kernel
theorem dX7_pair_38 : decode cX7_pair 38 = .ok (.bipush 20, 2) := by decide +kernel
theorem dX7_pair_40 : decode cX7_pair 40 = .ok (.idiv, 1) := by decide +kernel
theorem dX7_pair_41 : decode cX7_pair 41 = .ok (.istore 6, 2) := by decide +kernel
theorem dX7_pair_43 : decode cX7_pair 43 = .ok (.iload 5, 2) := by decide +kernel
theorem dX7_pair_45 : decode cX7_pair 45 = .ok (.bipush 20, 2) := by decide +kernel
theorem dX7_pair_47 : decode cX7_pair 47 = .ok (.irem, 1) := by decide +kernel
theorem dX7_pair_48 : decode cX7_pair 48 = .ok (.istore 7, 2) := by decide +kernel
theorem dX7_pair_50 : decode cX7_pair 50 = .ok (.iload 6, 2) := by decide +kernel
theorem dX7_pair_52 : decode cX7_pair 52 = .ok (.iload 7, 2) := by decide +kernel
theorem dX7_pair_54 : decode cX7_pair 54 = .ok (.if_icmp .ge 40, 3) := by decide +kernel
theorem dX7_pair_57 : decode cX7_pair 57 = .ok (.iload 7, 2) := by decide +kernel
theorem dX7_pair_59 : decode cX7_pair 59 = .ok (.aload_n 0, 1) := by decide +kernel
theorem dX7_pair_60 : decode cX7_pair 60 = .ok (.getfield 7, 3) := by decide +kernel
theorem dX7_pair_63 : decode cX7_pair 63 = .ok (.iconst 1, 1) := by decide +kernel
theorem dX7_pair_64 : decode cX7_pair 64 = .ok (.iaload, 1) := by decide +kernel
theorem dX7_pair_65 : decode cX7_pair 65 = .ok (.if_icmp .ge 29, 3) := by decide +kernel
theorem dX7_pair_68 : decode cX7_pair 68 = .ok (.aload_n 0, 1) := by decide +kernel
theorem dX7_pair_69 : decode cX7_pair 69 = .ok (.iload 6, 2) := by decide +kernel
theorem dX7_pair_71 : decode cX7_pair 71 = .ok (.iconst 4, 1) := by decide +kernel
theorem dX7_pair_72 : decode cX7_pair 72 = .ok (.invokevirtual 40, 3) := by decide +kernel
theorem dX7_pair_75 : decode cX7_pair 75 = .ok (.iload_n 1, 1) := by decide +kernel
theorem dX7_pair_76 : decode cX7_pair 76 = .ok (.if_icmp .ne 18, 3) := by decide +kernel
theorem dX7_pair_79 : decode cX7_pair 79 = .ok (.aload_n 0, 1) := by decide +kernel
theorem dX7_pair_80 : decode cX7_pair 80 = .ok (.iload 7, 2) := by decide +kernel
theorem dX7_pair_82 : decode cX7_pair 82 = .ok (.iconst 4, 1) := by decide +kernel
theorem dX7_pair_83 : decode cX7_pair 83 = .ok (.invokevirtual 40, 3) := by decide +kernel
theorem dX7_pair_86 : decode cX7_pair 86 = .ok (.iload_n 1, 1) := by decide +kernel
theorem dX7_pair_87 : decode cX7_pair 87 = .ok (.if_icmp .ne 7, 3) := by decide +kernel
theorem dX7_pair_90 : decode cX7_pair 90 = .ok (.iconst 1, 1) := by decide +kernel
theorem dX7_pair_91 : decode cX7_pair 91 = .ok (.goto 4, 3) := by decide +kernel
theorem dX7_pair_94 : decode cX7_pair 94 = .ok (.iconst 0, 1) := by decide +kernel
theorem dX7_pair_95 : decode cX7_pair 95 = .ok (.istore 8, 2) := by decide +kernel
theorem dX7_pair_97 : decode cX7_pair 97 = .ok (.iload 8, 2) := by decide +kernel
theorem dX7_pair_99 : decode cX7_pair 99 = .ok (.ifCond .eq 44, 3) := by decide +kernel
theorem dX7_pair_102 : decode cX7_pair 102 = .ok (.aload_n 0, 1) := by decide +kernel
theorem dX7_pair_103 : decode cX7_pair 103 = .ok (.iload 6, 2) := by decide +kernel
theorem dX7_pair_105 : decode cX7_pair 105 = .ok (.iload 7, 2) := by decide +kernel
theorem dX7_pair_107 : decode cX7_pair 107 = .ok (.invokevirtual 160, 3) := by decide +kernel
theorem dX7_pair_110 : decode cX7_pair 110 = .ok (.ifCond .eq 33, 3) := by decide +kernel
theorem dX7_pair_113 : decode cX7_pair 113 = .ok (.iload_n 3, 1) := by decide +kernel
theorem dX7_pair_114 : decode cX7_pair 114 = .ok (.ifCond .lt 16, 3) := by decide +kernel
theorem dX7_pair_117 : decode cX7_pair 117 = .ok (.aload_n 0, 1) := by decide +kernel
theorem dX7_pair_118 : decode cX7_pair 118 = .ok (.iload 6, 2) := by decide +kernel
theorem dX7_pair_120 : decode cX7_pair 120 = .ok (.iload 7, 2) := by decide +kernel
theorem dX7_pair_122 : decode cX7_pair 122 = .ok (.invokevirtual 163, 3) := by decide +kernel
theorem dX7_pair_125 : decode cX7_pair 125 = .ok (.iload 4, 2) := by decide +kernel
theorem dX7_pair_127 : decode cX7_pair 127 = .ok (.if_icmp .ge 16, 3) := by decide +kernel
theorem dX7_pair_130 : decode cX7_pair 130 = .ok (.iload 5, 2) := by decide +kernel
theorem dX7_pair_132 : decode cX7_pair 132 = .ok (.istore_n 3, 1) := by decide +kernel
theorem dX7_pair_133 : decode cX7_pair 133 = .ok (.aload_n 0, 1) := by decide +kernel
theorem dX7_pair_134 : decode cX7_pair 134 = .ok (.iload 6, 2) := by decide +kernel
theorem dX7_pair_136 : decode cX7_pair 136 = .ok (.iload 7, 2) := by decide +kernel
theorem dX7_pair_138 : decode cX7_pair 138 = .ok (.invokevirtual 163, 3) := by decide +kernel
theorem dX7_pair_141 : decode cX7_pair 141 = .ok (.istore 4, 2) := by decide +kernel
theorem dX7_pair_143 : decode cX7_pair 143 = .ok (.iinc 5 1, 3) := by decide +kernel
theorem dX7_pair_146 : decode cX7_pair 146 = .ok (.goto (-118), 3) := by decide +kernel
theorem dX7_pair_149 : decode cX7_pair 149 = .ok (.iload_n 3, 1) := by decide +kernel
theorem dX7_pair_150 : decode cX7_pair 150 = .ok (.ifCond .ge 8, 3) := by decide +kernel
theorem dX7_pair_153 : decode cX7_pair 153 = .ok (.ldc 129, 2) := by decide +kernel
theorem dX7_pair_155 : decode cX7_pair 155 = .ok (.goto 28, 3) := by decide +kernel
theorem dX7_pair_158 : decode cX7_pair 158 = .ok (.iload_n 2, 1) := by decide +kernel
theorem dX7_pair_159 : decode cX7_pair 159 = .ok (.ifCond .ne 10, 3) := by decide +kernel
theorem dX7_pair_162 : decode cX7_pair 162 = .ok (.iload_n 3, 1) := by decide +kernel
theorem dX7_pair_163 : decode cX7_pair 163 = .ok (.bipush 20, 2) := by decide +kernel
theorem dX7_pair_165 : decode cX7_pair 165 = .ok (.idiv, 1) := by decide +kernel
theorem dX7_pair_166 : decode cX7_pair 166 = .ok (.goto 17, 3) := by decide +kernel
theorem dX7_pair_169 : decode cX7_pair 169 = .ok (.iload_n 2, 1) := by decide +kernel
theorem dX7_pair_170 : decode cX7_pair 170 = .ok (.iconst 1, 1) := by decide +kernel
theorem dX7_pair_171 : decode cX7_pair 171 = .ok (.if_icmp .ne 10, 3) := by decide +kernel
theorem dX7_pair_174 : decode cX7_pair 174 = .ok (.iload_n 3, 1) := by decide +kernel
theorem dX7_pair_175 : decode cX7_pair 175 = .ok (.bipush 20, 2) := by decide +kernel
theorem dX7_pair_177 : decode cX7_pair 177 = .ok (.irem, 1) := by decide +kernel
theorem dX7_pair_178 : decode cX7_pair 178 = .ok (.goto 5, 3) := by decide +kernel
theorem dX7_pair_181 : decode cX7_pair 181 = .ok (.iload 4, 2) := by decide +kernel
theorem dX7_pair_183 : decode cX7_pair 183 = .ok (.ireturn, 1) := by decide +kernel
set_option maxRecDepth 20000 in
theorem ggX7_grades_X7_isDealer : GoodIn wsX7_grades wsX7_isDealer := goodIn_r _ [7, 2, 8, 9, 6, 10, 23, 24, 25, 26, 27, 28, 29, 30, 31, 32, 33, 34, 35] (by decide +kernel) (by decide +kernel)
set_option maxRecDepth 20000 in
theorem gX7_grades_X7_isDealer : GoodIn wsX7_grades (wsV RX7 62 RX7 yX7_isDealer wsX7_isDealer) := goodIn_app (goodIn_of _ (by decide +kernel)) ggX7_grades_X7_isDealer
set_option maxRecDepth 20000 in
theorem ggX7_grades_X7_ofStone : GoodIn wsX7_grades wsX7_ofStone := goodIn_r _ [14, 2, 23, 24, 25, 26, 27, 28, 29, 30, 31, 32, 33, 34, 35] (by decide +kernel) (by decide +kernel)
set_option maxRecDepth 20000 in
theorem gX7_grades_X7_ofStone : GoodIn wsX7_grades (wsV RX7 40 RX7 yX7_ofStone wsX7_ofStone) := goodIn_app (goodIn_of _ (by decide +kernel)) ggX7_grades_X7_ofStone
set_option maxRecDepth 20000 in
theorem ggX7_grades_X7_areAlike : GoodIn wsX7_grades wsX7_areAlike := goodIn_r _ [18, 19, 20, 21, 6, 22, 11, 12, 13, 14, 2, 23, 24, 25, 26, 27, 28, 29, 30, 31, 32, 33, 34, 35] (by decide +kernel) (by decide +kernel)
set_option maxRecDepth 20000 in
theorem gX7_grades_X7_areAlike : GoodIn wsX7_grades (wsV RX7 160 RX7 yX7_areAlike wsX7_areAlike) := goodIn_app (goodIn_of _ (by decide +kernel)) ggX7_grades_X7_areAlike
theorem dX7_grades_0 : decode cX7_grades 0 = .ok (.aload_n 0, 1) := by decide +kernel
theorem dX7_grades_1 : decode cX7_grades 1 = .ok (.iload_n 1, 1) := by decide +kernel
theorem dX7_grades_2 : decode cX7_grades 2 = .ok (.invokevirtual 62, 3) := by decide +kernel
theorem dX7_grades_5 : decode cX7_grades 5 = .ok (.ifCond .ne 6, 3) := by decide +kernel
theorem dX7_grades_8 : decode cX7_grades 8 = .ok (.ldc 28, 2) := by decide +kernel
theorem dX7_grades_10 : decode cX7_grades 10 = .ok (.ireturn, 1) := by decide +kernel
theorem dX7_grades_11 : decode cX7_grades 11 = .ok (.iconst 0, 1) := by decide +kernel
theorem dX7_grades_12 : decode cX7_grades 12 = .ok (.istore_n 2, 1) := by decide +kernel
theorem dX7_grades_13 : decode cX7_grades 13 = .ok (.iconst 0, 1) := by decide +kernel
theorem dX7_grades_14 : decode cX7_grades 14 = .ok (.istore_n 3, 1) := by decide +kernel
theorem dX7_grades_15 : decode cX7_grades 15 = .ok (.iload_n 3, 1) := by decide +kernel
theorem dX7_grades_16 : decode cX7_grades 16 = .ok (.aload_n 0, 1) := by decide +kernel
theorem dX7_grades_17 : decode cX7_grades 17 = .ok (.getfield 7, 3) := by decide +kernel
theorem dX7_grades_20 : decode cX7_grades 20 = .ok (.iconst 1, 1) := by decide +kernel
theorem dX7_grades_21 : decode cX7_grades 21 = .ok (.iaload, 1) := by decide +kernel
theorem dX7_grades_22 : decode cX7_grades 22 = .ok (.if_icmp .ge 87, 3) := by decide +kernel
theorem dX7_grades_25 : decode cX7_grades 25 = .ok (.aload_n 0, 1) := by decide +kernel
theorem dX7_grades_26 : decode cX7_grades 26 = .ok (.iload_n 3, 1) := by decide +kernel
theorem dX7_grades_27 : decode cX7_grades 27 = .ok (.iconst 4, 1) := by decide +kernel
theorem dX7_grades_28 : decode cX7_grades 28 = .ok (.invokevirtual 40, 3) := by decide +kernel
theorem dX7_grades_31 : decode cX7_grades 31 = .ok (.iload_n 1, 1) := by decide +kernel
theorem dX7_grades_32 : decode cX7_grades 32 = .ok (.if_icmp .ne 7, 3) := by decide +kernel
theorem dX7_grades_35 : decode cX7_grades 35 = .ok (.iconst 1, 1) := by decide +kernel
theorem dX7_grades_36 : decode cX7_grades 36 = .ok (.goto 4, 3) := by decide +kernel
theorem dX7_grades_39 : decode cX7_grades 39 = .ok (.iconst 0, 1) := by decide +kernel
theorem dX7_grades_40 : decode cX7_grades 40 = .ok (.istore 4, 2) := by decide +kernel
theorem dX7_grades_42 : decode cX7_grades 42 = .ok (.iconst 0, 1) := by decide +kernel
theorem dX7_grades_43 : decode cX7_grades 43 = .ok (.istore 5, 2) := by decide +kernel
theorem dX7_grades_45 : decode cX7_grades 45 = .ok (.iload 5, 2) := by decide +kernel
theorem dX7_grades_47 : decode cX7_grades 47 = .ok (.iload_n 3, 1) := by decide +kernel
theorem dX7_grades_48 : decode cX7_grades 48 = .ok (.if_icmp .ge 42, 3) := by decide +kernel
theorem dX7_grades_51 : decode cX7_grades 51 = .ok (.iload 4, 2) := by decide +kernel
theorem dX7_grades_53 : decode cX7_grades 53 = .ok (.ifCond .eq 37, 3) := by decide +kernel
theorem dX7_grades_56 : decode cX7_grades 56 = .ok (.aload_n 0, 1) := by decide +kernel
theorem dX7_grades_57 : decode cX7_grades 57 = .ok (.iload 5, 2) := by decide +kernel
theorem dX7_grades_59 : decode cX7_grades 59 = .ok (.iconst 4, 1) := by decide +kernel
theorem dX7_grades_60 : decode cX7_grades 60 = .ok (.invokevirtual 40, 3) := by decide +kernel
theorem dX7_grades_63 : decode cX7_grades 63 = .ok (.iload_n 1, 1) := by decide +kernel
theorem dX7_grades_64 : decode cX7_grades 64 = .ok (.if_icmp .ne 13, 3) := by decide +kernel
theorem dX7_grades_67 : decode cX7_grades 67 = .ok (.aload_n 0, 1) := by decide +kernel
theorem dX7_grades_68 : decode cX7_grades 68 = .ok (.iload 5, 2) := by decide +kernel
theorem dX7_grades_70 : decode cX7_grades 70 = .ok (.iload_n 3, 1) := by decide +kernel
theorem dX7_grades_71 : decode cX7_grades 71 = .ok (.invokevirtual 160, 3) := by decide +kernel
theorem dX7_grades_74 : decode cX7_grades 74 = .ok (.ifCond .ne 7, 3) := by decide +kernel
theorem dX7_grades_77 : decode cX7_grades 77 = .ok (.iconst 1, 1) := by decide +kernel
theorem dX7_grades_78 : decode cX7_grades 78 = .ok (.goto 4, 3) := by decide +kernel
theorem dX7_grades_81 : decode cX7_grades 81 = .ok (.iconst 0, 1) := by decide +kernel
theorem dX7_grades_82 : decode cX7_grades 82 = .ok (.istore 4, 2) := by decide +kernel
theorem dX7_grades_84 : decode cX7_grades 84 = .ok (.iinc 5 1, 3) := by decide +kernel
theorem dX7_grades_87 : decode cX7_grades 87 = .ok (.goto (-42), 3) := by decide +kernel
theorem dX7_grades_90 : decode cX7_grades 90 = .ok (.iload_n 2, 1) := by decide +kernel
theorem dX7_grades_91 : decode cX7_grades 91 = .ok (.iload 4, 2) := by decide +kernel
theorem dX7_grades_93 : decode cX7_grades 93 = .ok (.ifCond .eq 7, 3) := by decide +kernel
theorem dX7_grades_96 : decode cX7_grades 96 = .ok (.iconst 1, 1) := by decide +kernel
theorem dX7_grades_97 : decode cX7_grades 97 = .ok (.goto 4, 3) := by decide +kernel
theorem dX7_grades_100 : decode cX7_grades 100 = .ok (.iconst 0, 1) := by decide +kernel
theorem dX7_grades_101 : decode cX7_grades 101 = .ok (.iadd, 1) := by decide +kernel
theorem dX7_grades_102 : decode cX7_grades 102 = .ok (.istore_n 2, 1) := by decide +kernel
theorem dX7_grades_103 : decode cX7_grades 103 = .ok (.iinc 3 1, 3) := by decide +kernel
theorem dX7_grades_106 : decode cX7_grades 106 = .ok (.goto (-91), 3) := by decide +kernel
theorem dX7_grades_109 : decode cX7_grades 109 = .ok (.iload_n 2, 1) := by decide +kernel
theorem dX7_grades_110 : decode cX7_grades 110 = .ok (.ireturn, 1) := by decide +kernel
theorem dX7_mark_0 : decode cX7_mark 0 = .ok (.iconst 0, 1) := by decide +kernel
theorem dX7_mark_1 : decode cX7_mark 1 = .ok (.istore_n 1, 1) := by decide +kernel
theorem dX7_mark_2 : decode cX7_mark 2 = .ok (.iload_n 1, 1) := by decide +kernel
theorem dX7_mark_3 : decode cX7_mark 3 = .ok (.sipush 664, 3) := by decide +kernel
theorem dX7_mark_6 : decode cX7_mark 6 = .ok (.if_icmp .ge 21, 3) := by decide +kernel
theorem dX7_mark_9 : decode cX7_mark 9 = .ok (.aload_n 0, 1) := by decide +kernel
theorem dX7_mark_10 : decode cX7_mark 10 = .ok (.getfield 16, 3) := by decide +kernel
theorem dX7_mark_13 : decode cX7_mark 13 = .ok (.iload_n 1, 1) := by decide +kernel
theorem dX7_mark_14 : decode cX7_mark 14 = .ok (.aload_n 0, 1) := by decide +kernel
theorem dX7_mark_15 : decode cX7_mark 15 = .ok (.getfield 7, 3) := by decide +kernel
theorem dX7_mark_18 : decode cX7_mark 18 = .ok (.iload_n 1, 1) := by decide +kernel
theorem dX7_mark_19 : decode cX7_mark 19 = .ok (.iaload, 1) := by decide +kernel
theorem dX7_mark_20 : decode cX7_mark 20 = .ok (.iastore, 1) := by decide +kernel
theorem dX7_mark_21 : decode cX7_mark 21 = .ok (.iinc 1 1, 3) := by decide +kernel
theorem dX7_mark_24 : decode cX7_mark 24 = .ok (.goto (-22), 3) := by decide +kernel
theorem dX7_mark_27 : decode cX7_mark 27 = .ok (.aload_n 0, 1) := by decide +kernel
theorem dX7_mark_28 : decode cX7_mark 28 = .ok (.iconst 1, 1) := by decide +kernel
theorem dX7_mark_29 : decode cX7_mark 29 = .ok (.putfield 155, 3) := by decide +kernel
theorem dX7_mark_32 : decode cX7_mark 32 = .ok (.aload_n 0, 1) := by decide +kernel
theorem dX7_mark_33 : decode cX7_mark 33 = .ok (.getfield 7, 3) := by decide +kernel
theorem dX7_mark_36 : decode cX7_mark 36 = .ok (.iconst 3, 1) := by decide +kernel
theorem dX7_mark_37 : decode cX7_mark 37 = .ok (.iaload, 1) := by decide +kernel
theorem dX7_mark_38 : decode cX7_mark 38 = .ok (.ireturn, 1) := by decide +kernel
set_option maxRecDepth 20000 in
theorem ggX7_restore_X7_begins : GoodIn wsX7_restore wsX7_begins := goodIn_r _ [9, 10, 3, 22, 23, 24, 25, 26, 27, 28, 29, 30, 31, 32, 33, 34] (by decide +kernel) (by decide +kernel)
set_option maxRecDepth 20000 in
theorem gX7_restore_X7_begins : GoodIn wsX7_restore (wsV RX7 101 RX7 yX7_begins wsX7_begins) := goodIn_app (goodIn_of _ (by decide +kernel)) ggX7_restore_X7_begins
set_option maxRecDepth 20000 in
theorem ggX7_restore_X7_acted : GoodIn wsX7_restore wsX7_acted := goodIn_r _ [14, 15, 16, 17, 10, 18, 19, 20, 8, 21, 3, 22, 23, 24, 25, 26, 27, 28, 29, 30, 31, 32, 33, 34] (by decide +kernel) (by decide +kernel)
set_option maxRecDepth 20000 in
theorem gX7_restore_X7_acted : GoodIn wsX7_restore (wsV RX7 104 RX7 yX7_acted wsX7_acted) := goodIn_app (goodIn_of _ (by decide +kernel)) ggX7_restore_X7_acted
theorem dX7_restore_0 : decode cX7_restore 0 = .ok (.aload_n 0, 1) := by decide +kernel
theorem dX7_restore_1 : decode cX7_restore 1 = .ok (.invokevirtual 101, 3) := by decide +kernel
theorem dX7_restore_4 : decode cX7_restore 4 = .ok (.aload_n 0, 1) := by decide +kernel
theorem dX7_restore_5 : decode cX7_restore 5 = .ok (.getfield 155, 3) := by decide +kernel
theorem dX7_restore_8 : decode cX7_restore 8 = .ok (.ifCond .ne 6, 3) := by decide +kernel
theorem dX7_restore_11 : decode cX7_restore 11 = .ok (.ldc 69, 2) := by decide +kernel
theorem dX7_restore_13 : decode cX7_restore 13 = .ok (.ireturn, 1) := by decide +kernel
theorem dX7_restore_14 : decode cX7_restore 14 = .ok (.iconst 0, 1) := by decide +kernel
theorem dX7_restore_15 : decode cX7_restore 15 = .ok (.istore_n 1, 1) := by decide +kernel
theorem dX7_restore_16 : decode cX7_restore 16 = .ok (.iload_n 1, 1) := by decide +kernel
theorem dX7_restore_17 : decode cX7_restore 17 = .ok (.sipush 664, 3) := by decide +kernel
theorem dX7_restore_20 : decode cX7_restore 20 = .ok (.if_icmp .ge 21, 3) := by decide +kernel
theorem dX7_restore_23 : decode cX7_restore 23 = .ok (.aload_n 0, 1) := by decide +kernel
theorem dX7_restore_24 : decode cX7_restore 24 = .ok (.getfield 7, 3) := by decide +kernel
theorem dX7_restore_27 : decode cX7_restore 27 = .ok (.iload_n 1, 1) := by decide +kernel
theorem dX7_restore_28 : decode cX7_restore 28 = .ok (.aload_n 0, 1) := by decide +kernel
theorem dX7_restore_29 : decode cX7_restore 29 = .ok (.getfield 16, 3) := by decide +kernel
theorem dX7_restore_32 : decode cX7_restore 32 = .ok (.iload_n 1, 1) := by decide +kernel
theorem dX7_restore_33 : decode cX7_restore 33 = .ok (.iaload, 1) := by decide +kernel
theorem dX7_restore_34 : decode cX7_restore 34 = .ok (.iastore, 1) := by decide +kernel
theorem dX7_restore_35 : decode cX7_restore 35 = .ok (.iinc 1 1, 3) := by decide +kernel
theorem dX7_restore_38 : decode cX7_restore 38 = .ok (.goto (-22), 3) := by decide +kernel
theorem dX7_restore_41 : decode cX7_restore 41 = .ok (.aload_n 0, 1) := by decide +kernel
theorem dX7_restore_42 : decode cX7_restore 42 = .ok (.aload_n 0, 1) := by decide +kernel
theorem dX7_restore_43 : decode cX7_restore 43 = .ok (.getfield 7, 3) := by decide +kernel
theorem dX7_restore_46 : decode cX7_restore 46 = .ok (.iconst 3, 1) := by decide +kernel
theorem dX7_restore_47 : decode cX7_restore 47 = .ok (.iaload, 1) := by decide +kernel
theorem dX7_restore_48 : decode cX7_restore 48 = .ok (.invokevirtual 104, 3) := by decide +kernel
theorem dX7_restore_51 : decode cX7_restore 51 = .ok (.ireturn, 1) := by decide +kernel
theorem dX7_undo_0 : decode cX7_undo 0 = .ok (.aload_n 0, 1) := by decide +kernel
theorem dX7_undo_1 : decode cX7_undo 1 = .ok (.getfield 32, 3) := by decide +kernel
