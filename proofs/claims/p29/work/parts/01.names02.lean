set_option maxRecDepth 20000 in
theorem gX1_regrade_X5_isSold : GoodIn wsX1_regrade (wsV RX1 139 RX5 yX5_isSold wsX5_isSold) := goodIn_app (goodIn_of _ (by decide +kernel)) ggX1_regrade_X5_isSold
set_option maxRecDepth 20000 in
theorem ggX1_regrade_X1_priceOf : GoodIn wsX1_regrade wsX1_priceOf := goodIn_r _ [22, 23, 1, 24, 25, 26, 7, 27, 28, 29, 30, 31, 32, 33, 34, 35, 36, 37, 43, 44, 45, 46, 47, 48, 49, 50, 51, 52, 53, 54, 55, 56, 57, 58, 59, 60, 61, 62, 63, 64, 65] (by decide +kernel) (by decide +kernel)
set_option maxRecDepth 20000 in
theorem gX1_regrade_X1_priceOf : GoodIn wsX1_regrade (wsV RX1 113 RX1 yX1_priceOf wsX1_priceOf) := goodIn_app (goodIn_of _ (by decide +kernel)) ggX1_regrade_X1_priceOf
set_option maxRecDepth 20000 in
theorem ggX1_regrade_X5_isOut : GoodIn wsX1_regrade wsX5_isOut := goodIn_r _ [41, 42, 52, 53, 54, 55, 56, 57, 58, 59, 60, 61] (by decide +kernel) (by decide +kernel)
set_option maxRecDepth 20000 in
theorem gX1_regrade_X5_isOut : GoodIn wsX1_regrade (wsV RX1 120 RX5 yX5_isOut wsX5_isOut) := goodIn_app (goodIn_of _ (by decide +kernel)) ggX1_regrade_X5_isOut
theorem dX1_regrade_0 : decode cX1_regrade 0 = .ok (.aload_n 0, 1) := by decide +kernel
theorem dX1_regrade_1 : decode cX1_regrade 1 = .ok (.getfield 21, 3) := by decide +kernel
theorem dX1_regrade_4 : decode cX1_regrade 4 = .ok (.iload_n 1, 1) := by decide +kernel
theorem dX1_regrade_5 : decode cX1_regrade 5 = .ok (.invokevirtual 117, 3) := by decide +kernel
theorem dX1_regrade_8 : decode cX1_regrade 8 = .ok (.ifCond .eq 11, 3) := by decide +kernel
theorem dX1_regrade_11 : decode cX1_regrade 11 = .ok (.iload_n 2, 1) := by decide +kernel
theorem dX1_regrade_12 : decode cX1_regrade 12 = .ok (.iload_n 3, 1) := by decide +kernel
theorem dX1_regrade_13 : decode cX1_regrade 13 = .ok (.invokestatic 73, 3) := by decide +kernel
theorem dX1_regrade_16 : decode cX1_regrade 16 = .ok (.ifCond .ne 6, 3) := by decide +kernel
theorem dX1_regrade_19 : decode cX1_regrade 19 = .ok (.ldc 77, 2) := by decide +kernel
theorem dX1_regrade_21 : decode cX1_regrade 21 = .ok (.ireturn, 1) := by decide +kernel
theorem dX1_regrade_22 : decode cX1_regrade 22 = .ok (.aload_n 0, 1) := by decide +kernel
theorem dX1_regrade_23 : decode cX1_regrade 23 = .ok (.getfield 21, 3) := by decide +kernel
theorem dX1_regrade_26 : decode cX1_regrade 26 = .ok (.iload_n 1, 1) := by decide +kernel
theorem dX1_regrade_27 : decode cX1_regrade 27 = .ok (.invokevirtual 139, 3) := by decide +kernel
theorem dX1_regrade_30 : decode cX1_regrade 30 = .ok (.ifCond .eq 6, 3) := by decide +kernel
theorem dX1_regrade_33 : decode cX1_regrade 33 = .ok (.ldc 97, 2) := by decide +kernel
theorem dX1_regrade_35 : decode cX1_regrade 35 = .ok (.ireturn, 1) := by decide +kernel
theorem dX1_regrade_36 : decode cX1_regrade 36 = .ok (.bipush 10, 2) := by decide +kernel
theorem dX1_regrade_38 : decode cX1_regrade 38 = .ok (.aload_n 0, 1) := by decide +kernel
theorem dX1_regrade_39 : decode cX1_regrade 39 = .ok (.getfield 21, 3) := by decide +kernel
theorem dX1_regrade_42 : decode cX1_regrade 42 = .ok (.getfield 146, 3) := by decide +kernel
theorem dX1_regrade_45 : decode cX1_regrade 45 = .ok (.iload_n 1, 1) := by decide +kernel
theorem dX1_regrade_46 : decode cX1_regrade 46 = .ok (.iaload, 1) := by decide +kernel
theorem dX1_regrade_47 : decode cX1_regrade 47 = .ok (.imul, 1) := by decide +kernel
theorem dX1_regrade_48 : decode cX1_regrade 48 = .ok (.aload_n 0, 1) := by decide +kernel
theorem dX1_regrade_49 : decode cX1_regrade 49 = .ok (.getfield 21, 3) := by decide +kernel
theorem dX1_regrade_52 : decode cX1_regrade 52 = .ok (.getfield 149, 3) := by decide +kernel
theorem dX1_regrade_55 : decode cX1_regrade 55 = .ok (.iload_n 1, 1) := by decide +kernel
theorem dX1_regrade_56 : decode cX1_regrade 56 = .ok (.iaload, 1) := by decide +kernel
theorem dX1_regrade_57 : decode cX1_regrade 57 = .ok (.iadd, 1) := by decide +kernel
theorem dX1_regrade_58 : decode cX1_regrade 58 = .ok (.istore 4, 2) := by decide +kernel
theorem dX1_regrade_60 : decode cX1_regrade 60 = .ok (.aload_n 0, 1) := by decide +kernel
theorem dX1_regrade_61 : decode cX1_regrade 61 = .ok (.getfield 21, 3) := by decide +kernel
theorem dX1_regrade_64 : decode cX1_regrade 64 = .ok (.getfield 146, 3) := by decide +kernel
theorem dX1_regrade_67 : decode cX1_regrade 67 = .ok (.iload_n 1, 1) := by decide +kernel
theorem dX1_regrade_68 : decode cX1_regrade 68 = .ok (.iload_n 2, 1) := by decide +kernel
theorem dX1_regrade_69 : decode cX1_regrade 69 = .ok (.iastore, 1) := by decide +kernel
theorem dX1_regrade_70 : decode cX1_regrade 70 = .ok (.aload_n 0, 1) := by decide +kernel
theorem dX1_regrade_71 : decode cX1_regrade 71 = .ok (.getfield 21, 3) := by decide +kernel
theorem dX1_regrade_74 : decode cX1_regrade 74 = .ok (.getfield 149, 3) := by decide +kernel
theorem dX1_regrade_77 : decode cX1_regrade 77 = .ok (.iload_n 1, 1) := by decide +kernel
theorem dX1_regrade_78 : decode cX1_regrade 78 = .ok (.iload_n 3, 1) := by decide +kernel
theorem dX1_regrade_79 : decode cX1_regrade 79 = .ok (.iastore, 1) := by decide +kernel
theorem dX1_regrade_80 : decode cX1_regrade 80 = .ok (.aload_n 0, 1) := by decide +kernel
theorem dX1_regrade_81 : decode cX1_regrade 81 = .ok (.iload_n 1, 1) := by decide +kernel
theorem dX1_regrade_82 : decode cX1_regrade 82 = .ok (.invokevirtual 113, 3) := by decide +kernel
theorem dX1_regrade_85 : decode cX1_regrade 85 = .ok (.istore 5, 2) := by decide +kernel
theorem dX1_regrade_87 : decode cX1_regrade 87 = .ok (.aload_n 0, 1) := by decide +kernel
theorem dX1_regrade_88 : decode cX1_regrade 88 = .ok (.getfield 21, 3) := by decide +kernel
theorem dX1_regrade_91 : decode cX1_regrade 91 = .ok (.iload_n 1, 1) := by decide +kernel
theorem dX1_regrade_92 : decode cX1_regrade 92 = .ok (.invokevirtual 120, 3) := by decide +kernel
theorem dX1_regrade_95 : decode cX1_regrade 95 = .ok (.ifCond .eq 20, 3) := by decide +kernel
theorem dX1_regrade_98 : decode cX1_regrade 98 = .ok (.iload 5, 2) := by decide +kernel
theorem dX1_regrade_100 : decode cX1_regrade 100 = .ok (.iconst (-1), 1) := by decide +kernel
theorem dX1_regrade_101 : decode cX1_regrade 101 = .ok (.if_icmp .eq 14, 3) := by decide +kernel
theorem dX1_regrade_104 : decode cX1_regrade 104 = .ok (.aload_n 0, 1) := by decide +kernel
theorem dX1_regrade_105 : decode cX1_regrade 105 = .ok (.getfield 21, 3) := by decide +kernel
theorem dX1_regrade_108 : decode cX1_regrade 108 = .ok (.getfield 110, 3) := by decide +kernel
theorem dX1_regrade_111 : decode cX1_regrade 111 = .ok (.iload_n 1, 1) := by decide +kernel
theorem dX1_regrade_112 : decode cX1_regrade 112 = .ok (.iload 5, 2) := by decide +kernel
theorem dX1_regrade_114 : decode cX1_regrade 114 = .ok (.iastore, 1) := by decide +kernel
theorem dX1_regrade_115 : decode cX1_regrade 115 = .ok (.iload 4, 2) := by decide +kernel
theorem dX1_regrade_117 : decode cX1_regrade 117 = .ok (.ireturn, 1) := by decide +kernel
set_option maxRecDepth 20000 in
theorem ggX1_passDays_X1_keepLateOnes : GoodIn wsX1_passDays wsX1_keepLateOnes := goodIn_r _ [9, 10, 2, 11, 12, 13, 14, 15, 16, 8, 17, 18, 19, 20, 21, 22, 23, 24, 25, 26, 27, 28, 29, 30, 31, 32, 33, 34, 35, 36, 37, 38, 39, 40, 41, 42, 43, 44, 45, 46, 47, 48, 49, 50, 51, 52, 53, 54] (by decide +kernel) (by decide +kernel)
set_option maxRecDepth 20000 in
theorem gX1_passDays_X1_keepLateOnes : GoodIn wsX1_passDays (wsV RX1 152 RX1 yX1_keepLateOnes wsX1_keepLateOnes) := goodIn_app (goodIn_of _ (by decide +kernel)) ggX1_passDays_X1_keepLateOnes
theorem dX1_passDays_0 : decode cX1_passDays 0 = .ok (.iload_n 1, 1) := by decide +kernel
theorem dX1_passDays_1 : decode cX1_passDays 1 = .ok (.iconst 1, 1) := by decide +kernel
theorem dX1_passDays_2 : decode cX1_passDays 2 = .ok (.if_icmp .lt 9, 3) := by decide +kernel
theorem dX1_passDays_5 : decode cX1_passDays 5 = .ok (.iload_n 1, 1) := by decide +kernel
theorem dX1_passDays_6 : decode cX1_passDays 6 = .ok (.bipush 99, 2) := by decide +kernel
theorem dX1_passDays_8 : decode cX1_passDays 8 = .ok (.if_icmp .le 6, 3) := by decide +kernel
theorem dX1_passDays_11 : decode cX1_passDays 11 = .ok (.ldc 77, 2) := by decide +kernel
theorem dX1_passDays_13 : decode cX1_passDays 13 = .ok (.ireturn, 1) := by decide +kernel
theorem dX1_passDays_14 : decode cX1_passDays 14 = .ok (.aload_n 0, 1) := by decide +kernel
theorem dX1_passDays_15 : decode cX1_passDays 15 = .ok (.getfield 40, 3) := by decide +kernel
theorem dX1_passDays_18 : decode cX1_passDays 18 = .ok (.iload_n 1, 1) := by decide +kernel
theorem dX1_passDays_19 : decode cX1_passDays 19 = .ok (.iadd, 1) := by decide +kernel
theorem dX1_passDays_20 : decode cX1_passDays 20 = .ok (.sipush 2000, 3) := by decide +kernel
theorem dX1_passDays_23 : decode cX1_passDays 23 = .ok (.if_icmp .le 6, 3) := by decide +kernel
theorem dX1_passDays_26 : decode cX1_passDays 26 = .ok (.ldc 68, 2) := by decide +kernel
theorem dX1_passDays_28 : decode cX1_passDays 28 = .ok (.ireturn, 1) := by decide +kernel
theorem dX1_passDays_29 : decode cX1_passDays 29 = .ok (.iconst 0, 1) := by decide +kernel
theorem dX1_passDays_30 : decode cX1_passDays 30 = .ok (.istore_n 2, 1) := by decide +kernel
theorem dX1_passDays_31 : decode cX1_passDays 31 = .ok (.iconst 0, 1) := by decide +kernel
theorem dX1_passDays_32 : decode cX1_passDays 32 = .ok (.istore_n 3, 1) := by decide +kernel
theorem dX1_passDays_33 : decode cX1_passDays 33 = .ok (.iload_n 3, 1) := by decide +kernel
theorem dX1_passDays_34 : decode cX1_passDays 34 = .ok (.iload_n 1, 1) := by decide +kernel
theorem dX1_passDays_35 : decode cX1_passDays 35 = .ok (.if_icmp .ge 26, 3) := by decide +kernel
theorem dX1_passDays_38 : decode cX1_passDays 38 = .ok (.aload_n 0, 1) := by decide +kernel
theorem dX1_passDays_39 : decode cX1_passDays 39 = .ok (.dup, 1) := by decide +kernel
theorem dX1_passDays_40 : decode cX1_passDays 40 = .ok (.getfield 40, 3) := by decide +kernel
theorem dX1_passDays_43 : decode cX1_passDays 43 = .ok (.iconst 1, 1) := by decide +kernel
theorem dX1_passDays_44 : decode cX1_passDays 44 = .ok (.iadd, 1) := by decide +kernel
theorem dX1_passDays_45 : decode cX1_passDays 45 = .ok (.putfield 40, 3) := by decide +kernel
theorem dX1_passDays_48 : decode cX1_passDays 48 = .ok (.iload_n 2, 1) := by decide +kernel
theorem dX1_passDays_49 : decode cX1_passDays 49 = .ok (.aload_n 0, 1) := by decide +kernel
theorem dX1_passDays_50 : decode cX1_passDays 50 = .ok (.invokevirtual 152, 3) := by decide +kernel
theorem dX1_passDays_53 : decode cX1_passDays 53 = .ok (.iadd, 1) := by decide +kernel
theorem dX1_passDays_54 : decode cX1_passDays 54 = .ok (.istore_n 2, 1) := by decide +kernel
theorem dX1_passDays_55 : decode cX1_passDays 55 = .ok (.iinc 3 1, 3) := by decide +kernel
theorem dX1_passDays_58 : decode cX1_passDays 58 = .ok (.goto (-25), 3) := by decide +kernel
theorem dX1_passDays_61 : decode cX1_passDays 61 = .ok (.aload_n 0, 1) := by decide +kernel
theorem dX1_passDays_62 : decode cX1_passDays 62 = .ok (.dup, 1) := by decide +kernel
theorem dX1_passDays_63 : decode cX1_passDays 63 = .ok (.getfield 49, 3) := by decide +kernel
theorem dX1_passDays_66 : decode cX1_passDays 66 = .ok (.iload_n 2, 1) := by decide +kernel
theorem dX1_passDays_67 : decode cX1_passDays 67 = .ok (.iadd, 1) := by decide +kernel
theorem dX1_passDays_68 : decode cX1_passDays 68 = .ok (.putfield 49, 3) := by decide +kernel
theorem dX1_passDays_71 : decode cX1_passDays 71 = .ok (.iload_n 2, 1) := by decide +kernel
theorem dX1_passDays_72 : decode cX1_passDays 72 = .ok (.ireturn, 1) := by decide +kernel
theorem dX1_putSetting_0 : decode cX1_putSetting 0 = .ok (.iload_n 1, 1) := by decide +kernel
theorem dX1_putSetting_1 : decode cX1_putSetting 1 = .ok (.ifCond .lt 27, 3) := by decide +kernel
theorem dX1_putSetting_4 : decode cX1_putSetting 4 = .ok (.iload_n 1, 1) := by decide +kernel
theorem dX1_putSetting_5 : decode cX1_putSetting 5 = .ok (.iconst 1, 1) := by decide +kernel
theorem dX1_putSetting_6 : decode cX1_putSetting 6 = .ok (.if_icmp .gt 22, 3) := by decide +kernel
theorem dX1_putSetting_9 : decode cX1_putSetting 9 = .ok (.iload_n 2, 1) := by decide +kernel
theorem dX1_putSetting_10 : decode cX1_putSetting 10 = .ok (.ifCond .lt 18, 3) := by decide +kernel
theorem dX1_putSetting_13 : decode cX1_putSetting 13 = .ok (.iload_n 2, 1) := by decide +kernel
theorem dX1_putSetting_14 : decode cX1_putSetting 14 = .ok (.iload_n 1, 1) := by decide +kernel
theorem dX1_putSetting_15 : decode cX1_putSetting 15 = .ok (.ifCond .ne 8, 3) := by decide +kernel
theorem dX1_putSetting_18 : decode cX1_putSetting 18 = .ok (.bipush 30, 2) := by decide +kernel
theorem dX1_putSetting_20 : decode cX1_putSetting 20 = .ok (.goto 5, 3) := by decide +kernel
theorem dX1_putSetting_23 : decode cX1_putSetting 23 = .ok (.bipush 100, 2) := by decide +kernel
theorem dX1_putSetting_25 : decode cX1_putSetting 25 = .ok (.if_icmp .le 6, 3) := by decide +kernel
theorem dX1_putSetting_28 : decode cX1_putSetting 28 = .ok (.ldc 77, 2) := by decide +kernel
theorem dX1_putSetting_30 : decode cX1_putSetting 30 = .ok (.ireturn, 1) := by decide +kernel
theorem dX1_putSetting_31 : decode cX1_putSetting 31 = .ok (.iload_n 1, 1) := by decide +kernel
theorem dX1_putSetting_32 : decode cX1_putSetting 32 = .ok (.ifCond .ne 10, 3) := by decide +kernel
theorem dX1_putSetting_35 : decode cX1_putSetting 35 = .ok (.aload_n 0, 1) := by decide +kernel
theorem dX1_putSetting_36 : decode cX1_putSetting 36 = .ok (.getfield 43, 3) := by decide +kernel
theorem dX1_putSetting_39 : decode cX1_putSetting 39 = .ok (.goto 7, 3) := by decide +kernel
theorem dX1_putSetting_42 : decode cX1_putSetting 42 = .ok (.aload_n 0, 1) := by decide +kernel
theorem dX1_putSetting_43 : decode cX1_putSetting 43 = .ok (.getfield 46, 3) := by decide +kernel
theorem dX1_putSetting_46 : decode cX1_putSetting 46 = .ok (.istore_n 3, 1) := by decide +kernel
theorem dX1_putSetting_47 : decode cX1_putSetting 47 = .ok (.iload_n 1, 1) := by decide +kernel
theorem dX1_putSetting_48 : decode cX1_putSetting 48 = .ok (.ifCond .ne 11, 3) := by decide +kernel
theorem dX1_putSetting_51 : decode cX1_putSetting 51 = .ok (.aload_n 0, 1) := by decide +kernel
theorem dX1_putSetting_52 : decode cX1_putSetting 52 = .ok (.iload_n 2, 1) := by decide +kernel
theorem dX1_putSetting_53 : decode cX1_putSetting 53 = .ok (.putfield 43, 3) := by decide +kernel
theorem dX1_putSetting_56 : decode cX1_putSetting 56 = .ok (.goto 8, 3) := by decide +kernel
theorem dX1_putSetting_59 : decode cX1_putSetting 59 = .ok (.aload_n 0, 1) := by decide +kernel
theorem dX1_putSetting_60 : decode cX1_putSetting 60 = .ok (.iload_n 2, 1) := by decide +kernel
theorem dX1_putSetting_61 : decode cX1_putSetting 61 = .ok (.putfield 46, 3) := by decide +kernel
theorem dX1_putSetting_64 : decode cX1_putSetting 64 = .ok (.iload_n 3, 1) := by decide +kernel
theorem dX1_putSetting_65 : decode cX1_putSetting 65 = .ok (.ireturn, 1) := by decide +kernel
set_option maxRecDepth 20000 in
theorem ggX1_tellStone_X5_sieveOf : GoodIn wsX1_tellStone wsX5_sieveOf := goodIn_r _ [8, 9, 44, 45, 46, 47, 48, 49, 50, 51, 52, 53] (by decide +kernel) (by decide +kernel)
set_option maxRecDepth 20000 in
theorem gX1_tellStone_X5_sieveOf : GoodIn wsX1_tellStone (wsV RX1 159 RX5 yX5_sieveOf wsX5_sieveOf) := goodIn_app (goodIn_of _ (by decide +kernel)) ggX1_tellStone_X5_sieveOf
set_option maxRecDepth 20000 in
theorem ggX1_tellStone_X5_isSold : GoodIn wsX1_tellStone wsX5_isSold := goodIn_r _ [13, 14, 44, 45, 46, 47, 48, 49, 50, 51, 52, 53] (by decide +kernel) (by decide +kernel)
set_option maxRecDepth 20000 in
theorem gX1_tellStone_X5_isSold : GoodIn wsX1_tellStone (wsV RX1 139 RX5 yX5_isSold wsX5_isSold) := goodIn_app (goodIn_of _ (by decide +kernel)) ggX1_tellStone_X5_isSold
set_option maxRecDepth 20000 in
theorem ggX1_tellStone_X1_priceOf : GoodIn wsX1_tellStone wsX1_priceOf := goodIn_r _ [19, 20, 1, 4, 5, 6, 7, 8, 9, 21, 22, 23, 24, 25, 26, 27, 28, 29, 35, 36, 37, 38, 39, 40, 41, 42, 43, 44, 45, 46, 47, 48, 49, 50, 51, 52, 53, 54, 55, 56, 57] (by decide +kernel) (by decide +kernel)
set_option maxRecDepth 20000 in
theorem gX1_tellStone_X1_priceOf : GoodIn wsX1_tellStone (wsV RX1 113 RX1 yX1_priceOf wsX1_priceOf) := goodIn_app (goodIn_of _ (by decide +kernel)) ggX1_tellStone_X1_priceOf
set_option maxRecDepth 20000 in
theorem ggX1_tellStone_X5_isOut : GoodIn wsX1_tellStone wsX5_isOut := goodIn_r _ [33, 34, 44, 45, 46, 47, 48, 49, 50, 51, 52, 53] (by decide +kernel) (by decide +kernel)
set_option maxRecDepth 20000 in
theorem gX1_tellStone_X5_isOut : GoodIn wsX1_tellStone (wsV RX1 120 RX5 yX5_isOut wsX5_isOut) := goodIn_app (goodIn_of _ (by decide +kernel)) ggX1_tellStone_X5_isOut
theorem dX1_tellStone_0 : decode cX1_tellStone 0 = .ok (.iload_n 2, 1) := by decide +kernel
theorem dX1_tellStone_1 : decode cX1_tellStone 1 = .ok (.tableswitch 256 0 10 #[59, 69, 79, 89, 98, 124, 150, 168, 194, 220, 246], 59) := by decide +kernel
theorem dX1_tellStone_60 : decode cX1_tellStone 60 = .ok (.aload_n 0, 1) := by decide +kernel
theorem dX1_tellStone_61 : decode cX1_tellStone 61 = .ok (.getfield 21, 3) := by decide +kernel
theorem dX1_tellStone_64 : decode cX1_tellStone 64 = .ok (.getfield 156, 3) := by decide +kernel
theorem dX1_tellStone_67 : decode cX1_tellStone 67 = .ok (.iload_n 1, 1) := by decide +kernel
theorem dX1_tellStone_68 : decode cX1_tellStone 68 = .ok (.iaload, 1) := by decide +kernel
theorem dX1_tellStone_69 : decode cX1_tellStone 69 = .ok (.ireturn, 1) := by decide +kernel
theorem dX1_tellStone_70 : decode cX1_tellStone 70 = .ok (.aload_n 0, 1) := by decide +kernel
theorem dX1_tellStone_71 : decode cX1_tellStone 71 = .ok (.getfield 21, 3) := by decide +kernel
theorem dX1_tellStone_74 : decode cX1_tellStone 74 = .ok (.getfield 146, 3) := by decide +kernel
theorem dX1_tellStone_77 : decode cX1_tellStone 77 = .ok (.iload_n 1, 1) := by decide +kernel
theorem dX1_tellStone_78 : decode cX1_tellStone 78 = .ok (.iaload, 1) := by decide +kernel
theorem dX1_tellStone_79 : decode cX1_tellStone 79 = .ok (.ireturn, 1) := by decide +kernel
theorem dX1_tellStone_80 : decode cX1_tellStone 80 = .ok (.aload_n 0, 1) := by decide +kernel
theorem dX1_tellStone_81 : decode cX1_tellStone 81 = .ok (.getfield 21, 3) := by decide +kernel
theorem dX1_tellStone_84 : decode cX1_tellStone 84 = .ok (.getfield 149, 3) := by decide +kernel
theorem dX1_tellStone_87 : decode cX1_tellStone 87 = .ok (.iload_n 1, 1) := by decide +kernel
theorem dX1_tellStone_88 : decode cX1_tellStone 88 = .ok (.iaload, 1) := by decide +kernel
theorem dX1_tellStone_89 : decode cX1_tellStone 89 = .ok (.ireturn, 1) := by decide +kernel
theorem dX1_tellStone_90 : decode cX1_tellStone 90 = .ok (.aload_n 0, 1) := by decide +kernel
theorem dX1_tellStone_91 : decode cX1_tellStone 91 = .ok (.getfield 21, 3) := by decide +kernel
theorem dX1_tellStone_94 : decode cX1_tellStone 94 = .ok (.iload_n 1, 1) := by decide +kernel
theorem dX1_tellStone_95 : decode cX1_tellStone 95 = .ok (.invokevirtual 159, 3) := by decide +kernel
theorem dX1_tellStone_98 : decode cX1_tellStone 98 = .ok (.ireturn, 1) := by decide +kernel
theorem dX1_tellStone_99 : decode cX1_tellStone 99 = .ok (.aload_n 0, 1) := by decide +kernel
theorem dX1_tellStone_100 : decode cX1_tellStone 100 = .ok (.getfield 21, 3) := by decide +kernel
theorem dX1_tellStone_103 : decode cX1_tellStone 103 = .ok (.iload_n 1, 1) := by decide +kernel
theorem dX1_tellStone_104 : decode cX1_tellStone 104 = .ok (.invokevirtual 139, 3) := by decide +kernel
theorem dX1_tellStone_107 : decode cX1_tellStone 107 = .ok (.ifCond .eq 8, 3) := by decide +kernel
theorem dX1_tellStone_110 : decode cX1_tellStone 110 = .ok (.ldc 162, 2) := by decide +kernel
theorem dX1_tellStone_112 : decode cX1_tellStone 112 = .ok (.goto 12, 3) := by decide +kernel
theorem dX1_tellStone_115 : decode cX1_tellStone 115 = .ok (.aload_n 0, 1) := by decide +kernel
theorem dX1_tellStone_116 : decode cX1_tellStone 116 = .ok (.getfield 21, 3) := by decide +kernel
theorem dX1_tellStone_119 : decode cX1_tellStone 119 = .ok (.getfield 123, 3) := by decide +kernel
theorem dX1_tellStone_122 : decode cX1_tellStone 122 = .ok (.iload_n 1, 1) := by decide +kernel
theorem dX1_tellStone_123 : decode cX1_tellStone 123 = .ok (.iaload, 1) := by decide +kernel
theorem dX1_tellStone_124 : decode cX1_tellStone 124 = .ok (.ireturn, 1) := by decide +kernel
theorem dX1_tellStone_125 : decode cX1_tellStone 125 = .ok (.aload_n 0, 1) := by decide +kernel
theorem dX1_tellStone_126 : decode cX1_tellStone 126 = .ok (.getfield 21, 3) := by decide +kernel
theorem dX1_tellStone_129 : decode cX1_tellStone 129 = .ok (.iload_n 1, 1) := by decide +kernel
theorem dX1_tellStone_130 : decode cX1_tellStone 130 = .ok (.invokevirtual 139, 3) := by decide +kernel
theorem dX1_tellStone_133 : decode cX1_tellStone 133 = .ok (.ifCond .eq 8, 3) := by decide +kernel
theorem dX1_tellStone_136 : decode cX1_tellStone 136 = .ok (.ldc 162, 2) := by decide +kernel
theorem dX1_tellStone_138 : decode cX1_tellStone 138 = .ok (.goto 12, 3) := by decide +kernel
theorem dX1_tellStone_141 : decode cX1_tellStone 141 = .ok (.aload_n 0, 1) := by decide +kernel
theorem dX1_tellStone_142 : decode cX1_tellStone 142 = .ok (.getfield 21, 3) := by decide +kernel
theorem dX1_tellStone_145 : decode cX1_tellStone 145 = .ok (.getfield 105, 3) := by decide +kernel
theorem dX1_tellStone_148 : decode cX1_tellStone 148 = .ok (.iload_n 1, 1) := by decide +kernel
theorem dX1_tellStone_149 : decode cX1_tellStone 149 = .ok (.iaload, 1) := by decide +kernel
theorem dX1_tellStone_150 : decode cX1_tellStone 150 = .ok (.ireturn, 1) := by decide +kernel
theorem dX1_tellStone_151 : decode cX1_tellStone 151 = .ok (.aload_n 0, 1) := by decide +kernel
theorem dX1_tellStone_152 : decode cX1_tellStone 152 = .ok (.iload_n 1, 1) := by decide +kernel
theorem dX1_tellStone_153 : decode cX1_tellStone 153 = .ok (.invokevirtual 113, 3) := by decide +kernel
theorem dX1_tellStone_156 : decode cX1_tellStone 156 = .ok (.istore_n 3, 1) := by decide +kernel
theorem dX1_tellStone_157 : decode cX1_tellStone 157 = .ok (.iload_n 3, 1) := by decide +kernel
theorem dX1_tellStone_158 : decode cX1_tellStone 158 = .ok (.iconst (-1), 1) := by decide +kernel
theorem dX1_tellStone_159 : decode cX1_tellStone 159 = .ok (.if_icmp .ne 8, 3) := by decide +kernel
theorem dX1_tellStone_162 : decode cX1_tellStone 162 = .ok (.ldc 162, 2) := by decide +kernel
theorem dX1_tellStone_164 : decode cX1_tellStone 164 = .ok (.goto 4, 3) := by decide +kernel
theorem dX1_tellStone_167 : decode cX1_tellStone 167 = .ok (.iload_n 3, 1) := by decide +kernel
theorem dX1_tellStone_168 : decode cX1_tellStone 168 = .ok (.ireturn, 1) := by decide +kernel
theorem dX1_tellStone_169 : decode cX1_tellStone 169 = .ok (.aload_n 0, 1) := by decide +kernel
theorem dX1_tellStone_170 : decode cX1_tellStone 170 = .ok (.getfield 21, 3) := by decide +kernel
theorem dX1_tellStone_173 : decode cX1_tellStone 173 = .ok (.iload_n 1, 1) := by decide +kernel
theorem dX1_tellStone_174 : decode cX1_tellStone 174 = .ok (.invokevirtual 120, 3) := by decide +kernel
theorem dX1_tellStone_177 : decode cX1_tellStone 177 = .ok (.ifCond .eq 15, 3) := by decide +kernel
theorem dX1_tellStone_180 : decode cX1_tellStone 180 = .ok (.aload_n 0, 1) := by decide +kernel
theorem dX1_tellStone_181 : decode cX1_tellStone 181 = .ok (.getfield 21, 3) := by decide +kernel
theorem dX1_tellStone_184 : decode cX1_tellStone 184 = .ok (.getfield 108, 3) := by decide +kernel
theorem dX1_tellStone_187 : decode cX1_tellStone 187 = .ok (.iload_n 1, 1) := by decide +kernel
theorem dX1_tellStone_188 : decode cX1_tellStone 188 = .ok (.iaload, 1) := by decide +kernel
theorem dX1_tellStone_189 : decode cX1_tellStone 189 = .ok (.goto 5, 3) := by decide +kernel
theorem dX1_tellStone_192 : decode cX1_tellStone 192 = .ok (.ldc 162, 2) := by decide +kernel
theorem dX1_tellStone_194 : decode cX1_tellStone 194 = .ok (.ireturn, 1) := by decide +kernel
theorem dX1_tellStone_195 : decode cX1_tellStone 195 = .ok (.aload_n 0, 1) := by decide +kernel
theorem dX1_tellStone_196 : decode cX1_tellStone 196 = .ok (.getfield 21, 3) := by decide +kernel
theorem dX1_tellStone_199 : decode cX1_tellStone 199 = .ok (.iload_n 1, 1) := by decide +kernel
theorem dX1_tellStone_200 : decode cX1_tellStone 200 = .ok (.invokevirtual 120, 3) := by decide +kernel
theorem dX1_tellStone_203 : decode cX1_tellStone 203 = .ok (.ifCond .eq 15, 3) := by decide +kernel
theorem dX1_tellStone_206 : decode cX1_tellStone 206 = .ok (.aload_n 0, 1) := by decide +kernel
theorem dX1_tellStone_207 : decode cX1_tellStone 207 = .ok (.getfield 21, 3) := by decide +kernel
theorem dX1_tellStone_210 : decode cX1_tellStone 210 = .ok (.getfield 110, 3) := by decide +kernel
theorem dX1_tellStone_213 : decode cX1_tellStone 213 = .ok (.iload_n 1, 1) := by decide +kernel
theorem dX1_tellStone_214 : decode cX1_tellStone 214 = .ok (.iaload, 1) := by decide +kernel
theorem dX1_tellStone_215 : decode cX1_tellStone 215 = .ok (.goto 5, 3) := by decide +kernel
theorem dX1_tellStone_218 : decode cX1_tellStone 218 = .ok (.ldc 162, 2) := by decide +kernel
theorem dX1_tellStone_220 : decode cX1_tellStone 220 = .ok (.ireturn, 1) := by decide +kernel
theorem dX1_tellStone_221 : decode cX1_tellStone 221 = .ok (.aload_n 0, 1) := by decide +kernel
theorem dX1_tellStone_222 : decode cX1_tellStone 222 = .ok (.getfield 21, 3) := by decide +kernel
theorem dX1_tellStone_225 : decode cX1_tellStone 225 = .ok (.iload_n 1, 1) := by decide +kernel
theorem dX1_tellStone_226 : decode cX1_tellStone 226 = .ok (.invokevirtual 139, 3) := by decide +kernel
theorem dX1_tellStone_229 : decode cX1_tellStone 229 = .ok (.ifCond .eq 15, 3) := by decide +kernel
theorem dX1_tellStone_232 : decode cX1_tellStone 232 = .ok (.aload_n 0, 1) := by decide +kernel
theorem dX1_tellStone_233 : decode cX1_tellStone 233 = .ok (.getfield 21, 3) := by decide +kernel
theorem dX1_tellStone_236 : decode cX1_tellStone 236 = .ok (.getfield 142, 3) := by decide +kernel
theorem dX1_tellStone_239 : decode cX1_tellStone 239 = .ok (.iload_n 1, 1) := by decide +kernel
theorem dX1_tellStone_240 : decode cX1_tellStone 240 = .ok (.iaload, 1) := by decide +kernel
theorem dX1_tellStone_241 : decode cX1_tellStone 241 = .ok (.goto 5, 3) := by decide +kernel
theorem dX1_tellStone_244 : decode cX1_tellStone 244 = .ok (.ldc 162, 2) := by decide +kernel
theorem dX1_tellStone_246 : decode cX1_tellStone 246 = .ok (.ireturn, 1) := by decide +kernel
theorem dX1_tellStone_247 : decode cX1_tellStone 247 = .ok (.aload_n 0, 1) := by decide +kernel
theorem dX1_tellStone_248 : decode cX1_tellStone 248 = .ok (.getfield 21, 3) := by decide +kernel
theorem dX1_tellStone_251 : decode cX1_tellStone 251 = .ok (.getfield 163, 3) := by decide +kernel
theorem dX1_tellStone_254 : decode cX1_tellStone 254 = .ok (.iload_n 1, 1) := by decide +kernel
theorem dX1_tellStone_255 : decode cX1_tellStone 255 = .ok (.iaload, 1) := by decide +kernel
theorem dX1_tellStone_256 : decode cX1_tellStone 256 = .ok (.ireturn, 1) := by decide +kernel
theorem dX1_tellStone_257 : decode cX1_tellStone 257 = .ok (.ldc 77, 2) := by decide +kernel
theorem dX1_tellStone_259 : decode cX1_tellStone 259 = .ok (.ireturn, 1) := by decide +kernel
set_option maxRecDepth 20000 in
theorem ggX1_tellDealer_X5_setWhere : GoodIn wsX1_tellDealer wsX5_setWhere := goodIn_r _ [9, 10, 54, 55, 56, 57, 58, 59, 60, 61, 62, 63] (by decide +kernel) (by decide +kernel)
set_option maxRecDepth 20000 in
theorem gX1_tellDealer_X5_setWhere : GoodIn wsX1_tellDealer (wsV RX1 126 RX5 yX5_setWhere wsX5_setWhere) := goodIn_app (goodIn_of _ (by decide +kernel)) ggX1_tellDealer_X5_setWhere
set_option maxRecDepth 20000 in
theorem ggX1_tellDealer_X1_worthOf : GoodIn wsX1_tellDealer wsX1_worthOf := goodIn_r _ [15, 3, 16, 17, 18, 14, 19, 20, 21, 22, 23, 8, 24, 25, 26, 27, 28, 29, 30, 31, 32, 33, 34, 45, 46, 47, 48, 49, 50, 51, 52, 53, 54, 55, 56, 57, 58, 59, 60, 61, 62, 63, 64, 65, 66, 67] (by decide +kernel) (by decide +kernel)
set_option maxRecDepth 20000 in
theorem gX1_tellDealer_X1_worthOf : GoodIn wsX1_tellDealer (wsV RX1 166 RX1 yX1_worthOf wsX1_worthOf) := goodIn_app (goodIn_of _ (by decide +kernel)) ggX1_tellDealer_X1_worthOf
set_option maxRecDepth 20000 in
theorem ggX1_tellDealer_X5_sumAsked : GoodIn wsX1_tellDealer wsX5_sumAsked := goodIn_r _ [38, 10, 39, 40, 41, 42, 8, 43, 44, 54, 55, 56, 57, 58, 59, 60, 61, 62, 63] (by decide +kernel) (by decide +kernel)
set_option maxRecDepth 20000 in
theorem gX1_tellDealer_X5_sumAsked : GoodIn wsX1_tellDealer (wsV RX1 169 RX5 yX5_sumAsked wsX5_sumAsked) := goodIn_app (goodIn_of _ (by decide +kernel)) ggX1_tellDealer_X5_sumAsked
theorem dX1_tellDealer_0 : decode cX1_tellDealer 0 = .ok (.iload_n 2, 1) := by decide +kernel
theorem dX1_tellDealer_1 : decode cX1_tellDealer 1 = .ok (.tableswitch 119 0 5 #[39, 49, 65, 81, 87, 103], 39) := by decide +kernel
theorem dX1_tellDealer_40 : decode cX1_tellDealer 40 = .ok (.aload_n 0, 1) := by decide +kernel
theorem dX1_tellDealer_41 : decode cX1_tellDealer 41 = .ok (.getfield 32, 3) := by decide +kernel
theorem dX1_tellDealer_44 : decode cX1_tellDealer 44 = .ok (.iload_n 1, 1) := by decide +kernel
theorem dX1_tellDealer_45 : decode cX1_tellDealer 45 = .ok (.iaload, 1) := by decide +kernel
theorem dX1_tellDealer_46 : decode cX1_tellDealer 46 = .ok (.ldc 145, 2) := by decide +kernel
theorem dX1_tellDealer_48 : decode cX1_tellDealer 48 = .ok (.iadd, 1) := by decide +kernel
theorem dX1_tellDealer_49 : decode cX1_tellDealer 49 = .ok (.ireturn, 1) := by decide +kernel
theorem dX1_tellDealer_50 : decode cX1_tellDealer 50 = .ok (.aload_n 0, 1) := by decide +kernel
theorem dX1_tellDealer_51 : decode cX1_tellDealer 51 = .ok (.getfield 21, 3) := by decide +kernel
theorem dX1_tellDealer_54 : decode cX1_tellDealer 54 = .ok (.aload_n 0, 1) := by decide +kernel
theorem dX1_tellDealer_55 : decode cX1_tellDealer 55 = .ok (.getfield 21, 3) := by decide +kernel
theorem dX1_tellDealer_58 : decode cX1_tellDealer 58 = .ok (.getfield 123, 3) := by decide +kernel
theorem dX1_tellDealer_61 : decode cX1_tellDealer 61 = .ok (.iload_n 1, 1) := by decide +kernel
theorem dX1_tellDealer_62 : decode cX1_tellDealer 62 = .ok (.invokevirtual 126, 3) := by decide +kernel
theorem dX1_tellDealer_65 : decode cX1_tellDealer 65 = .ok (.ireturn, 1) := by decide +kernel
theorem dX1_tellDealer_66 : decode cX1_tellDealer 66 = .ok (.aload_n 0, 1) := by decide +kernel
theorem dX1_tellDealer_67 : decode cX1_tellDealer 67 = .ok (.getfield 21, 3) := by decide +kernel
theorem dX1_tellDealer_70 : decode cX1_tellDealer 70 = .ok (.aload_n 0, 1) := by decide +kernel
theorem dX1_tellDealer_71 : decode cX1_tellDealer 71 = .ok (.getfield 21, 3) := by decide +kernel
theorem dX1_tellDealer_74 : decode cX1_tellDealer 74 = .ok (.getfield 105, 3) := by decide +kernel
theorem dX1_tellDealer_77 : decode cX1_tellDealer 77 = .ok (.iload_n 1, 1) := by decide +kernel
theorem dX1_tellDealer_78 : decode cX1_tellDealer 78 = .ok (.invokevirtual 126, 3) := by decide +kernel
theorem dX1_tellDealer_81 : decode cX1_tellDealer 81 = .ok (.ireturn, 1) := by decide +kernel
theorem dX1_tellDealer_82 : decode cX1_tellDealer 82 = .ok (.aload_n 0, 1) := by decide +kernel
theorem dX1_tellDealer_83 : decode cX1_tellDealer 83 = .ok (.iload_n 1, 1) := by decide +kernel
theorem dX1_tellDealer_84 : decode cX1_tellDealer 84 = .ok (.invokevirtual 166, 3) := by decide +kernel
theorem dX1_tellDealer_87 : decode cX1_tellDealer 87 = .ok (.ireturn, 1) := by decide +kernel
theorem dX1_tellDealer_88 : decode cX1_tellDealer 88 = .ok (.aload_n 0, 1) := by decide +kernel
theorem dX1_tellDealer_89 : decode cX1_tellDealer 89 = .ok (.getfield 21, 3) := by decide +kernel
theorem dX1_tellDealer_92 : decode cX1_tellDealer 92 = .ok (.aload_n 0, 1) := by decide +kernel
theorem dX1_tellDealer_93 : decode cX1_tellDealer 93 = .ok (.getfield 21, 3) := by decide +kernel
theorem dX1_tellDealer_96 : decode cX1_tellDealer 96 = .ok (.getfield 105, 3) := by decide +kernel
theorem dX1_tellDealer_99 : decode cX1_tellDealer 99 = .ok (.iload_n 1, 1) := by decide +kernel
theorem dX1_tellDealer_100 : decode cX1_tellDealer 100 = .ok (.invokevirtual 169, 3) := by decide +kernel
theorem dX1_tellDealer_103 : decode cX1_tellDealer 103 = .ok (.ireturn, 1) := by decide +kernel
theorem dX1_tellDealer_104 : decode cX1_tellDealer 104 = .ok (.aload_n 0, 1) := by decide +kernel
theorem dX1_tellDealer_105 : decode cX1_tellDealer 105 = .ok (.getfield 21, 3) := by decide +kernel
theorem dX1_tellDealer_108 : decode cX1_tellDealer 108 = .ok (.aload_n 0, 1) := by decide +kernel
theorem dX1_tellDealer_109 : decode cX1_tellDealer 109 = .ok (.getfield 21, 3) := by decide +kernel
theorem dX1_tellDealer_112 : decode cX1_tellDealer 112 = .ok (.getfield 123, 3) := by decide +kernel
theorem dX1_tellDealer_115 : decode cX1_tellDealer 115 = .ok (.iload_n 1, 1) := by decide +kernel
theorem dX1_tellDealer_116 : decode cX1_tellDealer 116 = .ok (.invokevirtual 169, 3) := by decide +kernel
theorem dX1_tellDealer_119 : decode cX1_tellDealer 119 = .ok (.ireturn, 1) := by decide +kernel
theorem dX1_tellDealer_120 : decode cX1_tellDealer 120 = .ok (.ldc 77, 2) := by decide +kernel
theorem dX1_tellDealer_122 : decode cX1_tellDealer 122 = .ok (.ireturn, 1) := by decide +kernel
set_option maxRecDepth 20000 in
theorem ggX1_tellMemo_X5_setWhere : GoodIn wsX1_tellMemo wsX5_setWhere := goodIn_r _ [13, 14, 35, 36, 37, 38, 39, 40, 41, 42, 43, 44] (by decide +kernel) (by decide +kernel)
set_option maxRecDepth 20000 in
theorem gX1_tellMemo_X5_setWhere : GoodIn wsX1_tellMemo (wsV RX1 126 RX5 yX5_setWhere wsX5_setWhere) := goodIn_app (goodIn_of _ (by decide +kernel)) ggX1_tellMemo_X5_setWhere
set_option maxRecDepth 20000 in
theorem ggX1_tellMemo_X1_isOpen : GoodIn wsX1_tellMemo wsX1_isOpen := goodIn_r _ [19, 2, 9, 10, 11, 12, 13, 14, 20, 21, 22, 23, 24, 25, 26, 27, 28, 35, 36, 37, 38, 39, 40, 41, 42, 43, 44] (by decide +kernel) (by decide +kernel)
set_option maxRecDepth 20000 in
theorem gX1_tellMemo_X1_isOpen : GoodIn wsX1_tellMemo (wsV RX1 187 RX1 yX1_isOpen wsX1_isOpen) := goodIn_app (goodIn_of _ (by decide +kernel)) ggX1_tellMemo_X1_isOpen
theorem dX1_tellMemo_0 : decode cX1_tellMemo 0 = .ok (.iload_n 2, 1) := by decide +kernel
theorem dX1_tellMemo_1 : decode cX1_tellMemo 1 = .ok (.tableswitch 146 0 7 #[47, 57, 67, 77, 93, 103, 113, 127], 47) := by decide +kernel
theorem dX1_tellMemo_48 : decode cX1_tellMemo 48 = .ok (.aload_n 0, 1) := by decide +kernel
theorem dX1_tellMemo_49 : decode cX1_tellMemo 49 = .ok (.getfield 28, 3) := by decide +kernel
theorem dX1_tellMemo_52 : decode cX1_tellMemo 52 = .ok (.getfield 172, 3) := by decide +kernel
theorem dX1_tellMemo_55 : decode cX1_tellMemo 55 = .ok (.iload_n 1, 1) := by decide +kernel
theorem dX1_tellMemo_56 : decode cX1_tellMemo 56 = .ok (.iaload, 1) := by decide +kernel
theorem dX1_tellMemo_57 : decode cX1_tellMemo 57 = .ok (.ireturn, 1) := by decide +kernel
theorem dX1_tellMemo_58 : decode cX1_tellMemo 58 = .ok (.aload_n 0, 1) := by decide +kernel
theorem dX1_tellMemo_59 : decode cX1_tellMemo 59 = .ok (.getfield 28, 3) := by decide +kernel
theorem dX1_tellMemo_62 : decode cX1_tellMemo 62 = .ok (.getfield 175, 3) := by decide +kernel
theorem dX1_tellMemo_65 : decode cX1_tellMemo 65 = .ok (.iload_n 1, 1) := by decide +kernel
theorem dX1_tellMemo_66 : decode cX1_tellMemo 66 = .ok (.iaload, 1) := by decide +kernel
theorem dX1_tellMemo_67 : decode cX1_tellMemo 67 = .ok (.ireturn, 1) := by decide +kernel
theorem dX1_tellMemo_68 : decode cX1_tellMemo 68 = .ok (.aload_n 0, 1) := by decide +kernel
theorem dX1_tellMemo_69 : decode cX1_tellMemo 69 = .ok (.getfield 28, 3) := by decide +kernel
theorem dX1_tellMemo_72 : decode cX1_tellMemo 72 = .ok (.getfield 178, 3) := by decide +kernel
theorem dX1_tellMemo_75 : decode cX1_tellMemo 75 = .ok (.iload_n 1, 1) := by decide +kernel
theorem dX1_tellMemo_76 : decode cX1_tellMemo 76 = .ok (.iaload, 1) := by decide +kernel
theorem dX1_tellMemo_77 : decode cX1_tellMemo 77 = .ok (.ireturn, 1) := by decide +kernel
theorem dX1_tellMemo_78 : decode cX1_tellMemo 78 = .ok (.aload_n 0, 1) := by decide +kernel
theorem dX1_tellMemo_79 : decode cX1_tellMemo 79 = .ok (.getfield 21, 3) := by decide +kernel
theorem dX1_tellMemo_82 : decode cX1_tellMemo 82 = .ok (.aload_n 0, 1) := by decide +kernel
theorem dX1_tellMemo_83 : decode cX1_tellMemo 83 = .ok (.getfield 21, 3) := by decide +kernel
theorem dX1_tellMemo_86 : decode cX1_tellMemo 86 = .ok (.getfield 108, 3) := by decide +kernel
theorem dX1_tellMemo_89 : decode cX1_tellMemo 89 = .ok (.iload_n 1, 1) := by decide +kernel
theorem dX1_tellMemo_90 : decode cX1_tellMemo 90 = .ok (.invokevirtual 126, 3) := by decide +kernel
theorem dX1_tellMemo_93 : decode cX1_tellMemo 93 = .ok (.ireturn, 1) := by decide +kernel
theorem dX1_tellMemo_94 : decode cX1_tellMemo 94 = .ok (.aload_n 0, 1) := by decide +kernel
theorem dX1_tellMemo_95 : decode cX1_tellMemo 95 = .ok (.getfield 28, 3) := by decide +kernel
theorem dX1_tellMemo_98 : decode cX1_tellMemo 98 = .ok (.getfield 181, 3) := by decide +kernel
theorem dX1_tellMemo_101 : decode cX1_tellMemo 101 = .ok (.iload_n 1, 1) := by decide +kernel
theorem dX1_tellMemo_102 : decode cX1_tellMemo 102 = .ok (.iaload, 1) := by decide +kernel
theorem dX1_tellMemo_103 : decode cX1_tellMemo 103 = .ok (.ireturn, 1) := by decide +kernel
theorem dX1_tellMemo_104 : decode cX1_tellMemo 104 = .ok (.aload_n 0, 1) := by decide +kernel
theorem dX1_tellMemo_105 : decode cX1_tellMemo 105 = .ok (.getfield 28, 3) := by decide +kernel
theorem dX1_tellMemo_108 : decode cX1_tellMemo 108 = .ok (.getfield 184, 3) := by decide +kernel
theorem dX1_tellMemo_111 : decode cX1_tellMemo 111 = .ok (.iload_n 1, 1) := by decide +kernel
theorem dX1_tellMemo_112 : decode cX1_tellMemo 112 = .ok (.iaload, 1) := by decide +kernel
theorem dX1_tellMemo_113 : decode cX1_tellMemo 113 = .ok (.ireturn, 1) := by decide +kernel
theorem dX1_tellMemo_114 : decode cX1_tellMemo 114 = .ok (.aload_n 0, 1) := by decide +kernel
theorem dX1_tellMemo_115 : decode cX1_tellMemo 115 = .ok (.iload_n 1, 1) := by decide +kernel
theorem dX1_tellMemo_116 : decode cX1_tellMemo 116 = .ok (.invokevirtual 187, 3) := by decide +kernel
theorem dX1_tellMemo_119 : decode cX1_tellMemo 119 = .ok (.ifCond .eq 7, 3) := by decide +kernel
theorem dX1_tellMemo_122 : decode cX1_tellMemo 122 = .ok (.iconst 1, 1) := by decide +kernel
theorem dX1_tellMemo_123 : decode cX1_tellMemo 123 = .ok (.goto 4, 3) := by decide +kernel
theorem dX1_tellMemo_126 : decode cX1_tellMemo 126 = .ok (.iconst 0, 1) := by decide +kernel
theorem dX1_tellMemo_127 : decode cX1_tellMemo 127 = .ok (.ireturn, 1) := by decide +kernel
theorem dX1_tellMemo_128 : decode cX1_tellMemo 128 = .ok (.iconst 0, 1) := by decide +kernel
theorem dX1_tellMemo_129 : decode cX1_tellMemo 129 = .ok (.aload_n 0, 1) := by decide +kernel
theorem dX1_tellMemo_130 : decode cX1_tellMemo 130 = .ok (.getfield 28, 3) := by decide +kernel
theorem dX1_tellMemo_133 : decode cX1_tellMemo 133 = .ok (.getfield 178, 3) := by decide +kernel
theorem dX1_tellMemo_136 : decode cX1_tellMemo 136 = .ok (.iload_n 1, 1) := by decide +kernel
theorem dX1_tellMemo_137 : decode cX1_tellMemo 137 = .ok (.iaload, 1) := by decide +kernel
theorem dX1_tellMemo_138 : decode cX1_tellMemo 138 = .ok (.aload_n 0, 1) := by decide +kernel
theorem dX1_tellMemo_139 : decode cX1_tellMemo 139 = .ok (.getfield 40, 3) := by decide +kernel
theorem dX1_tellMemo_142 : decode cX1_tellMemo 142 = .ok (.isub, 1) := by decide +kernel
theorem dX1_tellMemo_143 : decode cX1_tellMemo 143 = .ok (.invokestatic 190, 3) := by decide +kernel
theorem dX1_tellMemo_146 : decode cX1_tellMemo 146 = .ok (.ireturn, 1) := by decide +kernel
theorem dX1_tellMemo_147 : decode cX1_tellMemo 147 = .ok (.ldc 77, 2) := by decide +kernel
theorem dX1_tellMemo_149 : decode cX1_tellMemo 149 = .ok (.ireturn, 1) := by decide +kernel
set_option maxRecDepth 20000 in
theorem ggX1_tellNumber_X5_countSold : GoodIn wsX1_tellNumber wsX5_countSold := goodIn_r _ [15, 16, 17, 18, 19, 14, 20, 21, 68, 69, 70, 71, 72, 73, 74, 75, 76, 77] (by decide +kernel) (by decide +kernel)
set_option maxRecDepth 20000 in
theorem gX1_tellNumber_X5_countSold : GoodIn wsX1_tellNumber (wsV RX1 196 RX5 yX5_countSold wsX5_countSold) := goodIn_app (goodIn_of _ (by decide +kernel)) ggX1_tellNumber_X5_countSold
set_option maxRecDepth 20000 in
theorem ggX1_tellNumber_X5_countOut : GoodIn wsX1_tellNumber wsX5_countOut := goodIn_r _ [25, 16, 26, 27, 28, 14, 29, 30, 68, 69, 70, 71, 72, 73, 74, 75, 76, 77] (by decide +kernel) (by decide +kernel)
set_option maxRecDepth 20000 in
theorem gX1_tellNumber_X5_countOut : GoodIn wsX1_tellNumber (wsV RX1 199 RX5 yX5_countOut wsX5_countOut) := goodIn_app (goodIn_of _ (by decide +kernel)) ggX1_tellNumber_X5_countOut
set_option maxRecDepth 20000 in
theorem ggX1_tellNumber_X1_countOpen : GoodIn wsX1_tellNumber wsX1_countOpen := goodIn_r _ [35, 3, 36, 37, 38, 34, 39, 2, 40, 41, 42, 14, 43, 16, 59, 60, 61, 62, 63, 64, 65, 66, 67, 78, 79, 80, 81, 82, 83, 68, 69, 70, 71, 72, 73, 74, 75, 76, 77] (by decide +kernel) (by decide +kernel)
set_option maxRecDepth 20000 in
theorem gX1_tellNumber_X1_countOpen : GoodIn wsX1_tellNumber (wsV RX1 203 RX1 yX1_countOpen wsX1_countOpen) := goodIn_app (goodIn_of _ (by decide +kernel)) ggX1_tellNumber_X1_countOpen
set_option maxRecDepth 20000 in
theorem ggX1_tellNumber_X3_entries : GoodIn wsX1_tellNumber wsX3_entries := goodIn_r _ [48, 49, 84, 85, 86, 87] (by decide +kernel) (by decide +kernel)
set_option maxRecDepth 20000 in
theorem gX1_tellNumber_X3_entries : GoodIn wsX1_tellNumber (wsV RX1 206 RX3 yX3_entries wsX3_entries) := goodIn_app (goodIn_of _ (by decide +kernel)) ggX1_tellNumber_X3_entries
set_option maxRecDepth 20000 in
theorem ggX1_tellNumber_X1_sumOfBalances : GoodIn wsX1_tellNumber wsX1_sumOfBalances := goodIn_r _ [53, 1, 54, 59, 60, 61, 62, 63, 64, 65, 66, 67] (by decide +kernel) (by decide +kernel)
set_option maxRecDepth 20000 in
theorem gX1_tellNumber_X1_sumOfBalances : GoodIn wsX1_tellNumber (wsV RX1 209 RX1 yX1_sumOfBalances wsX1_sumOfBalances) := goodIn_app (goodIn_of _ (by decide +kernel)) ggX1_tellNumber_X1_sumOfBalances
set_option maxRecDepth 20000 in
theorem ggX1_tellNumber_X5_sumSold : GoodIn wsX1_tellNumber wsX5_sumSold := goodIn_r _ [58, 16, 21, 68, 69, 70, 71, 72, 73, 74, 75, 76, 77] (by decide +kernel) (by decide +kernel)
set_option maxRecDepth 20000 in
theorem gX1_tellNumber_X5_sumSold : GoodIn wsX1_tellNumber (wsV RX1 212 RX5 yX5_sumSold wsX5_sumSold) := goodIn_app (goodIn_of _ (by decide +kernel)) ggX1_tellNumber_X5_sumSold
theorem dX1_tellNumber_0 : decode cX1_tellNumber 0 = .ok (.iload_n 1, 1) := by decide +kernel
theorem dX1_tellNumber_1 : decode cX1_tellNumber 1 = .ok (.tableswitch 165 0 15 #[79, 84, 92, 100, 108, 116, 121, 129, 134, 142, 150, 165, 165, 165, 155, 160], 79) := by decide +kernel
theorem dX1_tellNumber_80 : decode cX1_tellNumber 80 = .ok (.aload_n 0, 1) := by decide +kernel
theorem dX1_tellNumber_81 : decode cX1_tellNumber 81 = .ok (.getfield 36, 3) := by decide +kernel
theorem dX1_tellNumber_84 : decode cX1_tellNumber 84 = .ok (.ireturn, 1) := by decide +kernel
theorem dX1_tellNumber_85 : decode cX1_tellNumber 85 = .ok (.aload_n 0, 1) := by decide +kernel
theorem dX1_tellNumber_86 : decode cX1_tellNumber 86 = .ok (.getfield 21, 3) := by decide +kernel
theorem dX1_tellNumber_89 : decode cX1_tellNumber 89 = .ok (.getfield 98, 3) := by decide +kernel
theorem dX1_tellNumber_92 : decode cX1_tellNumber 92 = .ok (.ireturn, 1) := by decide +kernel
theorem dX1_tellNumber_93 : decode cX1_tellNumber 93 = .ok (.aload_n 0, 1) := by decide +kernel
theorem dX1_tellNumber_94 : decode cX1_tellNumber 94 = .ok (.getfield 21, 3) := by decide +kernel
theorem dX1_tellNumber_97 : decode cX1_tellNumber 97 = .ok (.invokevirtual 196, 3) := by decide +kernel
theorem dX1_tellNumber_100 : decode cX1_tellNumber 100 = .ok (.ireturn, 1) := by decide +kernel
theorem dX1_tellNumber_101 : decode cX1_tellNumber 101 = .ok (.aload_n 0, 1) := by decide +kernel
theorem dX1_tellNumber_102 : decode cX1_tellNumber 102 = .ok (.getfield 21, 3) := by decide +kernel
theorem dX1_tellNumber_105 : decode cX1_tellNumber 105 = .ok (.invokevirtual 199, 3) := by decide +kernel
theorem dX1_tellNumber_108 : decode cX1_tellNumber 108 = .ok (.ireturn, 1) := by decide +kernel
theorem dX1_tellNumber_109 : decode cX1_tellNumber 109 = .ok (.aload_n 0, 1) := by decide +kernel
theorem dX1_tellNumber_110 : decode cX1_tellNumber 110 = .ok (.getfield 28, 3) := by decide +kernel
theorem dX1_tellNumber_113 : decode cX1_tellNumber 113 = .ok (.getfield 202, 3) := by decide +kernel
theorem dX1_tellNumber_116 : decode cX1_tellNumber 116 = .ok (.ireturn, 1) := by decide +kernel
theorem dX1_tellNumber_117 : decode cX1_tellNumber 117 = .ok (.aload_n 0, 1) := by decide +kernel
theorem dX1_tellNumber_118 : decode cX1_tellNumber 118 = .ok (.invokevirtual 203, 3) := by decide +kernel
theorem dX1_tellNumber_121 : decode cX1_tellNumber 121 = .ok (.ireturn, 1) := by decide +kernel
theorem dX1_tellNumber_122 : decode cX1_tellNumber 122 = .ok (.aload_n 0, 1) := by decide +kernel
theorem dX1_tellNumber_123 : decode cX1_tellNumber 123 = .ok (.getfield 12, 3) := by decide +kernel
theorem dX1_tellNumber_126 : decode cX1_tellNumber 126 = .ok (.invokevirtual 206, 3) := by decide +kernel
theorem dX1_tellNumber_129 : decode cX1_tellNumber 129 = .ok (.ireturn, 1) := by decide +kernel
theorem dX1_tellNumber_130 : decode cX1_tellNumber 130 = .ok (.aload_n 0, 1) := by decide +kernel
theorem dX1_tellNumber_131 : decode cX1_tellNumber 131 = .ok (.getfield 40, 3) := by decide +kernel
theorem dX1_tellNumber_134 : decode cX1_tellNumber 134 = .ok (.ireturn, 1) := by decide +kernel
theorem dX1_tellNumber_135 : decode cX1_tellNumber 135 = .ok (.aload_n 0, 1) := by decide +kernel
theorem dX1_tellNumber_136 : decode cX1_tellNumber 136 = .ok (.invokevirtual 209, 3) := by decide +kernel
theorem dX1_tellNumber_139 : decode cX1_tellNumber 139 = .ok (.ldc 145, 2) := by decide +kernel
theorem dX1_tellNumber_141 : decode cX1_tellNumber 141 = .ok (.iadd, 1) := by decide +kernel
theorem dX1_tellNumber_142 : decode cX1_tellNumber 142 = .ok (.ireturn, 1) := by decide +kernel
theorem dX1_tellNumber_143 : decode cX1_tellNumber 143 = .ok (.aload_n 0, 1) := by decide +kernel
theorem dX1_tellNumber_144 : decode cX1_tellNumber 144 = .ok (.getfield 21, 3) := by decide +kernel
theorem dX1_tellNumber_147 : decode cX1_tellNumber 147 = .ok (.invokevirtual 212, 3) := by decide +kernel
theorem dX1_tellNumber_150 : decode cX1_tellNumber 150 = .ok (.ireturn, 1) := by decide +kernel
theorem dX1_tellNumber_151 : decode cX1_tellNumber 151 = .ok (.aload_n 0, 1) := by decide +kernel
theorem dX1_tellNumber_152 : decode cX1_tellNumber 152 = .ok (.getfield 49, 3) := by decide +kernel
theorem dX1_tellNumber_155 : decode cX1_tellNumber 155 = .ok (.ireturn, 1) := by decide +kernel
theorem dX1_tellNumber_156 : decode cX1_tellNumber 156 = .ok (.aload_n 0, 1) := by decide +kernel
theorem dX1_tellNumber_157 : decode cX1_tellNumber 157 = .ok (.getfield 43, 3) := by decide +kernel
theorem dX1_tellNumber_160 : decode cX1_tellNumber 160 = .ok (.ireturn, 1) := by decide +kernel
theorem dX1_tellNumber_161 : decode cX1_tellNumber 161 = .ok (.aload_n 0, 1) := by decide +kernel
theorem dX1_tellNumber_162 : decode cX1_tellNumber 162 = .ok (.getfield 46, 3) := by decide +kernel
theorem dX1_tellNumber_165 : decode cX1_tellNumber 165 = .ok (.ireturn, 1) := by decide +kernel
theorem dX1_tellNumber_166 : decode cX1_tellNumber 166 = .ok (.ldc 77, 2) := by decide +kernel
theorem dX1_tellNumber_168 : decode cX1_tellNumber 168 = .ok (.ireturn, 1) := by decide +kernel
set_option maxRecDepth 20000 in
theorem ggX1_priceOf_X5_sieveOf : GoodIn wsX1_priceOf wsX5_sieveOf := goodIn_r _ [7, 8, 27, 28, 29, 30, 31, 32, 33, 34, 35, 36] (by decide +kernel) (by decide +kernel)
set_option maxRecDepth 20000 in
theorem gX1_priceOf_X5_sieveOf : GoodIn wsX1_priceOf (wsV RX1 159 RX5 yX5_sieveOf wsX5_sieveOf) := goodIn_app (goodIn_of _ (by decide +kernel)) ggX1_priceOf_X5_sieveOf
set_option maxRecDepth 20000 in
theorem ggX1_priceOf_X3_rateFor : GoodIn wsX1_priceOf wsX3_rateFor := goodIn_r _ [13, 14, 15, 16, 17, 37, 38, 39, 40] (by decide +kernel) (by decide +kernel)
set_option maxRecDepth 20000 in
theorem gX1_priceOf_X3_rateFor : GoodIn wsX1_priceOf (wsV RX1 215 RX3 yX3_rateFor wsX3_rateFor) := goodIn_app (goodIn_of _ (by decide +kernel)) ggX1_priceOf_X3_rateFor
theorem dX1_priceOf_0 : decode cX1_priceOf 0 = .ok (.aload_n 0, 1) := by decide +kernel
theorem dX1_priceOf_1 : decode cX1_priceOf 1 = .ok (.getfield 12, 3) := by decide +kernel
theorem dX1_priceOf_4 : decode cX1_priceOf 4 = .ok (.aload_n 0, 1) := by decide +kernel
theorem dX1_priceOf_5 : decode cX1_priceOf 5 = .ok (.getfield 21, 3) := by decide +kernel
theorem dX1_priceOf_8 : decode cX1_priceOf 8 = .ok (.iload_n 1, 1) := by decide +kernel
theorem dX1_priceOf_9 : decode cX1_priceOf 9 = .ok (.invokevirtual 159, 3) := by decide +kernel
theorem dX1_priceOf_12 : decode cX1_priceOf 12 = .ok (.aload_n 0, 1) := by decide +kernel
theorem dX1_priceOf_13 : decode cX1_priceOf 13 = .ok (.getfield 21, 3) := by decide +kernel
theorem dX1_priceOf_16 : decode cX1_priceOf 16 = .ok (.getfield 146, 3) := by decide +kernel
theorem dX1_priceOf_19 : decode cX1_priceOf 19 = .ok (.iload_n 1, 1) := by decide +kernel
theorem dX1_priceOf_20 : decode cX1_priceOf 20 = .ok (.iaload, 1) := by decide +kernel
theorem dX1_priceOf_21 : decode cX1_priceOf 21 = .ok (.aload_n 0, 1) := by decide +kernel
theorem dX1_priceOf_22 : decode cX1_priceOf 22 = .ok (.getfield 21, 3) := by decide +kernel
theorem dX1_priceOf_25 : decode cX1_priceOf 25 = .ok (.getfield 149, 3) := by decide +kernel
theorem dX1_priceOf_28 : decode cX1_priceOf 28 = .ok (.iload_n 1, 1) := by decide +kernel
theorem dX1_priceOf_29 : decode cX1_priceOf 29 = .ok (.iaload, 1) := by decide +kernel
theorem dX1_priceOf_30 : decode cX1_priceOf 30 = .ok (.invokevirtual 215, 3) := by decide +kernel
theorem dX1_priceOf_33 : decode cX1_priceOf 33 = .ok (.istore_n 2, 1) := by decide +kernel
theorem dX1_priceOf_34 : decode cX1_priceOf 34 = .ok (.iload_n 2, 1) := by decide +kernel
theorem dX1_priceOf_35 : decode cX1_priceOf 35 = .ok (.ifCond .ne 7, 3) := by decide +kernel
theorem dX1_priceOf_38 : decode cX1_priceOf 38 = .ok (.iconst (-1), 1) := by decide +kernel
theorem dX1_priceOf_39 : decode cX1_priceOf 39 = .ok (.goto 17, 3) := by decide +kernel
theorem dX1_priceOf_42 : decode cX1_priceOf 42 = .ok (.aload_n 0, 1) := by decide +kernel
theorem dX1_priceOf_43 : decode cX1_priceOf 43 = .ok (.getfield 21, 3) := by decide +kernel
theorem dX1_priceOf_46 : decode cX1_priceOf 46 = .ok (.getfield 156, 3) := by decide +kernel
theorem dX1_priceOf_49 : decode cX1_priceOf 49 = .ok (.iload_n 1, 1) := by decide +kernel
theorem dX1_priceOf_50 : decode cX1_priceOf 50 = .ok (.iaload, 1) := by decide +kernel
theorem dX1_priceOf_51 : decode cX1_priceOf 51 = .ok (.iload_n 2, 1) := by decide +kernel
theorem dX1_priceOf_52 : decode cX1_priceOf 52 = .ok (.imul, 1) := by decide +kernel
theorem dX1_priceOf_53 : decode cX1_priceOf 53 = .ok (.bipush 100, 2) := by decide +kernel
theorem dX1_priceOf_55 : decode cX1_priceOf 55 = .ok (.idiv, 1) := by decide +kernel
theorem dX1_priceOf_56 : decode cX1_priceOf 56 = .ok (.ireturn, 1) := by decide +kernel
set_option maxRecDepth 20000 in
theorem ggX1_canLend_X1_priceOf : GoodIn wsX1_canLend wsX1_priceOf := goodIn_r _ [6, 7, 1, 8, 9, 10, 11, 12, 13, 14, 15, 16, 17, 18, 19, 20, 21, 22, 23, 24, 25, 26, 27, 28, 29, 30, 31, 32, 33, 34, 35, 36, 37, 38, 39, 40, 41, 42, 43, 44, 45] (by decide +kernel) (by decide +kernel)
set_option maxRecDepth 20000 in
theorem gX1_canLend_X1_priceOf : GoodIn wsX1_canLend (wsV RX1 113 RX1 yX1_priceOf wsX1_priceOf) := goodIn_app (goodIn_of _ (by decide +kernel)) ggX1_canLend_X1_priceOf
theorem dX1_canLend_0 : decode cX1_canLend 0 = .ok (.iconst 0, 1) := by decide +kernel
theorem dX1_canLend_1 : decode cX1_canLend 1 = .ok (.istore_n 3, 1) := by decide +kernel
theorem dX1_canLend_2 : decode cX1_canLend 2 = .ok (.iload_n 3, 1) := by decide +kernel
theorem dX1_canLend_3 : decode cX1_canLend 3 = .ok (.aload_n 0, 1) := by decide +kernel
theorem dX1_canLend_4 : decode cX1_canLend 4 = .ok (.getfield 21, 3) := by decide +kernel
theorem dX1_canLend_7 : decode cX1_canLend 7 = .ok (.getfield 98, 3) := by decide +kernel
theorem dX1_canLend_10 : decode cX1_canLend 10 = .ok (.if_icmp .ge 55, 3) := by decide +kernel
theorem dX1_canLend_13 : decode cX1_canLend 13 = .ok (.iload_n 2, 1) := by decide +kernel
theorem dX1_canLend_14 : decode cX1_canLend 14 = .ok (.iload_n 3, 1) := by decide +kernel
theorem dX1_canLend_15 : decode cX1_canLend 15 = .ok (.ishr, 1) := by decide +kernel
theorem dX1_canLend_16 : decode cX1_canLend 16 = .ok (.iconst 1, 1) := by decide +kernel
theorem dX1_canLend_17 : decode cX1_canLend 17 = .ok (.iand, 1) := by decide +kernel
theorem dX1_canLend_18 : decode cX1_canLend 18 = .ok (.iconst 1, 1) := by decide +kernel
theorem dX1_canLend_19 : decode cX1_canLend 19 = .ok (.if_icmp .ne 40, 3) := by decide +kernel
theorem dX1_canLend_22 : decode cX1_canLend 22 = .ok (.aload_n 0, 1) := by decide +kernel
theorem dX1_canLend_23 : decode cX1_canLend 23 = .ok (.getfield 21, 3) := by decide +kernel
theorem dX1_canLend_26 : decode cX1_canLend 26 = .ok (.getfield 123, 3) := by decide +kernel
theorem dX1_canLend_29 : decode cX1_canLend 29 = .ok (.iload_n 3, 1) := by decide +kernel
theorem dX1_canLend_30 : decode cX1_canLend 30 = .ok (.iaload, 1) := by decide +kernel
theorem dX1_canLend_31 : decode cX1_canLend 31 = .ok (.iload_n 1, 1) := by decide +kernel
theorem dX1_canLend_32 : decode cX1_canLend 32 = .ok (.if_icmp .ne 25, 3) := by decide +kernel
theorem dX1_canLend_35 : decode cX1_canLend 35 = .ok (.aload_n 0, 1) := by decide +kernel
theorem dX1_canLend_36 : decode cX1_canLend 36 = .ok (.getfield 21, 3) := by decide +kernel
theorem dX1_canLend_39 : decode cX1_canLend 39 = .ok (.getfield 105, 3) := by decide +kernel
theorem dX1_canLend_42 : decode cX1_canLend 42 = .ok (.iload_n 3, 1) := by decide +kernel
theorem dX1_canLend_43 : decode cX1_canLend 43 = .ok (.iaload, 1) := by decide +kernel
theorem dX1_canLend_44 : decode cX1_canLend 44 = .ok (.iload_n 1, 1) := by decide +kernel
theorem dX1_canLend_45 : decode cX1_canLend 45 = .ok (.if_icmp .ne 12, 3) := by decide +kernel
theorem dX1_canLend_48 : decode cX1_canLend 48 = .ok (.aload_n 0, 1) := by decide +kernel
theorem dX1_canLend_49 : decode cX1_canLend 49 = .ok (.iload_n 3, 1) := by decide +kernel
theorem dX1_canLend_50 : decode cX1_canLend 50 = .ok (.invokevirtual 113, 3) := by decide +kernel
theorem dX1_canLend_53 : decode cX1_canLend 53 = .ok (.iconst (-1), 1) := by decide +kernel
theorem dX1_canLend_54 : decode cX1_canLend 54 = .ok (.if_icmp .ne 5, 3) := by decide +kernel
theorem dX1_canLend_57 : decode cX1_canLend 57 = .ok (.iconst 0, 1) := by decide +kernel
theorem dX1_canLend_58 : decode cX1_canLend 58 = .ok (.ireturn, 1) := by decide +kernel
theorem dX1_canLend_59 : decode cX1_canLend 59 = .ok (.iinc 3 1, 3) := by decide +kernel
theorem dX1_canLend_62 : decode cX1_canLend 62 = .ok (.goto (-60), 3) := by decide +kernel
theorem dX1_canLend_65 : decode cX1_canLend 65 = .ok (.iconst 1, 1) := by decide +kernel
theorem dX1_canLend_66 : decode cX1_canLend 66 = .ok (.ireturn, 1) := by decide +kernel
set_option maxRecDepth 20000 in
theorem ggX1_keepFor_X1_hasDealer : GoodIn wsX1_keepFor wsX1_hasDealer := goodIn_r _ [8, 9, 16, 17, 18, 19, 20, 21, 22, 23, 24] (by decide +kernel) (by decide +kernel)
set_option maxRecDepth 20000 in
theorem gX1_keepFor_X1_hasDealer : GoodIn wsX1_keepFor (wsV RX1 69 RX1 yX1_hasDealer wsX1_hasDealer) := goodIn_app (goodIn_of _ (by decide +kernel)) ggX1_keepFor_X1_hasDealer
set_option maxRecDepth 20000 in
theorem ggX1_keepFor_X2_has : GoodIn wsX1_keepFor wsX2_has := goodIn_r _ [14, 15, 35, 36, 37, 38, 39, 40] (by decide +kernel) (by decide +kernel)
set_option maxRecDepth 20000 in
theorem gX1_keepFor_X2_has : GoodIn wsX1_keepFor (wsV RX1 218 RX2 yX2_has wsX2_has) := goodIn_app (goodIn_of _ (by decide +kernel)) ggX1_keepFor_X2_has
theorem dX1_keepFor_0 : decode cX1_keepFor 0 = .ok (.aload_n 0, 1) := by decide +kernel
theorem dX1_keepFor_1 : decode cX1_keepFor 1 = .ok (.getfield 21, 3) := by decide +kernel
theorem dX1_keepFor_4 : decode cX1_keepFor 4 = .ok (.getfield 123, 3) := by decide +kernel
theorem dX1_keepFor_7 : decode cX1_keepFor 7 = .ok (.iload_n 1, 1) := by decide +kernel
theorem dX1_keepFor_8 : decode cX1_keepFor 8 = .ok (.iaload, 1) := by decide +kernel
theorem dX1_keepFor_9 : decode cX1_keepFor 9 = .ok (.istore_n 3, 1) := by decide +kernel
theorem dX1_keepFor_10 : decode cX1_keepFor 10 = .ok (.aload_n 0, 1) := by decide +kernel
theorem dX1_keepFor_11 : decode cX1_keepFor 11 = .ok (.getfield 21, 3) := by decide +kernel
theorem dX1_keepFor_14 : decode cX1_keepFor 14 = .ok (.getfield 105, 3) := by decide +kernel
theorem dX1_keepFor_17 : decode cX1_keepFor 17 = .ok (.iload_n 1, 1) := by decide +kernel
theorem dX1_keepFor_18 : decode cX1_keepFor 18 = .ok (.iaload, 1) := by decide +kernel
theorem dX1_keepFor_19 : decode cX1_keepFor 19 = .ok (.istore 4, 2) := by decide +kernel
theorem dX1_keepFor_21 : decode cX1_keepFor 21 = .ok (.aload_n 0, 1) := by decide +kernel
theorem dX1_keepFor_22 : decode cX1_keepFor 22 = .ok (.getfield 21, 3) := by decide +kernel
theorem dX1_keepFor_25 : decode cX1_keepFor 25 = .ok (.getfield 108, 3) := by decide +kernel
theorem dX1_keepFor_28 : decode cX1_keepFor 28 = .ok (.iload_n 1, 1) := by decide +kernel
theorem dX1_keepFor_29 : decode cX1_keepFor 29 = .ok (.iaload, 1) := by decide +kernel
theorem dX1_keepFor_30 : decode cX1_keepFor 30 = .ok (.istore 5, 2) := by decide +kernel
theorem dX1_keepFor_32 : decode cX1_keepFor 32 = .ok (.aload_n 0, 1) := by decide +kernel
theorem dX1_keepFor_33 : decode cX1_keepFor 33 = .ok (.iload_n 3, 1) := by decide +kernel
theorem dX1_keepFor_34 : decode cX1_keepFor 34 = .ok (.invokevirtual 69, 3) := by decide +kernel
theorem dX1_keepFor_37 : decode cX1_keepFor 37 = .ok (.ifCond .eq 24, 3) := by decide +kernel
theorem dX1_keepFor_40 : decode cX1_keepFor 40 = .ok (.aload_n 0, 1) := by decide +kernel
theorem dX1_keepFor_41 : decode cX1_keepFor 41 = .ok (.iload 4, 2) := by decide +kernel
theorem dX1_keepFor_43 : decode cX1_keepFor 43 = .ok (.invokevirtual 69, 3) := by decide +kernel
theorem dX1_keepFor_46 : decode cX1_keepFor 46 = .ok (.ifCond .eq 15, 3) := by decide +kernel
theorem dX1_keepFor_49 : decode cX1_keepFor 49 = .ok (.aload_n 0, 1) := by decide +kernel
theorem dX1_keepFor_50 : decode cX1_keepFor 50 = .ok (.getfield 28, 3) := by decide +kernel
theorem dX1_keepFor_53 : decode cX1_keepFor 53 = .ok (.iload 5, 2) := by decide +kernel
theorem dX1_keepFor_55 : decode cX1_keepFor 55 = .ok (.invokevirtual 218, 3) := by decide +kernel
theorem dX1_keepFor_58 : decode cX1_keepFor 58 = .ok (.ifCond .ne 4, 3) := by decide +kernel
theorem dX1_keepFor_61 : decode cX1_keepFor 61 = .ok (.return_, 1) := by decide +kernel
theorem dX1_keepFor_62 : decode cX1_keepFor 62 = .ok (.aload_n 0, 1) := by decide +kernel
theorem dX1_keepFor_63 : decode cX1_keepFor 63 = .ok (.getfield 32, 3) := by decide +kernel
theorem dX1_keepFor_66 : decode cX1_keepFor 66 = .ok (.iload 4, 2) := by decide +kernel
theorem dX1_keepFor_68 : decode cX1_keepFor 68 = .ok (.dup2, 1) := by decide +kernel
theorem dX1_keepFor_69 : decode cX1_keepFor 69 = .ok (.iaload, 1) := by decide +kernel
theorem dX1_keepFor_70 : decode cX1_keepFor 70 = .ok (.iload_n 2, 1) := by decide +kernel
theorem dX1_keepFor_71 : decode cX1_keepFor 71 = .ok (.isub, 1) := by decide +kernel
theorem dX1_keepFor_72 : decode cX1_keepFor 72 = .ok (.iastore, 1) := by decide +kernel
theorem dX1_keepFor_73 : decode cX1_keepFor 73 = .ok (.aload_n 0, 1) := by decide +kernel
theorem dX1_keepFor_74 : decode cX1_keepFor 74 = .ok (.getfield 32, 3) := by decide +kernel
theorem dX1_keepFor_77 : decode cX1_keepFor 77 = .ok (.iload_n 3, 1) := by decide +kernel
theorem dX1_keepFor_78 : decode cX1_keepFor 78 = .ok (.dup2, 1) := by decide +kernel
theorem dX1_keepFor_79 : decode cX1_keepFor 79 = .ok (.iaload, 1) := by decide +kernel
theorem dX1_keepFor_80 : decode cX1_keepFor 80 = .ok (.iload_n 2, 1) := by decide +kernel
theorem dX1_keepFor_81 : decode cX1_keepFor 81 = .ok (.iadd, 1) := by decide +kernel
theorem dX1_keepFor_82 : decode cX1_keepFor 82 = .ok (.iastore, 1) := by decide +kernel
theorem dX1_keepFor_83 : decode cX1_keepFor 83 = .ok (.aload_n 0, 1) := by decide +kernel
theorem dX1_keepFor_84 : decode cX1_keepFor 84 = .ok (.getfield 28, 3) := by decide +kernel
theorem dX1_keepFor_87 : decode cX1_keepFor 87 = .ok (.getfield 184, 3) := by decide +kernel
theorem dX1_keepFor_90 : decode cX1_keepFor 90 = .ok (.iload 5, 2) := by decide +kernel
theorem dX1_keepFor_92 : decode cX1_keepFor 92 = .ok (.dup2, 1) := by decide +kernel
theorem dX1_keepFor_93 : decode cX1_keepFor 93 = .ok (.iaload, 1) := by decide +kernel
theorem dX1_keepFor_94 : decode cX1_keepFor 94 = .ok (.iconst 1, 1) := by decide +kernel
theorem dX1_keepFor_95 : decode cX1_keepFor 95 = .ok (.iadd, 1) := by decide +kernel
theorem dX1_keepFor_96 : decode cX1_keepFor 96 = .ok (.iastore, 1) := by decide +kernel
theorem dX1_keepFor_97 : decode cX1_keepFor 97 = .ok (.aload_n 0, 1) := by decide +kernel
theorem dX1_keepFor_98 : decode cX1_keepFor 98 = .ok (.getfield 21, 3) := by decide +kernel
theorem dX1_keepFor_101 : decode cX1_keepFor 101 = .ok (.getfield 123, 3) := by decide +kernel
theorem dX1_keepFor_104 : decode cX1_keepFor 104 = .ok (.iload_n 1, 1) := by decide +kernel
theorem dX1_keepFor_105 : decode cX1_keepFor 105 = .ok (.iload 4, 2) := by decide +kernel
theorem dX1_keepFor_107 : decode cX1_keepFor 107 = .ok (.iastore, 1) := by decide +kernel
theorem dX1_keepFor_108 : decode cX1_keepFor 108 = .ok (.aload_n 0, 1) := by decide +kernel
theorem dX1_keepFor_109 : decode cX1_keepFor 109 = .ok (.getfield 21, 3) := by decide +kernel
theorem dX1_keepFor_112 : decode cX1_keepFor 112 = .ok (.getfield 108, 3) := by decide +kernel
theorem dX1_keepFor_115 : decode cX1_keepFor 115 = .ok (.iload_n 1, 1) := by decide +kernel
theorem dX1_keepFor_116 : decode cX1_keepFor 116 = .ok (.iconst (-1), 1) := by decide +kernel
theorem dX1_keepFor_117 : decode cX1_keepFor 117 = .ok (.iastore, 1) := by decide +kernel
theorem dX1_keepFor_118 : decode cX1_keepFor 118 = .ok (.aload_n 0, 1) := by decide +kernel
theorem dX1_keepFor_119 : decode cX1_keepFor 119 = .ok (.getfield 21, 3) := by decide +kernel
theorem dX1_keepFor_122 : decode cX1_keepFor 122 = .ok (.getfield 163, 3) := by decide +kernel
theorem dX1_keepFor_125 : decode cX1_keepFor 125 = .ok (.iload_n 1, 1) := by decide +kernel
theorem dX1_keepFor_126 : decode cX1_keepFor 126 = .ok (.dup2, 1) := by decide +kernel
theorem dX1_keepFor_127 : decode cX1_keepFor 127 = .ok (.iaload, 1) := by decide +kernel
theorem dX1_keepFor_128 : decode cX1_keepFor 128 = .ok (.iconst 1, 1) := by decide +kernel
theorem dX1_keepFor_129 : decode cX1_keepFor 129 = .ok (.iadd, 1) := by decide +kernel
theorem dX1_keepFor_130 : decode cX1_keepFor 130 = .ok (.iastore, 1) := by decide +kernel
theorem dX1_keepFor_131 : decode cX1_keepFor 131 = .ok (.return_, 1) := by decide +kernel
set_option maxRecDepth 20000 in
theorem ggX1_keepLateOnes_X1_keepFor : GoodIn wsX1_keepLateOnes wsX1_keepFor := goodIn_r _ [10, 4, 1, 11, 12, 13, 14, 9, 15, 16, 17, 18, 19, 20, 21, 22, 23, 24, 25, 26, 27, 28, 29, 30, 31, 38, 39, 40, 41, 42, 43, 44, 45, 46, 47, 32, 33, 34, 35, 36, 37] (by decide +kernel) (by decide +kernel)
set_option maxRecDepth 20000 in
theorem gX1_keepLateOnes_X1_keepFor : GoodIn wsX1_keepLateOnes (wsV RX1 135 RX1 yX1_keepFor wsX1_keepFor) := goodIn_app (goodIn_of _ (by decide +kernel)) ggX1_keepLateOnes_X1_keepFor
theorem dX1_keepLateOnes_0 : decode cX1_keepLateOnes 0 = .ok (.iconst 0, 1) := by decide +kernel
theorem dX1_keepLateOnes_1 : decode cX1_keepLateOnes 1 = .ok (.istore_n 1, 1) := by decide +kernel
theorem dX1_keepLateOnes_2 : decode cX1_keepLateOnes 2 = .ok (.iconst 0, 1) := by decide +kernel
theorem dX1_keepLateOnes_3 : decode cX1_keepLateOnes 3 = .ok (.istore_n 2, 1) := by decide +kernel
theorem dX1_keepLateOnes_4 : decode cX1_keepLateOnes 4 = .ok (.iload_n 2, 1) := by decide +kernel
theorem dX1_keepLateOnes_5 : decode cX1_keepLateOnes 5 = .ok (.aload_n 0, 1) := by decide +kernel
theorem dX1_keepLateOnes_6 : decode cX1_keepLateOnes 6 = .ok (.getfield 28, 3) := by decide +kernel
theorem dX1_keepLateOnes_9 : decode cX1_keepLateOnes 9 = .ok (.getfield 202, 3) := by decide +kernel
theorem dX1_keepLateOnes_12 : decode cX1_keepLateOnes 12 = .ok (.if_icmp .ge 100, 3) := by decide +kernel
theorem dX1_keepLateOnes_15 : decode cX1_keepLateOnes 15 = .ok (.aload_n 0, 1) := by decide +kernel
theorem dX1_keepLateOnes_16 : decode cX1_keepLateOnes 16 = .ok (.getfield 40, 3) := by decide +kernel
theorem dX1_keepLateOnes_19 : decode cX1_keepLateOnes 19 = .ok (.aload_n 0, 1) := by decide +kernel
theorem dX1_keepLateOnes_20 : decode cX1_keepLateOnes 20 = .ok (.getfield 28, 3) := by decide +kernel
theorem dX1_keepLateOnes_23 : decode cX1_keepLateOnes 23 = .ok (.getfield 178, 3) := by decide +kernel
theorem dX1_keepLateOnes_26 : decode cX1_keepLateOnes 26 = .ok (.iload_n 2, 1) := by decide +kernel
theorem dX1_keepLateOnes_27 : decode cX1_keepLateOnes 27 = .ok (.iaload, 1) := by decide +kernel
theorem dX1_keepLateOnes_28 : decode cX1_keepLateOnes 28 = .ok (.isub, 1) := by decide +kernel
theorem dX1_keepLateOnes_29 : decode cX1_keepLateOnes 29 = .ok (.aload_n 0, 1) := by decide +kernel
theorem dX1_keepLateOnes_30 : decode cX1_keepLateOnes 30 = .ok (.getfield 43, 3) := by decide +kernel
theorem dX1_keepLateOnes_33 : decode cX1_keepLateOnes 33 = .ok (.if_icmp .gt 6, 3) := by decide +kernel
theorem dX1_keepLateOnes_36 : decode cX1_keepLateOnes 36 = .ok (.goto 70, 3) := by decide +kernel
theorem dX1_keepLateOnes_39 : decode cX1_keepLateOnes 39 = .ok (.iconst 0, 1) := by decide +kernel
theorem dX1_keepLateOnes_40 : decode cX1_keepLateOnes 40 = .ok (.istore_n 3, 1) := by decide +kernel
theorem dX1_keepLateOnes_41 : decode cX1_keepLateOnes 41 = .ok (.iload_n 3, 1) := by decide +kernel
theorem dX1_keepLateOnes_42 : decode cX1_keepLateOnes 42 = .ok (.aload_n 0, 1) := by decide +kernel
theorem dX1_keepLateOnes_43 : decode cX1_keepLateOnes 43 = .ok (.getfield 21, 3) := by decide +kernel
theorem dX1_keepLateOnes_46 : decode cX1_keepLateOnes 46 = .ok (.getfield 98, 3) := by decide +kernel
theorem dX1_keepLateOnes_49 : decode cX1_keepLateOnes 49 = .ok (.if_icmp .ge 57, 3) := by decide +kernel
theorem dX1_keepLateOnes_52 : decode cX1_keepLateOnes 52 = .ok (.aload_n 0, 1) := by decide +kernel
theorem dX1_keepLateOnes_53 : decode cX1_keepLateOnes 53 = .ok (.getfield 21, 3) := by decide +kernel
theorem dX1_keepLateOnes_56 : decode cX1_keepLateOnes 56 = .ok (.getfield 108, 3) := by decide +kernel
theorem dX1_keepLateOnes_59 : decode cX1_keepLateOnes 59 = .ok (.iload_n 3, 1) := by decide +kernel
theorem dX1_keepLateOnes_60 : decode cX1_keepLateOnes 60 = .ok (.iaload, 1) := by decide +kernel
theorem dX1_keepLateOnes_61 : decode cX1_keepLateOnes 61 = .ok (.iload_n 2, 1) := by decide +kernel
theorem dX1_keepLateOnes_62 : decode cX1_keepLateOnes 62 = .ok (.if_icmp .ne 38, 3) := by decide +kernel
theorem dX1_keepLateOnes_65 : decode cX1_keepLateOnes 65 = .ok (.aload_n 0, 1) := by decide +kernel
theorem dX1_keepLateOnes_66 : decode cX1_keepLateOnes 66 = .ok (.iload_n 3, 1) := by decide +kernel
theorem dX1_keepLateOnes_67 : decode cX1_keepLateOnes 67 = .ok (.aload_n 0, 1) := by decide +kernel
theorem dX1_keepLateOnes_68 : decode cX1_keepLateOnes 68 = .ok (.getfield 21, 3) := by decide +kernel
theorem dX1_keepLateOnes_71 : decode cX1_keepLateOnes 71 = .ok (.getfield 110, 3) := by decide +kernel
theorem dX1_keepLateOnes_74 : decode cX1_keepLateOnes 74 = .ok (.iload_n 3, 1) := by decide +kernel
