theorem dX1_keepLateOnes_75 : decode cX1_keepLateOnes 75 = .ok (.iaload, 1) := by decide +kernel
theorem dX1_keepLateOnes_76 : decode cX1_keepLateOnes 76 = .ok (.aload_n 0, 1) := by decide +kernel
theorem dX1_keepLateOnes_77 : decode cX1_keepLateOnes 77 = .ok (.getfield 21, 3) := by decide +kernel
theorem dX1_keepLateOnes_80 : decode cX1_keepLateOnes 80 = .ok (.getfield 110, 3) := by decide +kernel
theorem dX1_keepLateOnes_83 : decode cX1_keepLateOnes 83 = .ok (.iload_n 3, 1) := by decide +kernel
theorem dX1_keepLateOnes_84 : decode cX1_keepLateOnes 84 = .ok (.iaload, 1) := by decide +kernel
theorem dX1_keepLateOnes_85 : decode cX1_keepLateOnes 85 = .ok (.aload_n 0, 1) := by decide +kernel
theorem dX1_keepLateOnes_86 : decode cX1_keepLateOnes 86 = .ok (.getfield 46, 3) := by decide +kernel
theorem dX1_keepLateOnes_89 : decode cX1_keepLateOnes 89 = .ok (.imul, 1) := by decide +kernel
theorem dX1_keepLateOnes_90 : decode cX1_keepLateOnes 90 = .ok (.bipush 100, 2) := by decide +kernel
theorem dX1_keepLateOnes_92 : decode cX1_keepLateOnes 92 = .ok (.idiv, 1) := by decide +kernel
theorem dX1_keepLateOnes_93 : decode cX1_keepLateOnes 93 = .ok (.iadd, 1) := by decide +kernel
theorem dX1_keepLateOnes_94 : decode cX1_keepLateOnes 94 = .ok (.invokevirtual 135, 3) := by decide +kernel
theorem dX1_keepLateOnes_97 : decode cX1_keepLateOnes 97 = .ok (.iinc 1 1, 3) := by decide +kernel
theorem dX1_keepLateOnes_100 : decode cX1_keepLateOnes 100 = .ok (.iinc 3 1, 3) := by decide +kernel
theorem dX1_keepLateOnes_103 : decode cX1_keepLateOnes 103 = .ok (.goto (-62), 3) := by decide +kernel
theorem dX1_keepLateOnes_106 : decode cX1_keepLateOnes 106 = .ok (.iinc 2 1, 3) := by decide +kernel
theorem dX1_keepLateOnes_109 : decode cX1_keepLateOnes 109 = .ok (.goto (-105), 3) := by decide +kernel
theorem dX1_keepLateOnes_112 : decode cX1_keepLateOnes 112 = .ok (.iload_n 1, 1) := by decide +kernel
theorem dX1_keepLateOnes_113 : decode cX1_keepLateOnes 113 = .ok (.ireturn, 1) := by decide +kernel
set_option maxRecDepth 20000 in
theorem ggX1_worthOf_X1_priceOf : GoodIn wsX1_worthOf wsX1_priceOf := goodIn_r _ [6, 7, 1, 8, 9, 10, 11, 12, 13, 14, 15, 16, 17, 18, 19, 20, 21, 22, 23, 24, 25, 26, 27, 28, 29, 30, 31, 32, 33, 34, 35, 36, 37, 38, 39, 40, 41, 42, 43, 44, 45] (by decide +kernel) (by decide +kernel)
set_option maxRecDepth 20000 in
theorem gX1_worthOf_X1_priceOf : GoodIn wsX1_worthOf (wsV RX1 113 RX1 yX1_priceOf wsX1_priceOf) := goodIn_app (goodIn_of _ (by decide +kernel)) ggX1_worthOf_X1_priceOf
theorem dX1_worthOf_0 : decode cX1_worthOf 0 = .ok (.iconst 0, 1) := by decide +kernel
theorem dX1_worthOf_1 : decode cX1_worthOf 1 = .ok (.istore_n 2, 1) := by decide +kernel
theorem dX1_worthOf_2 : decode cX1_worthOf 2 = .ok (.iconst 0, 1) := by decide +kernel
theorem dX1_worthOf_3 : decode cX1_worthOf 3 = .ok (.istore_n 3, 1) := by decide +kernel
theorem dX1_worthOf_4 : decode cX1_worthOf 4 = .ok (.iload_n 3, 1) := by decide +kernel
theorem dX1_worthOf_5 : decode cX1_worthOf 5 = .ok (.aload_n 0, 1) := by decide +kernel
theorem dX1_worthOf_6 : decode cX1_worthOf 6 = .ok (.getfield 21, 3) := by decide +kernel
theorem dX1_worthOf_9 : decode cX1_worthOf 9 = .ok (.getfield 98, 3) := by decide +kernel
theorem dX1_worthOf_12 : decode cX1_worthOf 12 = .ok (.if_icmp .ge 40, 3) := by decide +kernel
theorem dX1_worthOf_15 : decode cX1_worthOf 15 = .ok (.aload_n 0, 1) := by decide +kernel
theorem dX1_worthOf_16 : decode cX1_worthOf 16 = .ok (.iload_n 3, 1) := by decide +kernel
theorem dX1_worthOf_17 : decode cX1_worthOf 17 = .ok (.invokevirtual 113, 3) := by decide +kernel
theorem dX1_worthOf_20 : decode cX1_worthOf 20 = .ok (.istore 4, 2) := by decide +kernel
theorem dX1_worthOf_22 : decode cX1_worthOf 22 = .ok (.aload_n 0, 1) := by decide +kernel
theorem dX1_worthOf_23 : decode cX1_worthOf 23 = .ok (.getfield 21, 3) := by decide +kernel
theorem dX1_worthOf_26 : decode cX1_worthOf 26 = .ok (.getfield 123, 3) := by decide +kernel
theorem dX1_worthOf_29 : decode cX1_worthOf 29 = .ok (.iload_n 3, 1) := by decide +kernel
theorem dX1_worthOf_30 : decode cX1_worthOf 30 = .ok (.iaload, 1) := by decide +kernel
theorem dX1_worthOf_31 : decode cX1_worthOf 31 = .ok (.iload_n 1, 1) := by decide +kernel
theorem dX1_worthOf_32 : decode cX1_worthOf 32 = .ok (.if_icmp .ne 14, 3) := by decide +kernel
theorem dX1_worthOf_35 : decode cX1_worthOf 35 = .ok (.iload 4, 2) := by decide +kernel
theorem dX1_worthOf_37 : decode cX1_worthOf 37 = .ok (.iconst (-1), 1) := by decide +kernel
theorem dX1_worthOf_38 : decode cX1_worthOf 38 = .ok (.if_icmp .eq 8, 3) := by decide +kernel
theorem dX1_worthOf_41 : decode cX1_worthOf 41 = .ok (.iload_n 2, 1) := by decide +kernel
theorem dX1_worthOf_42 : decode cX1_worthOf 42 = .ok (.iload 4, 2) := by decide +kernel
theorem dX1_worthOf_44 : decode cX1_worthOf 44 = .ok (.iadd, 1) := by decide +kernel
theorem dX1_worthOf_45 : decode cX1_worthOf 45 = .ok (.istore_n 2, 1) := by decide +kernel
theorem dX1_worthOf_46 : decode cX1_worthOf 46 = .ok (.iinc 3 1, 3) := by decide +kernel
theorem dX1_worthOf_49 : decode cX1_worthOf 49 = .ok (.goto (-45), 3) := by decide +kernel
theorem dX1_worthOf_52 : decode cX1_worthOf 52 = .ok (.iload_n 2, 1) := by decide +kernel
theorem dX1_worthOf_53 : decode cX1_worthOf 53 = .ok (.ireturn, 1) := by decide +kernel
set_option maxRecDepth 20000 in
theorem ggX1_isOpen_X5_setWhere : GoodIn wsX1_isOpen wsX5_setWhere := goodIn_r _ [6, 7, 17, 18, 19, 20, 21, 22, 23, 24, 25, 26] (by decide +kernel) (by decide +kernel)
set_option maxRecDepth 20000 in
theorem gX1_isOpen_X5_setWhere : GoodIn wsX1_isOpen (wsV RX1 126 RX5 yX5_setWhere wsX5_setWhere) := goodIn_app (goodIn_of _ (by decide +kernel)) ggX1_isOpen_X5_setWhere
theorem dX1_isOpen_0 : decode cX1_isOpen 0 = .ok (.aload_n 0, 1) := by decide +kernel
theorem dX1_isOpen_1 : decode cX1_isOpen 1 = .ok (.getfield 21, 3) := by decide +kernel
theorem dX1_isOpen_4 : decode cX1_isOpen 4 = .ok (.aload_n 0, 1) := by decide +kernel
theorem dX1_isOpen_5 : decode cX1_isOpen 5 = .ok (.getfield 21, 3) := by decide +kernel
theorem dX1_isOpen_8 : decode cX1_isOpen 8 = .ok (.getfield 108, 3) := by decide +kernel
theorem dX1_isOpen_11 : decode cX1_isOpen 11 = .ok (.iload_n 1, 1) := by decide +kernel
theorem dX1_isOpen_12 : decode cX1_isOpen 12 = .ok (.invokevirtual 126, 3) := by decide +kernel
theorem dX1_isOpen_15 : decode cX1_isOpen 15 = .ok (.ifCond .eq 7, 3) := by decide +kernel
theorem dX1_isOpen_18 : decode cX1_isOpen 18 = .ok (.iconst 1, 1) := by decide +kernel
theorem dX1_isOpen_19 : decode cX1_isOpen 19 = .ok (.goto 4, 3) := by decide +kernel
theorem dX1_isOpen_22 : decode cX1_isOpen 22 = .ok (.iconst 0, 1) := by decide +kernel
theorem dX1_isOpen_23 : decode cX1_isOpen 23 = .ok (.ireturn, 1) := by decide +kernel
set_option maxRecDepth 20000 in
theorem ggX1_countOpen_X1_isOpen : GoodIn wsX1_countOpen wsX1_isOpen := goodIn_r _ [6, 7, 8, 9, 10, 11, 12, 13, 14, 15, 16, 17, 18, 19, 20, 21, 22, 29, 30, 31, 32, 33, 34, 35, 36, 37, 38] (by decide +kernel) (by decide +kernel)
set_option maxRecDepth 20000 in
theorem gX1_countOpen_X1_isOpen : GoodIn wsX1_countOpen (wsV RX1 187 RX1 yX1_isOpen wsX1_isOpen) := goodIn_app (goodIn_of _ (by decide +kernel)) ggX1_countOpen_X1_isOpen
theorem dX1_countOpen_0 : decode cX1_countOpen 0 = .ok (.iconst 0, 1) := by decide +kernel
theorem dX1_countOpen_1 : decode cX1_countOpen 1 = .ok (.istore_n 1, 1) := by decide +kernel
theorem dX1_countOpen_2 : decode cX1_countOpen 2 = .ok (.iconst 0, 1) := by decide +kernel
theorem dX1_countOpen_3 : decode cX1_countOpen 3 = .ok (.istore_n 2, 1) := by decide +kernel
theorem dX1_countOpen_4 : decode cX1_countOpen 4 = .ok (.iload_n 2, 1) := by decide +kernel
theorem dX1_countOpen_5 : decode cX1_countOpen 5 = .ok (.aload_n 0, 1) := by decide +kernel
theorem dX1_countOpen_6 : decode cX1_countOpen 6 = .ok (.getfield 28, 3) := by decide +kernel
theorem dX1_countOpen_9 : decode cX1_countOpen 9 = .ok (.getfield 202, 3) := by decide +kernel
theorem dX1_countOpen_12 : decode cX1_countOpen 12 = .ok (.if_icmp .ge 20, 3) := by decide +kernel
theorem dX1_countOpen_15 : decode cX1_countOpen 15 = .ok (.aload_n 0, 1) := by decide +kernel
theorem dX1_countOpen_16 : decode cX1_countOpen 16 = .ok (.iload_n 2, 1) := by decide +kernel
theorem dX1_countOpen_17 : decode cX1_countOpen 17 = .ok (.invokevirtual 187, 3) := by decide +kernel
theorem dX1_countOpen_20 : decode cX1_countOpen 20 = .ok (.ifCond .eq 6, 3) := by decide +kernel
theorem dX1_countOpen_23 : decode cX1_countOpen 23 = .ok (.iinc 1 1, 3) := by decide +kernel
theorem dX1_countOpen_26 : decode cX1_countOpen 26 = .ok (.iinc 2 1, 3) := by decide +kernel
theorem dX1_countOpen_29 : decode cX1_countOpen 29 = .ok (.goto (-25), 3) := by decide +kernel
theorem dX1_countOpen_32 : decode cX1_countOpen 32 = .ok (.iload_n 1, 1) := by decide +kernel
theorem dX1_countOpen_33 : decode cX1_countOpen 33 = .ok (.ireturn, 1) := by decide +kernel
theorem dX1_sumOfBalances_0 : decode cX1_sumOfBalances 0 = .ok (.iconst 0, 1) := by decide +kernel
theorem dX1_sumOfBalances_1 : decode cX1_sumOfBalances 1 = .ok (.istore_n 1, 1) := by decide +kernel
theorem dX1_sumOfBalances_2 : decode cX1_sumOfBalances 2 = .ok (.iconst 0, 1) := by decide +kernel
theorem dX1_sumOfBalances_3 : decode cX1_sumOfBalances 3 = .ok (.istore_n 2, 1) := by decide +kernel
theorem dX1_sumOfBalances_4 : decode cX1_sumOfBalances 4 = .ok (.iload_n 2, 1) := by decide +kernel
theorem dX1_sumOfBalances_5 : decode cX1_sumOfBalances 5 = .ok (.aload_n 0, 1) := by decide +kernel
theorem dX1_sumOfBalances_6 : decode cX1_sumOfBalances 6 = .ok (.getfield 36, 3) := by decide +kernel
theorem dX1_sumOfBalances_9 : decode cX1_sumOfBalances 9 = .ok (.if_icmp .ge 18, 3) := by decide +kernel
theorem dX1_sumOfBalances_12 : decode cX1_sumOfBalances 12 = .ok (.iload_n 1, 1) := by decide +kernel
theorem dX1_sumOfBalances_13 : decode cX1_sumOfBalances 13 = .ok (.aload_n 0, 1) := by decide +kernel
theorem dX1_sumOfBalances_14 : decode cX1_sumOfBalances 14 = .ok (.getfield 32, 3) := by decide +kernel
theorem dX1_sumOfBalances_17 : decode cX1_sumOfBalances 17 = .ok (.iload_n 2, 1) := by decide +kernel
theorem dX1_sumOfBalances_18 : decode cX1_sumOfBalances 18 = .ok (.iaload, 1) := by decide +kernel
theorem dX1_sumOfBalances_19 : decode cX1_sumOfBalances 19 = .ok (.iadd, 1) := by decide +kernel
theorem dX1_sumOfBalances_20 : decode cX1_sumOfBalances 20 = .ok (.istore_n 1, 1) := by decide +kernel
theorem dX1_sumOfBalances_21 : decode cX1_sumOfBalances 21 = .ok (.iinc 2 1, 3) := by decide +kernel
theorem dX1_sumOfBalances_24 : decode cX1_sumOfBalances 24 = .ok (.goto (-20), 3) := by decide +kernel
theorem dX1_sumOfBalances_27 : decode cX1_sumOfBalances 27 = .ok (.iload_n 1, 1) := by decide +kernel
theorem dX1_sumOfBalances_28 : decode cX1_sumOfBalances 28 = .ok (.ireturn, 1) := by decide +kernel
theorem dX2_init_0 : decode cX2_init 0 = .ok (.aload_n 0, 1) := by decide +kernel
theorem dX2_init_1 : decode cX2_init 1 = .ok (.invokespecial 3, 3) := by decide +kernel
theorem dX2_init_4 : decode cX2_init 4 = .ok (.aload_n 0, 1) := by decide +kernel
theorem dX2_init_5 : decode cX2_init 5 = .ok (.iconst 0, 1) := by decide +kernel
theorem dX2_init_6 : decode cX2_init 6 = .ok (.putfield 9, 3) := by decide +kernel
theorem dX2_init_9 : decode cX2_init 9 = .ok (.aload_n 0, 1) := by decide +kernel
theorem dX2_init_10 : decode cX2_init 10 = .ok (.bipush 10, 2) := by decide +kernel
theorem dX2_init_12 : decode cX2_init 12 = .ok (.newarray .int, 2) := by decide +kernel
theorem dX2_init_14 : decode cX2_init 14 = .ok (.putfield 15, 3) := by decide +kernel
theorem dX2_init_17 : decode cX2_init 17 = .ok (.aload_n 0, 1) := by decide +kernel
theorem dX2_init_18 : decode cX2_init 18 = .ok (.bipush 10, 2) := by decide +kernel
theorem dX2_init_20 : decode cX2_init 20 = .ok (.newarray .int, 2) := by decide +kernel
theorem dX2_init_22 : decode cX2_init 22 = .ok (.putfield 19, 3) := by decide +kernel
theorem dX2_init_25 : decode cX2_init 25 = .ok (.aload_n 0, 1) := by decide +kernel
theorem dX2_init_26 : decode cX2_init 26 = .ok (.bipush 10, 2) := by decide +kernel
theorem dX2_init_28 : decode cX2_init 28 = .ok (.newarray .int, 2) := by decide +kernel
theorem dX2_init_30 : decode cX2_init 30 = .ok (.putfield 22, 3) := by decide +kernel
theorem dX2_init_33 : decode cX2_init 33 = .ok (.aload_n 0, 1) := by decide +kernel
theorem dX2_init_34 : decode cX2_init 34 = .ok (.bipush 10, 2) := by decide +kernel
theorem dX2_init_36 : decode cX2_init 36 = .ok (.newarray .int, 2) := by decide +kernel
theorem dX2_init_38 : decode cX2_init 38 = .ok (.putfield 25, 3) := by decide +kernel
theorem dX2_init_41 : decode cX2_init 41 = .ok (.aload_n 0, 1) := by decide +kernel
theorem dX2_init_42 : decode cX2_init 42 = .ok (.bipush 10, 2) := by decide +kernel
theorem dX2_init_44 : decode cX2_init 44 = .ok (.newarray .int, 2) := by decide +kernel
theorem dX2_init_46 : decode cX2_init 46 = .ok (.putfield 28, 3) := by decide +kernel
theorem dX2_init_49 : decode cX2_init 49 = .ok (.return_, 1) := by decide +kernel
theorem dX2_has_0 : decode cX2_has 0 = .ok (.iload_n 1, 1) := by decide +kernel
theorem dX2_has_1 : decode cX2_has 1 = .ok (.ifCond .lt 21, 3) := by decide +kernel
theorem dX2_has_4 : decode cX2_has 4 = .ok (.iload_n 1, 1) := by decide +kernel
theorem dX2_has_5 : decode cX2_has 5 = .ok (.aload_n 0, 1) := by decide +kernel
theorem dX2_has_6 : decode cX2_has 6 = .ok (.getfield 9, 3) := by decide +kernel
theorem dX2_has_9 : decode cX2_has 9 = .ok (.if_icmp .ge 13, 3) := by decide +kernel
theorem dX2_has_12 : decode cX2_has 12 = .ok (.iload_n 1, 1) := by decide +kernel
theorem dX2_has_13 : decode cX2_has 13 = .ok (.bipush 10, 2) := by decide +kernel
theorem dX2_has_15 : decode cX2_has 15 = .ok (.if_icmp .ge 7, 3) := by decide +kernel
theorem dX2_has_18 : decode cX2_has 18 = .ok (.iconst 1, 1) := by decide +kernel
theorem dX2_has_19 : decode cX2_has 19 = .ok (.goto 4, 3) := by decide +kernel
theorem dX2_has_22 : decode cX2_has 22 = .ok (.iconst 0, 1) := by decide +kernel
theorem dX2_has_23 : decode cX2_has 23 = .ok (.ireturn, 1) := by decide +kernel
theorem dX2_add_0 : decode cX2_add 0 = .ok (.aload_n 0, 1) := by decide +kernel
theorem dX2_add_1 : decode cX2_add 1 = .ok (.getfield 9, 3) := by decide +kernel
theorem dX2_add_4 : decode cX2_add 4 = .ok (.ifCond .lt 12, 3) := by decide +kernel
theorem dX2_add_7 : decode cX2_add 7 = .ok (.aload_n 0, 1) := by decide +kernel
theorem dX2_add_8 : decode cX2_add 8 = .ok (.getfield 9, 3) := by decide +kernel
theorem dX2_add_11 : decode cX2_add 11 = .ok (.bipush 10, 2) := by decide +kernel
theorem dX2_add_13 : decode cX2_add 13 = .ok (.if_icmp .lt 5, 3) := by decide +kernel
theorem dX2_add_16 : decode cX2_add 16 = .ok (.iconst (-1), 1) := by decide +kernel
theorem dX2_add_17 : decode cX2_add 17 = .ok (.ireturn, 1) := by decide +kernel
theorem dX2_add_18 : decode cX2_add 18 = .ok (.aload_n 0, 1) := by decide +kernel
theorem dX2_add_19 : decode cX2_add 19 = .ok (.getfield 9, 3) := by decide +kernel
theorem dX2_add_22 : decode cX2_add 22 = .ok (.istore 5, 2) := by decide +kernel
theorem dX2_add_24 : decode cX2_add 24 = .ok (.aload_n 0, 1) := by decide +kernel
theorem dX2_add_25 : decode cX2_add 25 = .ok (.getfield 15, 3) := by decide +kernel
theorem dX2_add_28 : decode cX2_add 28 = .ok (.iload 5, 2) := by decide +kernel
theorem dX2_add_30 : decode cX2_add 30 = .ok (.iload_n 1, 1) := by decide +kernel
theorem dX2_add_31 : decode cX2_add 31 = .ok (.iastore, 1) := by decide +kernel
theorem dX2_add_32 : decode cX2_add 32 = .ok (.aload_n 0, 1) := by decide +kernel
theorem dX2_add_33 : decode cX2_add 33 = .ok (.getfield 19, 3) := by decide +kernel
theorem dX2_add_36 : decode cX2_add 36 = .ok (.iload 5, 2) := by decide +kernel
theorem dX2_add_38 : decode cX2_add 38 = .ok (.iload_n 2, 1) := by decide +kernel
theorem dX2_add_39 : decode cX2_add 39 = .ok (.iastore, 1) := by decide +kernel
theorem dX2_add_40 : decode cX2_add 40 = .ok (.aload_n 0, 1) := by decide +kernel
theorem dX2_add_41 : decode cX2_add 41 = .ok (.getfield 22, 3) := by decide +kernel
theorem dX2_add_44 : decode cX2_add 44 = .ok (.iload 5, 2) := by decide +kernel
theorem dX2_add_46 : decode cX2_add 46 = .ok (.iload_n 3, 1) := by decide +kernel
theorem dX2_add_47 : decode cX2_add 47 = .ok (.iastore, 1) := by decide +kernel
theorem dX2_add_48 : decode cX2_add 48 = .ok (.aload_n 0, 1) := by decide +kernel
theorem dX2_add_49 : decode cX2_add 49 = .ok (.getfield 25, 3) := by decide +kernel
theorem dX2_add_52 : decode cX2_add 52 = .ok (.iload 5, 2) := by decide +kernel
theorem dX2_add_54 : decode cX2_add 54 = .ok (.iload 4, 2) := by decide +kernel
theorem dX2_add_56 : decode cX2_add 56 = .ok (.iastore, 1) := by decide +kernel
theorem dX2_add_57 : decode cX2_add 57 = .ok (.aload_n 0, 1) := by decide +kernel
theorem dX2_add_58 : decode cX2_add 58 = .ok (.getfield 28, 3) := by decide +kernel
theorem dX2_add_61 : decode cX2_add 61 = .ok (.iload 5, 2) := by decide +kernel
theorem dX2_add_63 : decode cX2_add 63 = .ok (.iconst 0, 1) := by decide +kernel
theorem dX2_add_64 : decode cX2_add 64 = .ok (.iastore, 1) := by decide +kernel
theorem dX2_add_65 : decode cX2_add 65 = .ok (.aload_n 0, 1) := by decide +kernel
theorem dX2_add_66 : decode cX2_add 66 = .ok (.dup, 1) := by decide +kernel
theorem dX2_add_67 : decode cX2_add 67 = .ok (.getfield 9, 3) := by decide +kernel
theorem dX2_add_70 : decode cX2_add 70 = .ok (.iconst 1, 1) := by decide +kernel
theorem dX2_add_71 : decode cX2_add 71 = .ok (.iadd, 1) := by decide +kernel
theorem dX2_add_72 : decode cX2_add 72 = .ok (.putfield 9, 3) := by decide +kernel
theorem dX2_add_75 : decode cX2_add 75 = .ok (.iload 5, 2) := by decide +kernel
theorem dX2_add_77 : decode cX2_add 77 = .ok (.ireturn, 1) := by decide +kernel
theorem dX2_copyFrom_0 : decode cX2_copyFrom 0 = .ok (.aload_n 0, 1) := by decide +kernel
theorem dX2_copyFrom_1 : decode cX2_copyFrom 1 = .ok (.aload_n 1, 1) := by decide +kernel
theorem dX2_copyFrom_2 : decode cX2_copyFrom 2 = .ok (.getfield 9, 3) := by decide +kernel
theorem dX2_copyFrom_5 : decode cX2_copyFrom 5 = .ok (.putfield 9, 3) := by decide +kernel
theorem dX2_copyFrom_8 : decode cX2_copyFrom 8 = .ok (.aload_n 1, 1) := by decide +kernel
theorem dX2_copyFrom_9 : decode cX2_copyFrom 9 = .ok (.getfield 15, 3) := by decide +kernel
theorem dX2_copyFrom_12 : decode cX2_copyFrom 12 = .ok (.iconst 0, 1) := by decide +kernel
theorem dX2_copyFrom_13 : decode cX2_copyFrom 13 = .ok (.aload_n 0, 1) := by decide +kernel
theorem dX2_copyFrom_14 : decode cX2_copyFrom 14 = .ok (.getfield 15, 3) := by decide +kernel
theorem dX2_copyFrom_17 : decode cX2_copyFrom 17 = .ok (.iconst 0, 1) := by decide +kernel
theorem dX2_copyFrom_18 : decode cX2_copyFrom 18 = .ok (.bipush 10, 2) := by decide +kernel
theorem dX2_copyFrom_20 : decode cX2_copyFrom 20 = .ok (.invokestatic 31, 3) := by decide +kernel
theorem dX2_copyFrom_23 : decode cX2_copyFrom 23 = .ok (.aload_n 1, 1) := by decide +kernel
theorem dX2_copyFrom_24 : decode cX2_copyFrom 24 = .ok (.getfield 19, 3) := by decide +kernel
theorem dX2_copyFrom_27 : decode cX2_copyFrom 27 = .ok (.iconst 0, 1) := by decide +kernel
theorem dX2_copyFrom_28 : decode cX2_copyFrom 28 = .ok (.aload_n 0, 1) := by decide +kernel
theorem dX2_copyFrom_29 : decode cX2_copyFrom 29 = .ok (.getfield 19, 3) := by decide +kernel
theorem dX2_copyFrom_32 : decode cX2_copyFrom 32 = .ok (.iconst 0, 1) := by decide +kernel
theorem dX2_copyFrom_33 : decode cX2_copyFrom 33 = .ok (.bipush 10, 2) := by decide +kernel
theorem dX2_copyFrom_35 : decode cX2_copyFrom 35 = .ok (.invokestatic 31, 3) := by decide +kernel
theorem dX2_copyFrom_38 : decode cX2_copyFrom 38 = .ok (.aload_n 1, 1) := by decide +kernel
theorem dX2_copyFrom_39 : decode cX2_copyFrom 39 = .ok (.getfield 22, 3) := by decide +kernel
theorem dX2_copyFrom_42 : decode cX2_copyFrom 42 = .ok (.iconst 0, 1) := by decide +kernel
theorem dX2_copyFrom_43 : decode cX2_copyFrom 43 = .ok (.aload_n 0, 1) := by decide +kernel
theorem dX2_copyFrom_44 : decode cX2_copyFrom 44 = .ok (.getfield 22, 3) := by decide +kernel
theorem dX2_copyFrom_47 : decode cX2_copyFrom 47 = .ok (.iconst 0, 1) := by decide +kernel
theorem dX2_copyFrom_48 : decode cX2_copyFrom 48 = .ok (.bipush 10, 2) := by decide +kernel
theorem dX2_copyFrom_50 : decode cX2_copyFrom 50 = .ok (.invokestatic 31, 3) := by decide +kernel
theorem dX2_copyFrom_53 : decode cX2_copyFrom 53 = .ok (.aload_n 1, 1) := by decide +kernel
theorem dX2_copyFrom_54 : decode cX2_copyFrom 54 = .ok (.getfield 25, 3) := by decide +kernel
theorem dX2_copyFrom_57 : decode cX2_copyFrom 57 = .ok (.iconst 0, 1) := by decide +kernel
theorem dX2_copyFrom_58 : decode cX2_copyFrom 58 = .ok (.aload_n 0, 1) := by decide +kernel
theorem dX2_copyFrom_59 : decode cX2_copyFrom 59 = .ok (.getfield 25, 3) := by decide +kernel
theorem dX2_copyFrom_62 : decode cX2_copyFrom 62 = .ok (.iconst 0, 1) := by decide +kernel
theorem dX2_copyFrom_63 : decode cX2_copyFrom 63 = .ok (.bipush 10, 2) := by decide +kernel
theorem dX2_copyFrom_65 : decode cX2_copyFrom 65 = .ok (.invokestatic 31, 3) := by decide +kernel
theorem dX2_copyFrom_68 : decode cX2_copyFrom 68 = .ok (.aload_n 1, 1) := by decide +kernel
theorem dX2_copyFrom_69 : decode cX2_copyFrom 69 = .ok (.getfield 28, 3) := by decide +kernel
theorem dX2_copyFrom_72 : decode cX2_copyFrom 72 = .ok (.iconst 0, 1) := by decide +kernel
theorem dX2_copyFrom_73 : decode cX2_copyFrom 73 = .ok (.aload_n 0, 1) := by decide +kernel
theorem dX2_copyFrom_74 : decode cX2_copyFrom 74 = .ok (.getfield 28, 3) := by decide +kernel
theorem dX2_copyFrom_77 : decode cX2_copyFrom 77 = .ok (.iconst 0, 1) := by decide +kernel
theorem dX2_copyFrom_78 : decode cX2_copyFrom 78 = .ok (.bipush 10, 2) := by decide +kernel
theorem dX2_copyFrom_80 : decode cX2_copyFrom 80 = .ok (.invokestatic 31, 3) := by decide +kernel
theorem dX2_copyFrom_83 : decode cX2_copyFrom 83 = .ok (.return_, 1) := by decide +kernel
theorem dX3_init_0 : decode cX3_init 0 = .ok (.aload_n 0, 1) := by decide +kernel
theorem dX3_init_1 : decode cX3_init 1 = .ok (.invokespecial 1, 3) := by decide +kernel
theorem dX3_init_4 : decode cX3_init 4 = .ok (.aload_n 0, 1) := by decide +kernel
theorem dX3_init_5 : decode cX3_init 5 = .ok (.bipush 24, 2) := by decide +kernel
theorem dX3_init_7 : decode cX3_init 7 = .ok (.newarray .int, 2) := by decide +kernel
theorem dX3_init_9 : decode cX3_init 9 = .ok (.putfield 9, 3) := by decide +kernel
theorem dX3_init_12 : decode cX3_init 12 = .ok (.aload_n 0, 1) := by decide +kernel
theorem dX3_init_13 : decode cX3_init 13 = .ok (.bipush 24, 2) := by decide +kernel
theorem dX3_init_15 : decode cX3_init 15 = .ok (.newarray .int, 2) := by decide +kernel
theorem dX3_init_17 : decode cX3_init 17 = .ok (.putfield 13, 3) := by decide +kernel
theorem dX3_init_20 : decode cX3_init 20 = .ok (.aload_n 0, 1) := by decide +kernel
theorem dX3_init_21 : decode cX3_init 21 = .ok (.bipush 24, 2) := by decide +kernel
theorem dX3_init_23 : decode cX3_init 23 = .ok (.newarray .int, 2) := by decide +kernel
theorem dX3_init_25 : decode cX3_init 25 = .ok (.putfield 16, 3) := by decide +kernel
theorem dX3_init_28 : decode cX3_init 28 = .ok (.aload_n 0, 1) := by decide +kernel
theorem dX3_init_29 : decode cX3_init 29 = .ok (.bipush 24, 2) := by decide +kernel
theorem dX3_init_31 : decode cX3_init 31 = .ok (.newarray .int, 2) := by decide +kernel
theorem dX3_init_33 : decode cX3_init 33 = .ok (.putfield 19, 3) := by decide +kernel
theorem dX3_init_36 : decode cX3_init 36 = .ok (.return_, 1) := by decide +kernel
theorem dX3_entries_0 : decode cX3_entries 0 = .ok (.iconst 0, 1) := by decide +kernel
theorem dX3_entries_1 : decode cX3_entries 1 = .ok (.istore_n 1, 1) := by decide +kernel
theorem dX3_entries_2 : decode cX3_entries 2 = .ok (.iconst 0, 1) := by decide +kernel
theorem dX3_entries_3 : decode cX3_entries 3 = .ok (.istore_n 2, 1) := by decide +kernel
theorem dX3_entries_4 : decode cX3_entries 4 = .ok (.iload_n 2, 1) := by decide +kernel
theorem dX3_entries_5 : decode cX3_entries 5 = .ok (.bipush 24, 2) := by decide +kernel
theorem dX3_entries_7 : decode cX3_entries 7 = .ok (.if_icmp .ge 21, 3) := by decide +kernel
theorem dX3_entries_10 : decode cX3_entries 10 = .ok (.aload_n 0, 1) := by decide +kernel
theorem dX3_entries_11 : decode cX3_entries 11 = .ok (.getfield 19, 3) := by decide +kernel
theorem dX3_entries_14 : decode cX3_entries 14 = .ok (.iload_n 2, 1) := by decide +kernel
theorem dX3_entries_15 : decode cX3_entries 15 = .ok (.iaload, 1) := by decide +kernel
theorem dX3_entries_16 : decode cX3_entries 16 = .ok (.ifCond .eq 6, 3) := by decide +kernel
theorem dX3_entries_19 : decode cX3_entries 19 = .ok (.iinc 1 1, 3) := by decide +kernel
theorem dX3_entries_22 : decode cX3_entries 22 = .ok (.iinc 2 1, 3) := by decide +kernel
theorem dX3_entries_25 : decode cX3_entries 25 = .ok (.goto (-21), 3) := by decide +kernel
theorem dX3_entries_28 : decode cX3_entries 28 = .ok (.iload_n 1, 1) := by decide +kernel
theorem dX3_entries_29 : decode cX3_entries 29 = .ok (.ireturn, 1) := by decide +kernel
set_option maxRecDepth 20000 in
theorem ggX3_ownRate_X3_isEntryOf : GoodIn wsX3_ownRate wsX3_isEntryOf := goodIn_r _ [6, 1, 7, 8, 9, 10, 11, 12, 13] (by decide +kernel) (by decide +kernel)
set_option maxRecDepth 20000 in
theorem gX3_ownRate_X3_isEntryOf : GoodIn wsX3_ownRate (wsV RX3 22 RX3 yX3_isEntryOf wsX3_isEntryOf) := goodIn_app (goodIn_of _ (by decide +kernel)) ggX3_ownRate_X3_isEntryOf
theorem dX3_ownRate_0 : decode cX3_ownRate 0 = .ok (.iconst 0, 1) := by decide +kernel
theorem dX3_ownRate_1 : decode cX3_ownRate 1 = .ok (.istore 4, 2) := by decide +kernel
theorem dX3_ownRate_3 : decode cX3_ownRate 3 = .ok (.iload 4, 2) := by decide +kernel
theorem dX3_ownRate_5 : decode cX3_ownRate 5 = .ok (.bipush 24, 2) := by decide +kernel
theorem dX3_ownRate_7 : decode cX3_ownRate 7 = .ok (.if_icmp .ge 29, 3) := by decide +kernel
theorem dX3_ownRate_10 : decode cX3_ownRate 10 = .ok (.aload_n 0, 1) := by decide +kernel
theorem dX3_ownRate_11 : decode cX3_ownRate 11 = .ok (.iload 4, 2) := by decide +kernel
theorem dX3_ownRate_13 : decode cX3_ownRate 13 = .ok (.iload_n 1, 1) := by decide +kernel
theorem dX3_ownRate_14 : decode cX3_ownRate 14 = .ok (.iload_n 2, 1) := by decide +kernel
theorem dX3_ownRate_15 : decode cX3_ownRate 15 = .ok (.iload_n 3, 1) := by decide +kernel
theorem dX3_ownRate_16 : decode cX3_ownRate 16 = .ok (.invokevirtual 22, 3) := by decide +kernel
theorem dX3_ownRate_19 : decode cX3_ownRate 19 = .ok (.ifCond .eq 11, 3) := by decide +kernel
theorem dX3_ownRate_22 : decode cX3_ownRate 22 = .ok (.aload_n 0, 1) := by decide +kernel
theorem dX3_ownRate_23 : decode cX3_ownRate 23 = .ok (.getfield 19, 3) := by decide +kernel
theorem dX3_ownRate_26 : decode cX3_ownRate 26 = .ok (.iload 4, 2) := by decide +kernel
theorem dX3_ownRate_28 : decode cX3_ownRate 28 = .ok (.iaload, 1) := by decide +kernel
theorem dX3_ownRate_29 : decode cX3_ownRate 29 = .ok (.ireturn, 1) := by decide +kernel
theorem dX3_ownRate_30 : decode cX3_ownRate 30 = .ok (.iinc 4 1, 3) := by decide +kernel
theorem dX3_ownRate_33 : decode cX3_ownRate 33 = .ok (.goto (-30), 3) := by decide +kernel
theorem dX3_ownRate_36 : decode cX3_ownRate 36 = .ok (.iconst 0, 1) := by decide +kernel
theorem dX3_ownRate_37 : decode cX3_ownRate 37 = .ok (.ireturn, 1) := by decide +kernel
theorem dX3_rateFor_0 : decode cX3_rateFor 0 = .ok (.iconst 0, 1) := by decide +kernel
theorem dX3_rateFor_1 : decode cX3_rateFor 1 = .ok (.istore 4, 2) := by decide +kernel
theorem dX3_rateFor_3 : decode cX3_rateFor 3 = .ok (.iconst 0, 1) := by decide +kernel
theorem dX3_rateFor_4 : decode cX3_rateFor 4 = .ok (.istore 5, 2) := by decide +kernel
theorem dX3_rateFor_6 : decode cX3_rateFor 6 = .ok (.iload 5, 2) := by decide +kernel
theorem dX3_rateFor_8 : decode cX3_rateFor 8 = .ok (.bipush 24, 2) := by decide +kernel
theorem dX3_rateFor_10 : decode cX3_rateFor 10 = .ok (.if_icmp .ge 106, 3) := by decide +kernel
theorem dX3_rateFor_13 : decode cX3_rateFor 13 = .ok (.aload_n 0, 1) := by decide +kernel
theorem dX3_rateFor_14 : decode cX3_rateFor 14 = .ok (.getfield 19, 3) := by decide +kernel
theorem dX3_rateFor_17 : decode cX3_rateFor 17 = .ok (.iload 5, 2) := by decide +kernel
theorem dX3_rateFor_19 : decode cX3_rateFor 19 = .ok (.iaload, 1) := by decide +kernel
theorem dX3_rateFor_20 : decode cX3_rateFor 20 = .ok (.ifCond .eq 90, 3) := by decide +kernel
theorem dX3_rateFor_23 : decode cX3_rateFor 23 = .ok (.aload_n 0, 1) := by decide +kernel
theorem dX3_rateFor_24 : decode cX3_rateFor 24 = .ok (.getfield 9, 3) := by decide +kernel
theorem dX3_rateFor_27 : decode cX3_rateFor 27 = .ok (.iload 5, 2) := by decide +kernel
theorem dX3_rateFor_29 : decode cX3_rateFor 29 = .ok (.iaload, 1) := by decide +kernel
theorem dX3_rateFor_30 : decode cX3_rateFor 30 = .ok (.iload_n 1, 1) := by decide +kernel
theorem dX3_rateFor_31 : decode cX3_rateFor 31 = .ok (.if_icmp .ne 79, 3) := by decide +kernel
theorem dX3_rateFor_34 : decode cX3_rateFor 34 = .ok (.aload_n 0, 1) := by decide +kernel
theorem dX3_rateFor_35 : decode cX3_rateFor 35 = .ok (.getfield 13, 3) := by decide +kernel
theorem dX3_rateFor_38 : decode cX3_rateFor 38 = .ok (.iload 5, 2) := by decide +kernel
theorem dX3_rateFor_40 : decode cX3_rateFor 40 = .ok (.iaload, 1) := by decide +kernel
theorem dX3_rateFor_41 : decode cX3_rateFor 41 = .ok (.iload_n 2, 1) := by decide +kernel
theorem dX3_rateFor_42 : decode cX3_rateFor 42 = .ok (.if_icmp .lt 68, 3) := by decide +kernel
theorem dX3_rateFor_45 : decode cX3_rateFor 45 = .ok (.aload_n 0, 1) := by decide +kernel
theorem dX3_rateFor_46 : decode cX3_rateFor 46 = .ok (.getfield 16, 3) := by decide +kernel
theorem dX3_rateFor_49 : decode cX3_rateFor 49 = .ok (.iload 5, 2) := by decide +kernel
theorem dX3_rateFor_51 : decode cX3_rateFor 51 = .ok (.iaload, 1) := by decide +kernel
theorem dX3_rateFor_52 : decode cX3_rateFor 52 = .ok (.iload_n 3, 1) := by decide +kernel
theorem dX3_rateFor_53 : decode cX3_rateFor 53 = .ok (.if_icmp .ge 6, 3) := by decide +kernel
theorem dX3_rateFor_56 : decode cX3_rateFor 56 = .ok (.goto 54, 3) := by decide +kernel
theorem dX3_rateFor_59 : decode cX3_rateFor 59 = .ok (.aload_n 0, 1) := by decide +kernel
theorem dX3_rateFor_60 : decode cX3_rateFor 60 = .ok (.getfield 13, 3) := by decide +kernel
theorem dX3_rateFor_63 : decode cX3_rateFor 63 = .ok (.iload 5, 2) := by decide +kernel
theorem dX3_rateFor_65 : decode cX3_rateFor 65 = .ok (.iaload, 1) := by decide +kernel
theorem dX3_rateFor_66 : decode cX3_rateFor 66 = .ok (.iload_n 2, 1) := by decide +kernel
theorem dX3_rateFor_67 : decode cX3_rateFor 67 = .ok (.if_icmp .ne 22, 3) := by decide +kernel
theorem dX3_rateFor_70 : decode cX3_rateFor 70 = .ok (.aload_n 0, 1) := by decide +kernel
theorem dX3_rateFor_71 : decode cX3_rateFor 71 = .ok (.getfield 16, 3) := by decide +kernel
theorem dX3_rateFor_74 : decode cX3_rateFor 74 = .ok (.iload 5, 2) := by decide +kernel
theorem dX3_rateFor_76 : decode cX3_rateFor 76 = .ok (.iaload, 1) := by decide +kernel
theorem dX3_rateFor_77 : decode cX3_rateFor 77 = .ok (.iload_n 3, 1) := by decide +kernel
theorem dX3_rateFor_78 : decode cX3_rateFor 78 = .ok (.if_icmp .ne 11, 3) := by decide +kernel
theorem dX3_rateFor_81 : decode cX3_rateFor 81 = .ok (.aload_n 0, 1) := by decide +kernel
theorem dX3_rateFor_82 : decode cX3_rateFor 82 = .ok (.getfield 19, 3) := by decide +kernel
theorem dX3_rateFor_85 : decode cX3_rateFor 85 = .ok (.iload 5, 2) := by decide +kernel
theorem dX3_rateFor_87 : decode cX3_rateFor 87 = .ok (.iaload, 1) := by decide +kernel
theorem dX3_rateFor_88 : decode cX3_rateFor 88 = .ok (.ireturn, 1) := by decide +kernel
theorem dX3_rateFor_89 : decode cX3_rateFor 89 = .ok (.aload_n 0, 1) := by decide +kernel
theorem dX3_rateFor_90 : decode cX3_rateFor 90 = .ok (.getfield 19, 3) := by decide +kernel
theorem dX3_rateFor_93 : decode cX3_rateFor 93 = .ok (.iload 5, 2) := by decide +kernel
theorem dX3_rateFor_95 : decode cX3_rateFor 95 = .ok (.iaload, 1) := by decide +kernel
theorem dX3_rateFor_96 : decode cX3_rateFor 96 = .ok (.iload 4, 2) := by decide +kernel
theorem dX3_rateFor_98 : decode cX3_rateFor 98 = .ok (.if_icmp .le 12, 3) := by decide +kernel
theorem dX3_rateFor_101 : decode cX3_rateFor 101 = .ok (.aload_n 0, 1) := by decide +kernel
theorem dX3_rateFor_102 : decode cX3_rateFor 102 = .ok (.getfield 19, 3) := by decide +kernel
theorem dX3_rateFor_105 : decode cX3_rateFor 105 = .ok (.iload 5, 2) := by decide +kernel
theorem dX3_rateFor_107 : decode cX3_rateFor 107 = .ok (.iaload, 1) := by decide +kernel
theorem dX3_rateFor_108 : decode cX3_rateFor 108 = .ok (.istore 4, 2) := by decide +kernel
theorem dX3_rateFor_110 : decode cX3_rateFor 110 = .ok (.iinc 5 1, 3) := by decide +kernel
theorem dX3_rateFor_113 : decode cX3_rateFor 113 = .ok (.goto (-107), 3) := by decide +kernel
theorem dX3_rateFor_116 : decode cX3_rateFor 116 = .ok (.iload 4, 2) := by decide +kernel
theorem dX3_rateFor_118 : decode cX3_rateFor 118 = .ok (.ireturn, 1) := by decide +kernel
set_option maxRecDepth 20000 in
theorem ggX3_change_X3_isEntryOf : GoodIn wsX3_change wsX3_isEntryOf := goodIn_r _ [6, 1, 7, 8, 9, 10, 11, 12, 13] (by decide +kernel) (by decide +kernel)
set_option maxRecDepth 20000 in
theorem gX3_change_X3_isEntryOf : GoodIn wsX3_change (wsV RX3 22 RX3 yX3_isEntryOf wsX3_isEntryOf) := goodIn_app (goodIn_of _ (by decide +kernel)) ggX3_change_X3_isEntryOf
theorem dX3_change_0 : decode cX3_change 0 = .ok (.iconst 0, 1) := by decide +kernel
theorem dX3_change_1 : decode cX3_change 1 = .ok (.istore 5, 2) := by decide +kernel
theorem dX3_change_3 : decode cX3_change 3 = .ok (.iload 5, 2) := by decide +kernel
theorem dX3_change_5 : decode cX3_change 5 = .ok (.bipush 24, 2) := by decide +kernel
theorem dX3_change_7 : decode cX3_change 7 = .ok (.if_icmp .ge 30, 3) := by decide +kernel
theorem dX3_change_10 : decode cX3_change 10 = .ok (.aload_n 0, 1) := by decide +kernel
theorem dX3_change_11 : decode cX3_change 11 = .ok (.iload 5, 2) := by decide +kernel
theorem dX3_change_13 : decode cX3_change 13 = .ok (.iload_n 1, 1) := by decide +kernel
theorem dX3_change_14 : decode cX3_change 14 = .ok (.iload_n 2, 1) := by decide +kernel
theorem dX3_change_15 : decode cX3_change 15 = .ok (.iload_n 3, 1) := by decide +kernel
theorem dX3_change_16 : decode cX3_change 16 = .ok (.invokevirtual 22, 3) := by decide +kernel
theorem dX3_change_19 : decode cX3_change 19 = .ok (.ifCond .eq 12, 3) := by decide +kernel
theorem dX3_change_22 : decode cX3_change 22 = .ok (.aload_n 0, 1) := by decide +kernel
theorem dX3_change_23 : decode cX3_change 23 = .ok (.getfield 19, 3) := by decide +kernel
theorem dX3_change_26 : decode cX3_change 26 = .ok (.iload 5, 2) := by decide +kernel
theorem dX3_change_28 : decode cX3_change 28 = .ok (.iload 4, 2) := by decide +kernel
theorem dX3_change_30 : decode cX3_change 30 = .ok (.iastore, 1) := by decide +kernel
theorem dX3_change_31 : decode cX3_change 31 = .ok (.iinc 5 1, 3) := by decide +kernel
theorem dX3_change_34 : decode cX3_change 34 = .ok (.goto (-31), 3) := by decide +kernel
theorem dX3_change_37 : decode cX3_change 37 = .ok (.return_, 1) := by decide +kernel
theorem dX3_add_0 : decode cX3_add 0 = .ok (.iconst 0, 1) := by decide +kernel
theorem dX3_add_1 : decode cX3_add 1 = .ok (.istore 5, 2) := by decide +kernel
theorem dX3_add_3 : decode cX3_add 3 = .ok (.iload 5, 2) := by decide +kernel
theorem dX3_add_5 : decode cX3_add 5 = .ok (.bipush 24, 2) := by decide +kernel
theorem dX3_add_7 : decode cX3_add 7 = .ok (.if_icmp .ge 54, 3) := by decide +kernel
theorem dX3_add_10 : decode cX3_add 10 = .ok (.aload_n 0, 1) := by decide +kernel
theorem dX3_add_11 : decode cX3_add 11 = .ok (.getfield 19, 3) := by decide +kernel
theorem dX3_add_14 : decode cX3_add 14 = .ok (.iload 5, 2) := by decide +kernel
theorem dX3_add_16 : decode cX3_add 16 = .ok (.iaload, 1) := by decide +kernel
theorem dX3_add_17 : decode cX3_add 17 = .ok (.ifCond .ne 38, 3) := by decide +kernel
theorem dX3_add_20 : decode cX3_add 20 = .ok (.aload_n 0, 1) := by decide +kernel
theorem dX3_add_21 : decode cX3_add 21 = .ok (.getfield 9, 3) := by decide +kernel
theorem dX3_add_24 : decode cX3_add 24 = .ok (.iload 5, 2) := by decide +kernel
theorem dX3_add_26 : decode cX3_add 26 = .ok (.iload_n 1, 1) := by decide +kernel
theorem dX3_add_27 : decode cX3_add 27 = .ok (.iastore, 1) := by decide +kernel
theorem dX3_add_28 : decode cX3_add 28 = .ok (.aload_n 0, 1) := by decide +kernel
theorem dX3_add_29 : decode cX3_add 29 = .ok (.getfield 13, 3) := by decide +kernel
theorem dX3_add_32 : decode cX3_add 32 = .ok (.iload 5, 2) := by decide +kernel
theorem dX3_add_34 : decode cX3_add 34 = .ok (.iload_n 2, 1) := by decide +kernel
theorem dX3_add_35 : decode cX3_add 35 = .ok (.iastore, 1) := by decide +kernel
theorem dX3_add_36 : decode cX3_add 36 = .ok (.aload_n 0, 1) := by decide +kernel
theorem dX3_add_37 : decode cX3_add 37 = .ok (.getfield 16, 3) := by decide +kernel
theorem dX3_add_40 : decode cX3_add 40 = .ok (.iload 5, 2) := by decide +kernel
theorem dX3_add_42 : decode cX3_add 42 = .ok (.iload_n 3, 1) := by decide +kernel
theorem dX3_add_43 : decode cX3_add 43 = .ok (.iastore, 1) := by decide +kernel
theorem dX3_add_44 : decode cX3_add 44 = .ok (.aload_n 0, 1) := by decide +kernel
theorem dX3_add_45 : decode cX3_add 45 = .ok (.getfield 19, 3) := by decide +kernel
theorem dX3_add_48 : decode cX3_add 48 = .ok (.iload 5, 2) := by decide +kernel
theorem dX3_add_50 : decode cX3_add 50 = .ok (.iload 4, 2) := by decide +kernel
theorem dX3_add_52 : decode cX3_add 52 = .ok (.iastore, 1) := by decide +kernel
theorem dX3_add_53 : decode cX3_add 53 = .ok (.iconst 1, 1) := by decide +kernel
theorem dX3_add_54 : decode cX3_add 54 = .ok (.ireturn, 1) := by decide +kernel
theorem dX3_add_55 : decode cX3_add 55 = .ok (.iinc 5 1, 3) := by decide +kernel
theorem dX3_add_58 : decode cX3_add 58 = .ok (.goto (-55), 3) := by decide +kernel
theorem dX3_add_61 : decode cX3_add 61 = .ok (.iconst 0, 1) := by decide +kernel
theorem dX3_add_62 : decode cX3_add 62 = .ok (.ireturn, 1) := by decide +kernel
theorem dX3_copyFrom_0 : decode cX3_copyFrom 0 = .ok (.aload_n 1, 1) := by decide +kernel
theorem dX3_copyFrom_1 : decode cX3_copyFrom 1 = .ok (.getfield 9, 3) := by decide +kernel
theorem dX3_copyFrom_4 : decode cX3_copyFrom 4 = .ok (.iconst 0, 1) := by decide +kernel
theorem dX3_copyFrom_5 : decode cX3_copyFrom 5 = .ok (.aload_n 0, 1) := by decide +kernel
theorem dX3_copyFrom_6 : decode cX3_copyFrom 6 = .ok (.getfield 9, 3) := by decide +kernel
theorem dX3_copyFrom_9 : decode cX3_copyFrom 9 = .ok (.iconst 0, 1) := by decide +kernel
theorem dX3_copyFrom_10 : decode cX3_copyFrom 10 = .ok (.bipush 24, 2) := by decide +kernel
theorem dX3_copyFrom_12 : decode cX3_copyFrom 12 = .ok (.invokestatic 26, 3) := by decide +kernel
theorem dX3_copyFrom_15 : decode cX3_copyFrom 15 = .ok (.aload_n 1, 1) := by decide +kernel
theorem dX3_copyFrom_16 : decode cX3_copyFrom 16 = .ok (.getfield 13, 3) := by decide +kernel
theorem dX3_copyFrom_19 : decode cX3_copyFrom 19 = .ok (.iconst 0, 1) := by decide +kernel
theorem dX3_copyFrom_20 : decode cX3_copyFrom 20 = .ok (.aload_n 0, 1) := by decide +kernel
theorem dX3_copyFrom_21 : decode cX3_copyFrom 21 = .ok (.getfield 13, 3) := by decide +kernel
theorem dX3_copyFrom_24 : decode cX3_copyFrom 24 = .ok (.iconst 0, 1) := by decide +kernel
theorem dX3_copyFrom_25 : decode cX3_copyFrom 25 = .ok (.bipush 24, 2) := by decide +kernel
theorem dX3_copyFrom_27 : decode cX3_copyFrom 27 = .ok (.invokestatic 26, 3) := by decide +kernel
theorem dX3_copyFrom_30 : decode cX3_copyFrom 30 = .ok (.aload_n 1, 1) := by decide +kernel
theorem dX3_copyFrom_31 : decode cX3_copyFrom 31 = .ok (.getfield 16, 3) := by decide +kernel
theorem dX3_copyFrom_34 : decode cX3_copyFrom 34 = .ok (.iconst 0, 1) := by decide +kernel
theorem dX3_copyFrom_35 : decode cX3_copyFrom 35 = .ok (.aload_n 0, 1) := by decide +kernel
theorem dX3_copyFrom_36 : decode cX3_copyFrom 36 = .ok (.getfield 16, 3) := by decide +kernel
theorem dX3_copyFrom_39 : decode cX3_copyFrom 39 = .ok (.iconst 0, 1) := by decide +kernel
theorem dX3_copyFrom_40 : decode cX3_copyFrom 40 = .ok (.bipush 24, 2) := by decide +kernel
theorem dX3_copyFrom_42 : decode cX3_copyFrom 42 = .ok (.invokestatic 26, 3) := by decide +kernel
theorem dX3_copyFrom_45 : decode cX3_copyFrom 45 = .ok (.aload_n 1, 1) := by decide +kernel
theorem dX3_copyFrom_46 : decode cX3_copyFrom 46 = .ok (.getfield 19, 3) := by decide +kernel
theorem dX3_copyFrom_49 : decode cX3_copyFrom 49 = .ok (.iconst 0, 1) := by decide +kernel
theorem dX3_copyFrom_50 : decode cX3_copyFrom 50 = .ok (.aload_n 0, 1) := by decide +kernel
theorem dX3_copyFrom_51 : decode cX3_copyFrom 51 = .ok (.getfield 19, 3) := by decide +kernel
theorem dX3_copyFrom_54 : decode cX3_copyFrom 54 = .ok (.iconst 0, 1) := by decide +kernel
theorem dX3_copyFrom_55 : decode cX3_copyFrom 55 = .ok (.bipush 24, 2) := by decide +kernel
theorem dX3_copyFrom_57 : decode cX3_copyFrom 57 = .ok (.invokestatic 26, 3) := by decide +kernel
theorem dX3_copyFrom_60 : decode cX3_copyFrom 60 = .ok (.return_, 1) := by decide +kernel
theorem dX3_isEntryOf_0 : decode cX3_isEntryOf 0 = .ok (.aload_n 0, 1) := by decide +kernel
theorem dX3_isEntryOf_1 : decode cX3_isEntryOf 1 = .ok (.getfield 19, 3) := by decide +kernel
theorem dX3_isEntryOf_4 : decode cX3_isEntryOf 4 = .ok (.iload_n 1, 1) := by decide +kernel
theorem dX3_isEntryOf_5 : decode cX3_isEntryOf 5 = .ok (.iaload, 1) := by decide +kernel
theorem dX3_isEntryOf_6 : decode cX3_isEntryOf 6 = .ok (.ifCond .eq 38, 3) := by decide +kernel
theorem dX3_isEntryOf_9 : decode cX3_isEntryOf 9 = .ok (.aload_n 0, 1) := by decide +kernel
theorem dX3_isEntryOf_10 : decode cX3_isEntryOf 10 = .ok (.getfield 9, 3) := by decide +kernel
theorem dX3_isEntryOf_13 : decode cX3_isEntryOf 13 = .ok (.iload_n 1, 1) := by decide +kernel
theorem dX3_isEntryOf_14 : decode cX3_isEntryOf 14 = .ok (.iaload, 1) := by decide +kernel
theorem dX3_isEntryOf_15 : decode cX3_isEntryOf 15 = .ok (.iload_n 2, 1) := by decide +kernel
theorem dX3_isEntryOf_16 : decode cX3_isEntryOf 16 = .ok (.if_icmp .ne 28, 3) := by decide +kernel
theorem dX3_isEntryOf_19 : decode cX3_isEntryOf 19 = .ok (.aload_n 0, 1) := by decide +kernel
theorem dX3_isEntryOf_20 : decode cX3_isEntryOf 20 = .ok (.getfield 13, 3) := by decide +kernel
theorem dX3_isEntryOf_23 : decode cX3_isEntryOf 23 = .ok (.iload_n 1, 1) := by decide +kernel
theorem dX3_isEntryOf_24 : decode cX3_isEntryOf 24 = .ok (.iaload, 1) := by decide +kernel
theorem dX3_isEntryOf_25 : decode cX3_isEntryOf 25 = .ok (.iload_n 3, 1) := by decide +kernel
theorem dX3_isEntryOf_26 : decode cX3_isEntryOf 26 = .ok (.if_icmp .ne 18, 3) := by decide +kernel
theorem dX3_isEntryOf_29 : decode cX3_isEntryOf 29 = .ok (.aload_n 0, 1) := by decide +kernel
theorem dX3_isEntryOf_30 : decode cX3_isEntryOf 30 = .ok (.getfield 16, 3) := by decide +kernel
theorem dX3_isEntryOf_33 : decode cX3_isEntryOf 33 = .ok (.iload_n 1, 1) := by decide +kernel
theorem dX3_isEntryOf_34 : decode cX3_isEntryOf 34 = .ok (.iaload, 1) := by decide +kernel
theorem dX3_isEntryOf_35 : decode cX3_isEntryOf 35 = .ok (.iload 4, 2) := by decide +kernel
theorem dX3_isEntryOf_37 : decode cX3_isEntryOf 37 = .ok (.if_icmp .ne 7, 3) := by decide +kernel
theorem dX3_isEntryOf_40 : decode cX3_isEntryOf 40 = .ok (.iconst 1, 1) := by decide +kernel
theorem dX3_isEntryOf_41 : decode cX3_isEntryOf 41 = .ok (.goto 4, 3) := by decide +kernel
theorem dX3_isEntryOf_44 : decode cX3_isEntryOf 44 = .ok (.iconst 0, 1) := by decide +kernel
theorem dX3_isEntryOf_45 : decode cX3_isEntryOf 45 = .ok (.ireturn, 1) := by decide +kernel
theorem dX4_init_0 : decode cX4_init 0 = .ok (.aload_n 0, 1) := by decide +kernel
theorem dX4_init_1 : decode cX4_init 1 = .ok (.invokespecial 3, 3) := by decide +kernel
theorem dX4_init_4 : decode cX4_init 4 = .ok (.aload_n 0, 1) := by decide +kernel
theorem dX4_init_5 : decode cX4_init 5 = .ok (.bipush 60, 2) := by decide +kernel
theorem dX4_init_7 : decode cX4_init 7 = .ok (.newarray .char, 2) := by decide +kernel
theorem dX4_init_9 : decode cX4_init 9 = .ok (.putfield 11, 3) := by decide +kernel
theorem dX4_init_12 : decode cX4_init 12 = .ok (.aload_n 0, 1) := by decide +kernel
theorem dX4_init_13 : decode cX4_init 13 = .ok (.iconst 0, 1) := by decide +kernel
theorem dX4_init_14 : decode cX4_init 14 = .ok (.putfield 15, 3) := by decide +kernel
theorem dX4_init_17 : decode cX4_init 17 = .ok (.aload_n 0, 1) := by decide +kernel
theorem dX4_init_18 : decode cX4_init 18 = .ok (.iconst 0, 1) := by decide +kernel
theorem dX4_init_19 : decode cX4_init 19 = .ok (.putfield 19, 3) := by decide +kernel
theorem dX4_init_22 : decode cX4_init 22 = .ok (.aload_n 0, 1) := by decide +kernel
theorem dX4_init_23 : decode cX4_init 23 = .ok (.iconst 4, 1) := by decide +kernel
theorem dX4_init_24 : decode cX4_init 24 = .ok (.newarray .int, 2) := by decide +kernel
theorem dX4_init_26 : decode cX4_init 26 = .ok (.putfield 22, 3) := by decide +kernel
theorem dX4_init_29 : decode cX4_init 29 = .ok (.aload_n 0, 1) := by decide +kernel
theorem dX4_init_30 : decode cX4_init 30 = .ok (.iconst 0, 1) := by decide +kernel
theorem dX4_init_31 : decode cX4_init 31 = .ok (.putfield 26, 3) := by decide +kernel
theorem dX4_init_34 : decode cX4_init 34 = .ok (.aload_n 0, 1) := by decide +kernel
theorem dX4_init_35 : decode cX4_init 35 = .ok (.iconst (-1), 1) := by decide +kernel
theorem dX4_init_36 : decode cX4_init 36 = .ok (.putfield 29, 3) := by decide +kernel
theorem dX4_init_39 : decode cX4_init 39 = .ok (.aload_n 0, 1) := by decide +kernel
theorem dX4_init_40 : decode cX4_init 40 = .ok (.iconst 0, 1) := by decide +kernel
theorem dX4_init_41 : decode cX4_init 41 = .ok (.putfield 32, 3) := by decide +kernel
theorem dX4_init_44 : decode cX4_init 44 = .ok (.aload_n 0, 1) := by decide +kernel
theorem dX4_init_45 : decode cX4_init 45 = .ok (.iconst 0, 1) := by decide +kernel
theorem dX4_init_46 : decode cX4_init 46 = .ok (.putfield 35, 3) := by decide +kernel
theorem dX4_init_49 : decode cX4_init 49 = .ok (.return_, 1) := by decide +kernel
theorem dX4_append_0 : decode cX4_append 0 = .ok (.aload_n 0, 1) := by decide +kernel
theorem dX4_append_1 : decode cX4_append 1 = .ok (.getfield 15, 3) := by decide +kernel
theorem dX4_append_4 : decode cX4_append 4 = .ok (.ifCond .lt 12, 3) := by decide +kernel
theorem dX4_append_7 : decode cX4_append 7 = .ok (.aload_n 0, 1) := by decide +kernel
theorem dX4_append_8 : decode cX4_append 8 = .ok (.getfield 15, 3) := by decide +kernel
theorem dX4_append_11 : decode cX4_append 11 = .ok (.bipush 60, 2) := by decide +kernel
theorem dX4_append_13 : decode cX4_append 13 = .ok (.if_icmp .lt 6, 3) := by decide +kernel
theorem dX4_append_16 : decode cX4_append 16 = .ok (.ldc 38, 2) := by decide +kernel
theorem dX4_append_18 : decode cX4_append 18 = .ok (.ireturn, 1) := by decide +kernel
theorem dX4_append_19 : decode cX4_append 19 = .ok (.aload_n 0, 1) := by decide +kernel
theorem dX4_append_20 : decode cX4_append 20 = .ok (.getfield 11, 3) := by decide +kernel
theorem dX4_append_23 : decode cX4_append 23 = .ok (.aload_n 0, 1) := by decide +kernel
theorem dX4_append_24 : decode cX4_append 24 = .ok (.getfield 15, 3) := by decide +kernel
theorem dX4_append_27 : decode cX4_append 27 = .ok (.iload_n 1, 1) := by decide +kernel
theorem dX4_append_28 : decode cX4_append 28 = .ok (.castore, 1) := by decide +kernel
theorem dX4_append_29 : decode cX4_append 29 = .ok (.aload_n 0, 1) := by decide +kernel
theorem dX4_append_30 : decode cX4_append 30 = .ok (.dup, 1) := by decide +kernel
theorem dX4_append_31 : decode cX4_append 31 = .ok (.getfield 15, 3) := by decide +kernel
theorem dX4_append_34 : decode cX4_append 34 = .ok (.iconst 1, 1) := by decide +kernel
theorem dX4_append_35 : decode cX4_append 35 = .ok (.iadd, 1) := by decide +kernel
theorem dX4_append_36 : decode cX4_append 36 = .ok (.putfield 15, 3) := by decide +kernel
theorem dX4_append_39 : decode cX4_append 39 = .ok (.aload_n 0, 1) := by decide +kernel
theorem dX4_append_40 : decode cX4_append 40 = .ok (.getfield 15, 3) := by decide +kernel
theorem dX4_append_43 : decode cX4_append 43 = .ok (.ireturn, 1) := by decide +kernel
theorem dX4_hasFault_0 : decode cX4_hasFault 0 = .ok (.aload_n 0, 1) := by decide +kernel
theorem dX4_hasFault_1 : decode cX4_hasFault 1 = .ok (.getfield 29, 3) := by decide +kernel
theorem dX4_hasFault_4 : decode cX4_hasFault 4 = .ok (.iconst (-1), 1) := by decide +kernel
theorem dX4_hasFault_5 : decode cX4_hasFault 5 = .ok (.if_icmp .eq 7, 3) := by decide +kernel
theorem dX4_hasFault_8 : decode cX4_hasFault 8 = .ok (.iconst 1, 1) := by decide +kernel
theorem dX4_hasFault_9 : decode cX4_hasFault 9 = .ok (.goto 4, 3) := by decide +kernel
theorem dX4_hasFault_12 : decode cX4_hasFault 12 = .ok (.iconst 0, 1) := by decide +kernel
theorem dX4_hasFault_13 : decode cX4_hasFault 13 = .ok (.ireturn, 1) := by decide +kernel
theorem dX4_tellFault_0 : decode cX4_tellFault 0 = .ok (.aload_n 0, 1) := by decide +kernel
theorem dX4_tellFault_1 : decode cX4_tellFault 1 = .ok (.getfield 29, 3) := by decide +kernel
theorem dX4_tellFault_4 : decode cX4_tellFault 4 = .ok (.iconst (-1), 1) := by decide +kernel
theorem dX4_tellFault_5 : decode cX4_tellFault 5 = .ok (.if_icmp .ne 6, 3) := by decide +kernel
theorem dX4_tellFault_8 : decode cX4_tellFault 8 = .ok (.ldc 39, 2) := by decide +kernel
theorem dX4_tellFault_10 : decode cX4_tellFault 10 = .ok (.ireturn, 1) := by decide +kernel
theorem dX4_tellFault_11 : decode cX4_tellFault 11 = .ok (.iload_n 1, 1) := by decide +kernel
theorem dX4_tellFault_12 : decode cX4_tellFault 12 = .ok (.ifCond .ne 10, 3) := by decide +kernel
theorem dX4_tellFault_15 : decode cX4_tellFault 15 = .ok (.aload_n 0, 1) := by decide +kernel
theorem dX4_tellFault_16 : decode cX4_tellFault 16 = .ok (.getfield 29, 3) := by decide +kernel
theorem dX4_tellFault_19 : decode cX4_tellFault 19 = .ok (.goto 19, 3) := by decide +kernel
theorem dX4_tellFault_22 : decode cX4_tellFault 22 = .ok (.iload_n 1, 1) := by decide +kernel
theorem dX4_tellFault_23 : decode cX4_tellFault 23 = .ok (.iconst 1, 1) := by decide +kernel
theorem dX4_tellFault_24 : decode cX4_tellFault 24 = .ok (.if_icmp .ne 10, 3) := by decide +kernel
theorem dX4_tellFault_27 : decode cX4_tellFault 27 = .ok (.aload_n 0, 1) := by decide +kernel
theorem dX4_tellFault_28 : decode cX4_tellFault 28 = .ok (.getfield 32, 3) := by decide +kernel
theorem dX4_tellFault_31 : decode cX4_tellFault 31 = .ok (.goto 7, 3) := by decide +kernel
theorem dX4_tellFault_34 : decode cX4_tellFault 34 = .ok (.aload_n 0, 1) := by decide +kernel
theorem dX4_tellFault_35 : decode cX4_tellFault 35 = .ok (.getfield 35, 3) := by decide +kernel
theorem dX4_tellFault_38 : decode cX4_tellFault 38 = .ok (.ireturn, 1) := by decide +kernel
set_option maxRecDepth 20000 in
theorem ggX4_runOn_X4_readCommand : GoodIn wsX4_runOn wsX4_readCommand := goodIn_r _ [9, 10, 11, 12, 8, 13, 14, 15, 16, 17, 18, 19, 20, 21, 22, 23, 24, 25, 26, 27, 28, 29, 30, 31, 32, 33, 2, 34, 35, 36, 37, 38, 39, 40, 41, 42, 43, 44, 45, 46, 47, 48, 49, 50, 51, 52, 53, 54, 55, 56, 57, 58, 59, 60, 61, 62, 63, 64, 65, 66, 67, 68, 69, 70, 71, 72, 73, 74, 75, 76, 77, 78, 79, 4, 80, 81, 82, 83, 84, 85, 86, 87, 88, 89, 90, 242, 243, 244, 245, 246, 247, 248, 249] (by decide +kernel) (by decide +kernel)
set_option maxRecDepth 20000 in
theorem gX4_runOn_X4_readCommand : GoodIn wsX4_runOn (wsV RX4 40 RX4 yX4_readCommand wsX4_readCommand) := goodIn_app (goodIn_of _ (by decide +kernel)) ggX4_runOn_X4_readCommand
set_option maxRecDepth 20000 in
theorem ggX4_runOn_X4_putFault : GoodIn wsX4_runOn wsX4_putFault := goodIn_r _ [94, 1, 95, 96, 242, 243, 244, 245, 246, 247, 248, 249] (by decide +kernel) (by decide +kernel)
set_option maxRecDepth 20000 in
theorem gX4_runOn_X4_putFault : GoodIn wsX4_runOn (wsV RX4 44 RX4 yX4_putFault wsX4_putFault) := goodIn_app (goodIn_of _ (by decide +kernel)) ggX4_runOn_X4_putFault
set_option maxRecDepth 20000 in
theorem ggX4_runOn_X4_perform : GoodIn wsX4_runOn wsX4_perform := goodIn_r _ [100, 79, 10, 101, 102, 103, 104, 105, 106, 107, 108, 109, 110, 111, 112, 113, 114, 115, 116, 117, 118, 119, 120, 121, 122, 123, 124, 125, 126, 127, 128, 129, 130, 131, 132, 133, 134, 135, 136, 137, 138, 139, 140, 141, 142, 143, 144, 145, 146, 147, 148, 149, 150, 151, 152, 153, 154, 155, 156, 157, 158, 159, 160, 161, 162, 163, 164, 165, 166, 167, 168, 169, 170, 171, 172, 173, 174, 175, 176, 177, 178, 179, 180, 181, 182, 183, 184, 185, 186, 187, 188, 189, 190, 191, 192, 193, 194, 195, 196, 197, 198, 199, 200, 201, 202, 203, 204, 205, 206, 207, 208, 209, 210, 211, 212, 213, 214, 215, 216, 217, 218, 219, 220, 221, 222, 223, 224, 225, 226, 227, 228, 229, 230, 231, 232, 233, 234, 235, 236, 237, 238, 239, 240, 241, 242, 243, 244, 245, 246, 247, 248, 249, 250, 251, 252, 253, 254, 255, 256, 257, 258, 259, 260, 261, 262, 263, 264, 265, 266, 267, 268, 269, 270, 271, 272, 273, 274, 275, 276, 277, 278] (by decide +kernel) (by decide +kernel)
set_option maxRecDepth 20000 in
theorem gX4_runOn_X4_perform : GoodIn wsX4_runOn (wsV RX4 48 RX4 yX4_perform wsX4_perform) := goodIn_app (goodIn_of _ (by decide +kernel)) ggX4_runOn_X4_perform
theorem dX4_runOn_0 : decode cX4_runOn 0 = .ok (.aload_n 0, 1) := by decide +kernel
theorem dX4_runOn_1 : decode cX4_runOn 1 = .ok (.iconst (-1), 1) := by decide +kernel
theorem dX4_runOn_2 : decode cX4_runOn 2 = .ok (.putfield 29, 3) := by decide +kernel
theorem dX4_runOn_5 : decode cX4_runOn 5 = .ok (.iconst 0, 1) := by decide +kernel
theorem dX4_runOn_6 : decode cX4_runOn 6 = .ok (.istore_n 2, 1) := by decide +kernel
theorem dX4_runOn_7 : decode cX4_runOn 7 = .ok (.iconst 0, 1) := by decide +kernel
theorem dX4_runOn_8 : decode cX4_runOn 8 = .ok (.istore_n 3, 1) := by decide +kernel
theorem dX4_runOn_9 : decode cX4_runOn 9 = .ok (.iload_n 2, 1) := by decide +kernel
theorem dX4_runOn_10 : decode cX4_runOn 10 = .ok (.aload_n 0, 1) := by decide +kernel
theorem dX4_runOn_11 : decode cX4_runOn 11 = .ok (.getfield 15, 3) := by decide +kernel
theorem dX4_runOn_14 : decode cX4_runOn 14 = .ok (.if_icmp .ge 60, 3) := by decide +kernel
theorem dX4_runOn_17 : decode cX4_runOn 17 = .ok (.iload_n 3, 1) := by decide +kernel
theorem dX4_runOn_18 : decode cX4_runOn 18 = .ok (.bipush 60, 2) := by decide +kernel
theorem dX4_runOn_20 : decode cX4_runOn 20 = .ok (.if_icmp .ge 54, 3) := by decide +kernel
theorem dX4_runOn_23 : decode cX4_runOn 23 = .ok (.aload_n 0, 1) := by decide +kernel
theorem dX4_runOn_24 : decode cX4_runOn 24 = .ok (.iload_n 2, 1) := by decide +kernel
theorem dX4_runOn_25 : decode cX4_runOn 25 = .ok (.invokevirtual 40, 3) := by decide +kernel
theorem dX4_runOn_28 : decode cX4_runOn 28 = .ok (.ifCond .ne 13, 3) := by decide +kernel
theorem dX4_runOn_31 : decode cX4_runOn 31 = .ok (.aload_n 0, 1) := by decide +kernel
theorem dX4_runOn_32 : decode cX4_runOn 32 = .ok (.iload_n 2, 1) := by decide +kernel
theorem dX4_runOn_33 : decode cX4_runOn 33 = .ok (.iconst 1, 1) := by decide +kernel
theorem dX4_runOn_34 : decode cX4_runOn 34 = .ok (.ldc 39, 2) := by decide +kernel
theorem dX4_runOn_36 : decode cX4_runOn 36 = .ok (.invokevirtual 44, 3) := by decide +kernel
theorem dX4_runOn_39 : decode cX4_runOn 39 = .ok (.iload_n 3, 1) := by decide +kernel
theorem dX4_runOn_40 : decode cX4_runOn 40 = .ok (.ireturn, 1) := by decide +kernel
theorem dX4_runOn_41 : decode cX4_runOn 41 = .ok (.aload_n 0, 1) := by decide +kernel
theorem dX4_runOn_42 : decode cX4_runOn 42 = .ok (.aload_n 1, 1) := by decide +kernel
theorem dX4_runOn_43 : decode cX4_runOn 43 = .ok (.invokevirtual 48, 3) := by decide +kernel
theorem dX4_runOn_46 : decode cX4_runOn 46 = .ok (.istore 4, 2) := by decide +kernel
theorem dX4_runOn_48 : decode cX4_runOn 48 = .ok (.iload 4, 2) := by decide +kernel
theorem dX4_runOn_50 : decode cX4_runOn 50 = .ok (.ifCond .ge 13, 3) := by decide +kernel
theorem dX4_runOn_53 : decode cX4_runOn 53 = .ok (.aload_n 0, 1) := by decide +kernel
theorem dX4_runOn_54 : decode cX4_runOn 54 = .ok (.iload_n 2, 1) := by decide +kernel
theorem dX4_runOn_55 : decode cX4_runOn 55 = .ok (.iconst 2, 1) := by decide +kernel
theorem dX4_runOn_56 : decode cX4_runOn 56 = .ok (.iload 4, 2) := by decide +kernel
theorem dX4_runOn_58 : decode cX4_runOn 58 = .ok (.invokevirtual 44, 3) := by decide +kernel
theorem dX4_runOn_61 : decode cX4_runOn 61 = .ok (.iload_n 3, 1) := by decide +kernel
theorem dX4_runOn_62 : decode cX4_runOn 62 = .ok (.ireturn, 1) := by decide +kernel
theorem dX4_runOn_63 : decode cX4_runOn 63 = .ok (.aload_n 0, 1) := by decide +kernel
theorem dX4_runOn_64 : decode cX4_runOn 64 = .ok (.getfield 26, 3) := by decide +kernel
theorem dX4_runOn_67 : decode cX4_runOn 67 = .ok (.istore_n 2, 1) := by decide +kernel
theorem dX4_runOn_68 : decode cX4_runOn 68 = .ok (.iinc 3 1, 3) := by decide +kernel
theorem dX4_runOn_71 : decode cX4_runOn 71 = .ok (.goto (-62), 3) := by decide +kernel
theorem dX4_runOn_74 : decode cX4_runOn 74 = .ok (.iload_n 3, 1) := by decide +kernel
theorem dX4_runOn_75 : decode cX4_runOn 75 = .ok (.ireturn, 1) := by decide +kernel
theorem dX4_putFault_0 : decode cX4_putFault 0 = .ok (.aload_n 0, 1) := by decide +kernel
theorem dX4_putFault_1 : decode cX4_putFault 1 = .ok (.iload_n 1, 1) := by decide +kernel
theorem dX4_putFault_2 : decode cX4_putFault 2 = .ok (.putfield 29, 3) := by decide +kernel
theorem dX4_putFault_5 : decode cX4_putFault 5 = .ok (.aload_n 0, 1) := by decide +kernel
theorem dX4_putFault_6 : decode cX4_putFault 6 = .ok (.iload_n 2, 1) := by decide +kernel
theorem dX4_putFault_7 : decode cX4_putFault 7 = .ok (.putfield 32, 3) := by decide +kernel
theorem dX4_putFault_10 : decode cX4_putFault 10 = .ok (.aload_n 0, 1) := by decide +kernel
theorem dX4_putFault_11 : decode cX4_putFault 11 = .ok (.iload_n 3, 1) := by decide +kernel
theorem dX4_putFault_12 : decode cX4_putFault 12 = .ok (.putfield 35, 3) := by decide +kernel
theorem dX4_putFault_15 : decode cX4_putFault 15 = .ok (.return_, 1) := by decide +kernel
set_option maxRecDepth 20000 in
theorem ggX4_perform_X5_has : GoodIn wsX4_perform wsX5_has := goodIn_r _ [7, 8, 161, 162, 163, 164, 165, 166, 167, 168, 169, 170] (by decide +kernel) (by decide +kernel)
set_option maxRecDepth 20000 in
theorem gX4_perform_X5_has : GoodIn wsX4_perform (wsV RX4 58 RX5 yX5_has wsX5_has) := goodIn_app (goodIn_of _ (by decide +kernel)) ggX4_perform_X5_has
set_option maxRecDepth 20000 in
theorem ggX4_perform_X1_lendStones : GoodIn wsX4_perform wsX1_lendStones := goodIn_r _ [13, 14, 15, 16, 17, 18, 19, 20, 21, 22, 12, 23, 24, 25, 26, 27, 28, 29, 30, 31, 32, 33, 34, 35, 36, 6, 37, 38, 39, 40, 41, 42, 43, 44, 45, 46, 47, 48, 49, 50, 51, 52, 53, 54, 55, 56, 57, 58, 152, 153, 154, 155, 156, 157, 158, 159, 160, 161, 162, 163, 164, 165, 166, 167, 168, 169, 170, 171, 172, 173, 174, 175, 176, 177, 178, 179, 180] (by decide +kernel) (by decide +kernel)
set_option maxRecDepth 20000 in
theorem gX4_perform_X1_lendStones : GoodIn wsX4_perform (wsV RX4 63 RX1 yX1_lendStones wsX1_lendStones) := goodIn_app (goodIn_of _ (by decide +kernel)) ggX4_perform_X1_lendStones
set_option maxRecDepth 20000 in
theorem ggX4_perform_X1_giveBack : GoodIn wsX4_perform wsX1_giveBack := goodIn_r _ [62, 14, 15, 16, 63, 4, 5, 6, 7, 8, 64, 65, 66, 67, 68, 69, 70, 71, 72, 73, 74, 75, 76, 77, 78, 79, 152, 153, 154, 155, 156, 157, 158, 159, 160, 161, 162, 163, 164, 165, 166, 167, 168, 169, 170] (by decide +kernel) (by decide +kernel)
set_option maxRecDepth 20000 in
theorem gX4_perform_X1_giveBack : GoodIn wsX4_perform (wsV RX4 67 RX1 yX1_giveBack wsX1_giveBack) := goodIn_app (goodIn_of _ (by decide +kernel)) ggX4_perform_X1_giveBack
set_option maxRecDepth 20000 in
theorem ggX4_perform_X1_keepStone : GoodIn wsX4_perform wsX1_keepStone := goodIn_r _ [83, 14, 15, 16, 63, 4, 5, 6, 7, 8, 64, 65, 66, 67, 68, 84, 85, 86, 12, 87, 17, 88, 20, 21, 22, 23, 24, 89, 90, 91, 51, 92, 53, 152, 153, 154, 155, 156, 157, 158, 159, 160, 161, 162, 163, 164, 165, 166, 167, 168, 169, 170, 175, 176, 177, 178, 179, 180] (by decide +kernel) (by decide +kernel)
set_option maxRecDepth 20000 in
theorem gX4_perform_X1_keepStone : GoodIn wsX4_perform (wsV RX4 71 RX1 yX1_keepStone wsX1_keepStone) := goodIn_app (goodIn_of _ (by decide +kernel)) ggX4_perform_X1_keepStone
set_option maxRecDepth 20000 in
theorem ggX4_perform_X1_sellStone : GoodIn wsX4_perform wsX1_sellStone := goodIn_r _ [96, 14, 15, 16, 88, 97, 63, 4, 5, 6, 7, 8, 64, 65, 66, 67, 68, 98, 99, 100, 101, 102, 20, 21, 22, 12, 23, 24, 152, 153, 154, 155, 156, 157, 158, 159, 160, 161, 162, 163, 164, 165, 166, 167, 168, 169, 170] (by decide +kernel) (by decide +kernel)
set_option maxRecDepth 20000 in
theorem gX4_perform_X1_sellStone : GoodIn wsX4_perform (wsV RX4 74 RX1 yX1_sellStone wsX1_sellStone) := goodIn_app (goodIn_of _ (by decide +kernel)) ggX4_perform_X1_sellStone
set_option maxRecDepth 20000 in
theorem ggX4_perform_X1_regrade : GoodIn wsX4_perform wsX1_regrade := goodIn_r _ [106, 14, 15, 16, 63, 4, 5, 6, 7, 8, 107, 108, 109, 98, 99, 100, 101, 102, 29, 30, 31, 12, 32, 33, 34, 35, 36, 37, 38, 39, 40, 41, 42, 43, 44, 45, 46, 47, 64, 65, 66, 67, 68, 152, 153, 154, 155, 156, 157, 158, 159, 160, 161, 162, 163, 164, 165, 166, 167, 168, 169, 170, 171, 172, 173, 174] (by decide +kernel) (by decide +kernel)
set_option maxRecDepth 20000 in
theorem gX4_perform_X1_regrade : GoodIn wsX4_perform (wsV RX4 78 RX1 yX1_regrade wsX1_regrade) := goodIn_app (goodIn_of _ (by decide +kernel)) ggX4_perform_X1_regrade
set_option maxRecDepth 20000 in
theorem ggX4_perform_X1_putRate : GoodIn wsX4_perform wsX1_putRate := goodIn_r _ [113, 15, 33, 19, 114, 108, 115, 116, 107, 109, 117, 118, 119, 42, 120, 44, 121, 122, 123, 124, 45, 46, 47, 125, 126, 127, 128, 129, 130, 131, 132, 152, 153, 154, 155, 156, 157, 158, 159, 160, 171, 172, 173, 174] (by decide +kernel) (by decide +kernel)
set_option maxRecDepth 20000 in
theorem gX4_perform_X1_putRate : GoodIn wsX4_perform (wsV RX4 82 RX1 yX1_putRate wsX1_putRate) := goodIn_app (goodIn_of _ (by decide +kernel)) ggX4_perform_X1_putRate
set_option maxRecDepth 20000 in
theorem ggX4_perform_X1_passDays : GoodIn wsX4_perform wsX1_passDays := goodIn_r _ [136, 15, 18, 19, 137, 138, 139, 140, 12, 141, 17, 142, 14, 143, 84, 85, 86, 87, 88, 20, 21, 22, 23, 24, 89, 90, 91, 51, 92, 53, 152, 153, 154, 155, 156, 157, 158, 159, 160, 175, 176, 177, 178, 179, 180, 161, 162, 163, 164, 165, 166, 167, 168, 169, 170] (by decide +kernel) (by decide +kernel)
set_option maxRecDepth 20000 in
theorem gX4_perform_X1_passDays : GoodIn wsX4_perform (wsV RX4 85 RX1 yX1_passDays wsX1_passDays) := goodIn_app (goodIn_of _ (by decide +kernel)) ggX4_perform_X1_passDays
theorem dX4_perform_0 : decode cX4_perform 0 = .ok (.aload_n 0, 1) := by decide +kernel
theorem dX4_perform_1 : decode cX4_perform 1 = .ok (.getfield 22, 3) := by decide +kernel
theorem dX4_perform_4 : decode cX4_perform 4 = .ok (.iconst 0, 1) := by decide +kernel
theorem dX4_perform_5 : decode cX4_perform 5 = .ok (.iaload, 1) := by decide +kernel
theorem dX4_perform_6 : decode cX4_perform 6 = .ok (.istore_n 2, 1) := by decide +kernel
theorem dX4_perform_7 : decode cX4_perform 7 = .ok (.aload_n 0, 1) := by decide +kernel
theorem dX4_perform_8 : decode cX4_perform 8 = .ok (.getfield 22, 3) := by decide +kernel
theorem dX4_perform_11 : decode cX4_perform 11 = .ok (.iconst 1, 1) := by decide +kernel
theorem dX4_perform_12 : decode cX4_perform 12 = .ok (.iaload, 1) := by decide +kernel
theorem dX4_perform_13 : decode cX4_perform 13 = .ok (.istore_n 3, 1) := by decide +kernel
theorem dX4_perform_14 : decode cX4_perform 14 = .ok (.aload_n 0, 1) := by decide +kernel
theorem dX4_perform_15 : decode cX4_perform 15 = .ok (.getfield 22, 3) := by decide +kernel
theorem dX4_perform_18 : decode cX4_perform 18 = .ok (.iconst 2, 1) := by decide +kernel
theorem dX4_perform_19 : decode cX4_perform 19 = .ok (.iaload, 1) := by decide +kernel
theorem dX4_perform_20 : decode cX4_perform 20 = .ok (.istore 4, 2) := by decide +kernel
theorem dX4_perform_22 : decode cX4_perform 22 = .ok (.aload_n 0, 1) := by decide +kernel
theorem dX4_perform_23 : decode cX4_perform 23 = .ok (.getfield 22, 3) := by decide +kernel
theorem dX4_perform_26 : decode cX4_perform 26 = .ok (.iconst 3, 1) := by decide +kernel
theorem dX4_perform_27 : decode cX4_perform 27 = .ok (.iaload, 1) := by decide +kernel
theorem dX4_perform_28 : decode cX4_perform 28 = .ok (.istore 5, 2) := by decide +kernel
theorem dX4_perform_30 : decode cX4_perform 30 = .ok (.aload_n 0, 1) := by decide +kernel
theorem dX4_perform_31 : decode cX4_perform 31 = .ok (.getfield 19, 3) := by decide +kernel
theorem dX4_perform_34 : decode cX4_perform 34 = .ok (.tableswitch 114 0 6 #[42, 75, 81, 87, 94, 103, 114], 42) := by decide +kernel
theorem dX4_perform_76 : decode cX4_perform 76 = .ok (.aload_n 1, 1) := by decide +kernel
theorem dX4_perform_77 : decode cX4_perform 77 = .ok (.getfield 52, 3) := by decide +kernel
theorem dX4_perform_80 : decode cX4_perform 80 = .ok (.iload 5, 2) := by decide +kernel
theorem dX4_perform_82 : decode cX4_perform 82 = .ok (.invokevirtual 58, 3) := by decide +kernel
theorem dX4_perform_85 : decode cX4_perform 85 = .ok (.ifCond .eq 10, 3) := by decide +kernel
theorem dX4_perform_88 : decode cX4_perform 88 = .ok (.iconst 1, 1) := by decide +kernel
theorem dX4_perform_89 : decode cX4_perform 89 = .ok (.iload 5, 2) := by decide +kernel
theorem dX4_perform_91 : decode cX4_perform 91 = .ok (.ishl, 1) := by decide +kernel
theorem dX4_perform_92 : decode cX4_perform 92 = .ok (.goto 4, 3) := by decide +kernel
theorem dX4_perform_95 : decode cX4_perform 95 = .ok (.iconst 0, 1) := by decide +kernel
theorem dX4_perform_96 : decode cX4_perform 96 = .ok (.istore 6, 2) := by decide +kernel
theorem dX4_perform_98 : decode cX4_perform 98 = .ok (.aload_n 1, 1) := by decide +kernel
