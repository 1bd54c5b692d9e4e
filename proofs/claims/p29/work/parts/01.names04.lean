theorem dX4_perform_99 : decode cX4_perform 99 = .ok (.iload_n 2, 1) := by decide +kernel
theorem dX4_perform_100 : decode cX4_perform 100 = .ok (.iload_n 3, 1) := by decide +kernel
theorem dX4_perform_101 : decode cX4_perform 101 = .ok (.iload 4, 2) := by decide +kernel
theorem dX4_perform_103 : decode cX4_perform 103 = .ok (.iload 6, 2) := by decide +kernel
theorem dX4_perform_105 : decode cX4_perform 105 = .ok (.invokevirtual 63, 3) := by decide +kernel
theorem dX4_perform_108 : decode cX4_perform 108 = .ok (.ireturn, 1) := by decide +kernel
theorem dX4_perform_109 : decode cX4_perform 109 = .ok (.aload_n 1, 1) := by decide +kernel
theorem dX4_perform_110 : decode cX4_perform 110 = .ok (.iload_n 2, 1) := by decide +kernel
theorem dX4_perform_111 : decode cX4_perform 111 = .ok (.invokevirtual 67, 3) := by decide +kernel
theorem dX4_perform_114 : decode cX4_perform 114 = .ok (.ireturn, 1) := by decide +kernel
theorem dX4_perform_115 : decode cX4_perform 115 = .ok (.aload_n 1, 1) := by decide +kernel
theorem dX4_perform_116 : decode cX4_perform 116 = .ok (.iload_n 2, 1) := by decide +kernel
theorem dX4_perform_117 : decode cX4_perform 117 = .ok (.invokevirtual 71, 3) := by decide +kernel
theorem dX4_perform_120 : decode cX4_perform 120 = .ok (.ireturn, 1) := by decide +kernel
theorem dX4_perform_121 : decode cX4_perform 121 = .ok (.aload_n 1, 1) := by decide +kernel
theorem dX4_perform_122 : decode cX4_perform 122 = .ok (.iload_n 2, 1) := by decide +kernel
theorem dX4_perform_123 : decode cX4_perform 123 = .ok (.iload_n 3, 1) := by decide +kernel
theorem dX4_perform_124 : decode cX4_perform 124 = .ok (.invokevirtual 74, 3) := by decide +kernel
theorem dX4_perform_127 : decode cX4_perform 127 = .ok (.ireturn, 1) := by decide +kernel
theorem dX4_perform_128 : decode cX4_perform 128 = .ok (.aload_n 1, 1) := by decide +kernel
theorem dX4_perform_129 : decode cX4_perform 129 = .ok (.iload_n 2, 1) := by decide +kernel
theorem dX4_perform_130 : decode cX4_perform 130 = .ok (.iload_n 3, 1) := by decide +kernel
theorem dX4_perform_131 : decode cX4_perform 131 = .ok (.iload 4, 2) := by decide +kernel
theorem dX4_perform_133 : decode cX4_perform 133 = .ok (.invokevirtual 78, 3) := by decide +kernel
theorem dX4_perform_136 : decode cX4_perform 136 = .ok (.ireturn, 1) := by decide +kernel
theorem dX4_perform_137 : decode cX4_perform 137 = .ok (.aload_n 1, 1) := by decide +kernel
theorem dX4_perform_138 : decode cX4_perform 138 = .ok (.iload_n 2, 1) := by decide +kernel
theorem dX4_perform_139 : decode cX4_perform 139 = .ok (.iload_n 3, 1) := by decide +kernel
theorem dX4_perform_140 : decode cX4_perform 140 = .ok (.iload 4, 2) := by decide +kernel
theorem dX4_perform_142 : decode cX4_perform 142 = .ok (.iload 5, 2) := by decide +kernel
theorem dX4_perform_144 : decode cX4_perform 144 = .ok (.invokevirtual 82, 3) := by decide +kernel
theorem dX4_perform_147 : decode cX4_perform 147 = .ok (.ireturn, 1) := by decide +kernel
theorem dX4_perform_148 : decode cX4_perform 148 = .ok (.aload_n 1, 1) := by decide +kernel
theorem dX4_perform_149 : decode cX4_perform 149 = .ok (.iload_n 2, 1) := by decide +kernel
theorem dX4_perform_150 : decode cX4_perform 150 = .ok (.invokevirtual 85, 3) := by decide +kernel
theorem dX4_perform_153 : decode cX4_perform 153 = .ok (.ireturn, 1) := by decide +kernel
set_option maxRecDepth 20000 in
theorem ggX4_readCommand_X4_wordOf : GoodIn wsX4_readCommand wsX4_wordOf := goodIn_r _ [5] (by decide +kernel) (by decide +kernel)
set_option maxRecDepth 20000 in
theorem gX4_readCommand_X4_wordOf : GoodIn wsX4_readCommand (va_wsS RX4 88 yX4_wordOf wsX4_wordOf) := goodIn_app (goodIn_of _ (by decide +kernel)) ggX4_readCommand_X4_wordOf
set_option maxRecDepth 20000 in
theorem ggX4_readCommand_X4_isWordAt : GoodIn wsX4_readCommand wsX4_isWordAt := goodIn_r _ [9, 10, 11, 12, 13, 14, 15, 16, 17, 18, 19, 20, 21, 22, 23, 24, 4, 25, 26, 27, 28, 29, 30, 31, 32, 33, 34, 35, 36, 37, 38, 39, 40, 41, 42, 43, 44, 45, 46, 47, 48, 49, 50, 51, 52, 53, 54, 55, 56, 57, 58, 59, 60, 61, 62, 63, 64, 85, 86, 87, 88, 89, 90, 91, 92] (by decide +kernel) (by decide +kernel)
set_option maxRecDepth 20000 in
theorem gX4_readCommand_X4_isWordAt : GoodIn wsX4_readCommand (wsV RX4 92 RX4 yX4_isWordAt wsX4_isWordAt) := goodIn_app (goodIn_of _ (by decide +kernel)) ggX4_readCommand_X4_isWordAt
set_option maxRecDepth 20000 in
theorem ggX4_readCommand_J0_length_8abf5 : GoodIn wsX4_readCommand wsJ0_length_8abf5 := goodIn_r _ [14, 15, 16, 17, 18, 13, 19, 20, 21] (by decide +kernel) (by decide +kernel)
set_option maxRecDepth 20000 in
theorem gX4_readCommand_J0_length_8abf5 : GoodIn wsX4_readCommand (wsV RX4 96 RJ0 yJ0_length_8abf5 wsJ0_length_8abf5) := goodIn_app (goodIn_of _ (by decide +kernel)) ggX4_readCommand_J0_length_8abf5
set_option maxRecDepth 20000 in
theorem ggX4_readCommand_X4_howManyNumbers : GoodIn wsX4_readCommand wsX4_howManyNumbers := goodIn_r _ [67] (by decide +kernel) (by decide +kernel)
set_option maxRecDepth 20000 in
theorem gX4_readCommand_X4_howManyNumbers : GoodIn wsX4_readCommand (va_wsS RX4 101 yX4_howManyNumbers wsX4_howManyNumbers) := goodIn_app (goodIn_of _ (by decide +kernel)) ggX4_readCommand_X4_howManyNumbers
set_option maxRecDepth 20000 in
theorem ggX4_readCommand_X4_readNumbers : GoodIn wsX4_readCommand wsX4_readNumbers := goodIn_r _ [71, 72, 73, 74, 75, 76, 4, 77, 22, 23, 24, 25, 26, 27, 78, 79, 80, 81, 82, 83, 84, 85, 86, 87, 88, 89, 90, 91, 92] (by decide +kernel) (by decide +kernel)
set_option maxRecDepth 20000 in
theorem gX4_readCommand_X4_readNumbers : GoodIn wsX4_readCommand (wsV RX4 104 RX4 yX4_readNumbers wsX4_readNumbers) := goodIn_app (goodIn_of _ (by decide +kernel)) ggX4_readCommand_X4_readNumbers
theorem dX4_readCommand_0 : decode cX4_readCommand 0 = .ok (.iconst 0, 1) := by decide +kernel
theorem dX4_readCommand_1 : decode cX4_readCommand 1 = .ok (.istore_n 2, 1) := by decide +kernel
theorem dX4_readCommand_2 : decode cX4_readCommand 2 = .ok (.iload_n 2, 1) := by decide +kernel
theorem dX4_readCommand_3 : decode cX4_readCommand 3 = .ok (.bipush 7, 2) := by decide +kernel
theorem dX4_readCommand_5 : decode cX4_readCommand 5 = .ok (.if_icmp .ge 43, 3) := by decide +kernel
theorem dX4_readCommand_8 : decode cX4_readCommand 8 = .ok (.iload_n 2, 1) := by decide +kernel
theorem dX4_readCommand_9 : decode cX4_readCommand 9 = .ok (.invokestatic 88, 3) := by decide +kernel
theorem dX4_readCommand_12 : decode cX4_readCommand 12 = .ok (.astore_n 3, 1) := by decide +kernel
theorem dX4_readCommand_13 : decode cX4_readCommand 13 = .ok (.aload_n 0, 1) := by decide +kernel
theorem dX4_readCommand_14 : decode cX4_readCommand 14 = .ok (.iload_n 1, 1) := by decide +kernel
theorem dX4_readCommand_15 : decode cX4_readCommand 15 = .ok (.aload_n 3, 1) := by decide +kernel
theorem dX4_readCommand_16 : decode cX4_readCommand 16 = .ok (.invokevirtual 92, 3) := by decide +kernel
theorem dX4_readCommand_19 : decode cX4_readCommand 19 = .ok (.ifCond .eq 23, 3) := by decide +kernel
theorem dX4_readCommand_22 : decode cX4_readCommand 22 = .ok (.aload_n 0, 1) := by decide +kernel
theorem dX4_readCommand_23 : decode cX4_readCommand 23 = .ok (.iload_n 2, 1) := by decide +kernel
theorem dX4_readCommand_24 : decode cX4_readCommand 24 = .ok (.putfield 19, 3) := by decide +kernel
theorem dX4_readCommand_27 : decode cX4_readCommand 27 = .ok (.aload_n 0, 1) := by decide +kernel
theorem dX4_readCommand_28 : decode cX4_readCommand 28 = .ok (.iload_n 1, 1) := by decide +kernel
theorem dX4_readCommand_29 : decode cX4_readCommand 29 = .ok (.aload_n 3, 1) := by decide +kernel
theorem dX4_readCommand_30 : decode cX4_readCommand 30 = .ok (.invokevirtual 96, 3) := by decide +kernel
theorem dX4_readCommand_33 : decode cX4_readCommand 33 = .ok (.iadd, 1) := by decide +kernel
theorem dX4_readCommand_34 : decode cX4_readCommand 34 = .ok (.iload_n 2, 1) := by decide +kernel
theorem dX4_readCommand_35 : decode cX4_readCommand 35 = .ok (.invokestatic 101, 3) := by decide +kernel
theorem dX4_readCommand_38 : decode cX4_readCommand 38 = .ok (.invokevirtual 104, 3) := by decide +kernel
theorem dX4_readCommand_41 : decode cX4_readCommand 41 = .ok (.ireturn, 1) := by decide +kernel
theorem dX4_readCommand_42 : decode cX4_readCommand 42 = .ok (.iinc 2 1, 3) := by decide +kernel
theorem dX4_readCommand_45 : decode cX4_readCommand 45 = .ok (.goto (-43), 3) := by decide +kernel
theorem dX4_readCommand_48 : decode cX4_readCommand 48 = .ok (.iconst 0, 1) := by decide +kernel
theorem dX4_readCommand_49 : decode cX4_readCommand 49 = .ok (.ireturn, 1) := by decide +kernel
theorem dX4_wordOf_0 : decode cX4_wordOf 0 = .ok (.iload_n 0, 1) := by decide +kernel
theorem dX4_wordOf_1 : decode cX4_wordOf 1 = .ok (.tableswitch 61 0 6 #[43, 46, 49, 52, 55, 58, 61], 43) := by decide +kernel
theorem dX4_wordOf_44 : decode cX4_wordOf 44 = .ok (.ldc 108, 2) := by decide +kernel
theorem dX4_wordOf_46 : decode cX4_wordOf 46 = .ok (.areturn, 1) := by decide +kernel
theorem dX4_wordOf_47 : decode cX4_wordOf 47 = .ok (.ldc 110, 2) := by decide +kernel
theorem dX4_wordOf_49 : decode cX4_wordOf 49 = .ok (.areturn, 1) := by decide +kernel
theorem dX4_wordOf_50 : decode cX4_wordOf 50 = .ok (.ldc 112, 2) := by decide +kernel
theorem dX4_wordOf_52 : decode cX4_wordOf 52 = .ok (.areturn, 1) := by decide +kernel
theorem dX4_wordOf_53 : decode cX4_wordOf 53 = .ok (.ldc 114, 2) := by decide +kernel
theorem dX4_wordOf_55 : decode cX4_wordOf 55 = .ok (.areturn, 1) := by decide +kernel
theorem dX4_wordOf_56 : decode cX4_wordOf 56 = .ok (.ldc 116, 2) := by decide +kernel
theorem dX4_wordOf_58 : decode cX4_wordOf 58 = .ok (.areturn, 1) := by decide +kernel
theorem dX4_wordOf_59 : decode cX4_wordOf 59 = .ok (.ldc 118, 2) := by decide +kernel
theorem dX4_wordOf_61 : decode cX4_wordOf 61 = .ok (.areturn, 1) := by decide +kernel
theorem dX4_wordOf_62 : decode cX4_wordOf 62 = .ok (.ldc 120, 2) := by decide +kernel
theorem dX4_wordOf_64 : decode cX4_wordOf 64 = .ok (.areturn, 1) := by decide +kernel
theorem dX4_howManyNumbers_0 : decode cX4_howManyNumbers 0 = .ok (.iload_n 0, 1) := by decide +kernel
theorem dX4_howManyNumbers_1 : decode cX4_howManyNumbers 1 = .ok (.tableswitch 49 0 6 #[43, 49, 49, 47, 45, 43, 49], 43) := by decide +kernel
theorem dX4_howManyNumbers_44 : decode cX4_howManyNumbers 44 = .ok (.iconst 4, 1) := by decide +kernel
theorem dX4_howManyNumbers_45 : decode cX4_howManyNumbers 45 = .ok (.ireturn, 1) := by decide +kernel
theorem dX4_howManyNumbers_46 : decode cX4_howManyNumbers 46 = .ok (.iconst 3, 1) := by decide +kernel
theorem dX4_howManyNumbers_47 : decode cX4_howManyNumbers 47 = .ok (.ireturn, 1) := by decide +kernel
theorem dX4_howManyNumbers_48 : decode cX4_howManyNumbers 48 = .ok (.iconst 2, 1) := by decide +kernel
theorem dX4_howManyNumbers_49 : decode cX4_howManyNumbers 49 = .ok (.ireturn, 1) := by decide +kernel
theorem dX4_howManyNumbers_50 : decode cX4_howManyNumbers 50 = .ok (.iconst 1, 1) := by decide +kernel
theorem dX4_howManyNumbers_51 : decode cX4_howManyNumbers 51 = .ok (.ireturn, 1) := by decide +kernel
set_option maxRecDepth 20000 in
theorem ggX4_isWordAt_J0_length_8abf5 : GoodIn wsX4_isWordAt wsJ0_length_8abf5 := goodIn_r _ [5, 6, 7, 8, 9, 4, 10, 11, 12] (by decide +kernel) (by decide +kernel)
set_option maxRecDepth 20000 in
theorem gX4_isWordAt_J0_length_8abf5 : GoodIn wsX4_isWordAt (wsV RX4 96 RJ0 yJ0_length_8abf5 wsJ0_length_8abf5) := goodIn_app (goodIn_of _ (by decide +kernel)) ggX4_isWordAt_J0_length_8abf5
set_option maxRecDepth 20000 in
theorem ggX4_isWordAt_X4_signAt : GoodIn wsX4_isWordAt wsX4_signAt := goodIn_r _ [17, 18, 19, 57, 58, 59, 60, 61, 62, 63, 64] (by decide +kernel) (by decide +kernel)
set_option maxRecDepth 20000 in
theorem gX4_isWordAt_X4_signAt : GoodIn wsX4_isWordAt (wsV RX4 122 RX4 yX4_signAt wsX4_signAt) := goodIn_app (goodIn_of _ (by decide +kernel)) ggX4_isWordAt_X4_signAt
set_option maxRecDepth 20000 in
theorem ggX4_isWordAt_J0_charAt_5068e : GoodIn wsX4_isWordAt wsJ0_charAt_5068e := goodIn_r _ [23, 6, 24, 25, 26, 4, 27, 11, 12, 28, 29, 30, 31, 32, 33, 34, 35, 36, 37, 38, 39, 40, 41, 42, 43, 44, 45, 46, 47, 48, 49, 50, 51, 52, 53, 54, 55, 56] (by decide +kernel) (by decide +kernel)
set_option maxRecDepth 20000 in
theorem gX4_isWordAt_J0_charAt_5068e : GoodIn wsX4_isWordAt (wsV RX4 126 RJ0 yJ0_charAt_5068e wsJ0_charAt_5068e) := goodIn_app (goodIn_of _ (by decide +kernel)) ggX4_isWordAt_J0_charAt_5068e
theorem dX4_isWordAt_0 : decode cX4_isWordAt 0 = .ok (.iconst 0, 1) := by decide +kernel
theorem dX4_isWordAt_1 : decode cX4_isWordAt 1 = .ok (.istore_n 3, 1) := by decide +kernel
theorem dX4_isWordAt_2 : decode cX4_isWordAt 2 = .ok (.iload_n 3, 1) := by decide +kernel
theorem dX4_isWordAt_3 : decode cX4_isWordAt 3 = .ok (.aload_n 2, 1) := by decide +kernel
theorem dX4_isWordAt_4 : decode cX4_isWordAt 4 = .ok (.invokevirtual 96, 3) := by decide +kernel
theorem dX4_isWordAt_7 : decode cX4_isWordAt 7 = .ok (.if_icmp .ge 26, 3) := by decide +kernel
theorem dX4_isWordAt_10 : decode cX4_isWordAt 10 = .ok (.aload_n 0, 1) := by decide +kernel
theorem dX4_isWordAt_11 : decode cX4_isWordAt 11 = .ok (.iload_n 1, 1) := by decide +kernel
theorem dX4_isWordAt_12 : decode cX4_isWordAt 12 = .ok (.iload_n 3, 1) := by decide +kernel
theorem dX4_isWordAt_13 : decode cX4_isWordAt 13 = .ok (.iadd, 1) := by decide +kernel
theorem dX4_isWordAt_14 : decode cX4_isWordAt 14 = .ok (.invokevirtual 122, 3) := by decide +kernel
theorem dX4_isWordAt_17 : decode cX4_isWordAt 17 = .ok (.aload_n 2, 1) := by decide +kernel
theorem dX4_isWordAt_18 : decode cX4_isWordAt 18 = .ok (.iload_n 3, 1) := by decide +kernel
theorem dX4_isWordAt_19 : decode cX4_isWordAt 19 = .ok (.invokevirtual 126, 3) := by decide +kernel
theorem dX4_isWordAt_22 : decode cX4_isWordAt 22 = .ok (.if_icmp .eq 5, 3) := by decide +kernel
theorem dX4_isWordAt_25 : decode cX4_isWordAt 25 = .ok (.iconst 0, 1) := by decide +kernel
theorem dX4_isWordAt_26 : decode cX4_isWordAt 26 = .ok (.ireturn, 1) := by decide +kernel
theorem dX4_isWordAt_27 : decode cX4_isWordAt 27 = .ok (.iinc 3 1, 3) := by decide +kernel
theorem dX4_isWordAt_30 : decode cX4_isWordAt 30 = .ok (.goto (-28), 3) := by decide +kernel
theorem dX4_isWordAt_33 : decode cX4_isWordAt 33 = .ok (.iconst 1, 1) := by decide +kernel
theorem dX4_isWordAt_34 : decode cX4_isWordAt 34 = .ok (.ireturn, 1) := by decide +kernel
set_option maxRecDepth 20000 in
theorem ggX4_readNumbers_X4_digitsAt : GoodIn wsX4_readNumbers wsX4_digitsAt := goodIn_r _ [7, 8, 9, 10, 6, 11, 12, 13, 14, 15, 16, 21, 22, 23, 24, 25, 26, 27, 28] (by decide +kernel) (by decide +kernel)
set_option maxRecDepth 20000 in
theorem gX4_readNumbers_X4_digitsAt : GoodIn wsX4_readNumbers (wsV RX4 129 RX4 yX4_digitsAt wsX4_digitsAt) := goodIn_app (goodIn_of _ (by decide +kernel)) ggX4_readNumbers_X4_digitsAt
set_option maxRecDepth 20000 in
theorem ggX4_readNumbers_X4_signAt : GoodIn wsX4_readNumbers wsX4_signAt := goodIn_r _ [11, 12, 13, 21, 22, 23, 24, 25, 26, 27, 28] (by decide +kernel) (by decide +kernel)
set_option maxRecDepth 20000 in
theorem gX4_readNumbers_X4_signAt : GoodIn wsX4_readNumbers (wsV RX4 122 RX4 yX4_signAt wsX4_signAt) := goodIn_app (goodIn_of _ (by decide +kernel)) ggX4_readNumbers_X4_signAt
set_option maxRecDepth 20000 in
theorem ggX4_readNumbers_X4_valueAt : GoodIn wsX4_readNumbers wsX4_valueAt := goodIn_r _ [20, 8, 9, 10, 6, 11, 12, 13, 21, 22, 23, 24, 25, 26, 27, 28] (by decide +kernel) (by decide +kernel)
set_option maxRecDepth 20000 in
theorem gX4_readNumbers_X4_valueAt : GoodIn wsX4_readNumbers (wsV RX4 132 RX4 yX4_valueAt wsX4_valueAt) := goodIn_app (goodIn_of _ (by decide +kernel)) ggX4_readNumbers_X4_valueAt
theorem dX4_readNumbers_0 : decode cX4_readNumbers 0 = .ok (.iload_n 1, 1) := by decide +kernel
theorem dX4_readNumbers_1 : decode cX4_readNumbers 1 = .ok (.istore_n 3, 1) := by decide +kernel
theorem dX4_readNumbers_2 : decode cX4_readNumbers 2 = .ok (.iconst 0, 1) := by decide +kernel
theorem dX4_readNumbers_3 : decode cX4_readNumbers 3 = .ok (.istore 4, 2) := by decide +kernel
theorem dX4_readNumbers_5 : decode cX4_readNumbers 5 = .ok (.iload 4, 2) := by decide +kernel
theorem dX4_readNumbers_7 : decode cX4_readNumbers 7 = .ok (.iload_n 2, 1) := by decide +kernel
theorem dX4_readNumbers_8 : decode cX4_readNumbers 8 = .ok (.if_icmp .ge 68, 3) := by decide +kernel
theorem dX4_readNumbers_11 : decode cX4_readNumbers 11 = .ok (.iload 4, 2) := by decide +kernel
theorem dX4_readNumbers_13 : decode cX4_readNumbers 13 = .ok (.aload_n 0, 1) := by decide +kernel
theorem dX4_readNumbers_14 : decode cX4_readNumbers 14 = .ok (.getfield 22, 3) := by decide +kernel
theorem dX4_readNumbers_17 : decode cX4_readNumbers 17 = .ok (.arraylength, 1) := by decide +kernel
theorem dX4_readNumbers_18 : decode cX4_readNumbers 18 = .ok (.if_icmp .ge 58, 3) := by decide +kernel
theorem dX4_readNumbers_21 : decode cX4_readNumbers 21 = .ok (.aload_n 0, 1) := by decide +kernel
theorem dX4_readNumbers_22 : decode cX4_readNumbers 22 = .ok (.iload_n 3, 1) := by decide +kernel
theorem dX4_readNumbers_23 : decode cX4_readNumbers 23 = .ok (.iconst 1, 1) := by decide +kernel
theorem dX4_readNumbers_24 : decode cX4_readNumbers 24 = .ok (.iadd, 1) := by decide +kernel
theorem dX4_readNumbers_25 : decode cX4_readNumbers 25 = .ok (.invokevirtual 129, 3) := by decide +kernel
theorem dX4_readNumbers_28 : decode cX4_readNumbers 28 = .ok (.istore 5, 2) := by decide +kernel
theorem dX4_readNumbers_30 : decode cX4_readNumbers 30 = .ok (.aload_n 0, 1) := by decide +kernel
theorem dX4_readNumbers_31 : decode cX4_readNumbers 31 = .ok (.iload_n 3, 1) := by decide +kernel
theorem dX4_readNumbers_32 : decode cX4_readNumbers 32 = .ok (.invokevirtual 122, 3) := by decide +kernel
theorem dX4_readNumbers_35 : decode cX4_readNumbers 35 = .ok (.bipush 32, 2) := by decide +kernel
theorem dX4_readNumbers_37 : decode cX4_readNumbers 37 = .ok (.if_icmp .ne 8, 3) := by decide +kernel
theorem dX4_readNumbers_40 : decode cX4_readNumbers 40 = .ok (.iload 5, 2) := by decide +kernel
theorem dX4_readNumbers_42 : decode cX4_readNumbers 42 = .ok (.ifCond .ne 5, 3) := by decide +kernel
theorem dX4_readNumbers_45 : decode cX4_readNumbers 45 = .ok (.iconst 0, 1) := by decide +kernel
theorem dX4_readNumbers_46 : decode cX4_readNumbers 46 = .ok (.ireturn, 1) := by decide +kernel
theorem dX4_readNumbers_47 : decode cX4_readNumbers 47 = .ok (.aload_n 0, 1) := by decide +kernel
theorem dX4_readNumbers_48 : decode cX4_readNumbers 48 = .ok (.getfield 22, 3) := by decide +kernel
theorem dX4_readNumbers_51 : decode cX4_readNumbers 51 = .ok (.iload 4, 2) := by decide +kernel
theorem dX4_readNumbers_53 : decode cX4_readNumbers 53 = .ok (.aload_n 0, 1) := by decide +kernel
theorem dX4_readNumbers_54 : decode cX4_readNumbers 54 = .ok (.iload_n 3, 1) := by decide +kernel
theorem dX4_readNumbers_55 : decode cX4_readNumbers 55 = .ok (.iconst 1, 1) := by decide +kernel
theorem dX4_readNumbers_56 : decode cX4_readNumbers 56 = .ok (.iadd, 1) := by decide +kernel
theorem dX4_readNumbers_57 : decode cX4_readNumbers 57 = .ok (.iload 5, 2) := by decide +kernel
theorem dX4_readNumbers_59 : decode cX4_readNumbers 59 = .ok (.invokevirtual 132, 3) := by decide +kernel
theorem dX4_readNumbers_62 : decode cX4_readNumbers 62 = .ok (.iastore, 1) := by decide +kernel
theorem dX4_readNumbers_63 : decode cX4_readNumbers 63 = .ok (.iload_n 3, 1) := by decide +kernel
theorem dX4_readNumbers_64 : decode cX4_readNumbers 64 = .ok (.iconst 1, 1) := by decide +kernel
theorem dX4_readNumbers_65 : decode cX4_readNumbers 65 = .ok (.iload 5, 2) := by decide +kernel
theorem dX4_readNumbers_67 : decode cX4_readNumbers 67 = .ok (.iadd, 1) := by decide +kernel
theorem dX4_readNumbers_68 : decode cX4_readNumbers 68 = .ok (.iadd, 1) := by decide +kernel
theorem dX4_readNumbers_69 : decode cX4_readNumbers 69 = .ok (.istore_n 3, 1) := by decide +kernel
theorem dX4_readNumbers_70 : decode cX4_readNumbers 70 = .ok (.iinc 4 1, 3) := by decide +kernel
theorem dX4_readNumbers_73 : decode cX4_readNumbers 73 = .ok (.goto (-68), 3) := by decide +kernel
theorem dX4_readNumbers_76 : decode cX4_readNumbers 76 = .ok (.aload_n 0, 1) := by decide +kernel
theorem dX4_readNumbers_77 : decode cX4_readNumbers 77 = .ok (.iload_n 3, 1) := by decide +kernel
theorem dX4_readNumbers_78 : decode cX4_readNumbers 78 = .ok (.iconst 1, 1) := by decide +kernel
theorem dX4_readNumbers_79 : decode cX4_readNumbers 79 = .ok (.iadd, 1) := by decide +kernel
theorem dX4_readNumbers_80 : decode cX4_readNumbers 80 = .ok (.putfield 26, 3) := by decide +kernel
theorem dX4_readNumbers_83 : decode cX4_readNumbers 83 = .ok (.aload_n 0, 1) := by decide +kernel
theorem dX4_readNumbers_84 : decode cX4_readNumbers 84 = .ok (.iload_n 3, 1) := by decide +kernel
theorem dX4_readNumbers_85 : decode cX4_readNumbers 85 = .ok (.invokevirtual 122, 3) := by decide +kernel
theorem dX4_readNumbers_88 : decode cX4_readNumbers 88 = .ok (.bipush 59, 2) := by decide +kernel
theorem dX4_readNumbers_90 : decode cX4_readNumbers 90 = .ok (.if_icmp .ne 7, 3) := by decide +kernel
theorem dX4_readNumbers_93 : decode cX4_readNumbers 93 = .ok (.iconst 1, 1) := by decide +kernel
theorem dX4_readNumbers_94 : decode cX4_readNumbers 94 = .ok (.goto 4, 3) := by decide +kernel
theorem dX4_readNumbers_97 : decode cX4_readNumbers 97 = .ok (.iconst 0, 1) := by decide +kernel
theorem dX4_readNumbers_98 : decode cX4_readNumbers 98 = .ok (.ireturn, 1) := by decide +kernel
set_option maxRecDepth 20000 in
theorem ggX4_digitsAt_X4_signAt : GoodIn wsX4_digitsAt wsX4_signAt := goodIn_r _ [5, 6, 7, 11, 12, 13, 14, 15, 16, 17, 18] (by decide +kernel) (by decide +kernel)
set_option maxRecDepth 20000 in
theorem gX4_digitsAt_X4_signAt : GoodIn wsX4_digitsAt (wsV RX4 122 RX4 yX4_signAt wsX4_signAt) := goodIn_app (goodIn_of _ (by decide +kernel)) ggX4_digitsAt_X4_signAt
set_option maxRecDepth 20000 in
theorem ggX4_digitsAt_X4_isDigit : GoodIn wsX4_digitsAt wsX4_isDigit := goodIn_r _ [10] (by decide +kernel) (by decide +kernel)
set_option maxRecDepth 20000 in
theorem gX4_digitsAt_X4_isDigit : GoodIn wsX4_digitsAt (va_wsS RX4 135 yX4_isDigit wsX4_isDigit) := goodIn_app (goodIn_of _ (by decide +kernel)) ggX4_digitsAt_X4_isDigit
theorem dX4_digitsAt_0 : decode cX4_digitsAt 0 = .ok (.iconst 0, 1) := by decide +kernel
theorem dX4_digitsAt_1 : decode cX4_digitsAt 1 = .ok (.istore_n 2, 1) := by decide +kernel
theorem dX4_digitsAt_2 : decode cX4_digitsAt 2 = .ok (.iload_n 2, 1) := by decide +kernel
theorem dX4_digitsAt_3 : decode cX4_digitsAt 3 = .ok (.iconst 4, 1) := by decide +kernel
theorem dX4_digitsAt_4 : decode cX4_digitsAt 4 = .ok (.if_icmp .ge 22, 3) := by decide +kernel
theorem dX4_digitsAt_7 : decode cX4_digitsAt 7 = .ok (.aload_n 0, 1) := by decide +kernel
theorem dX4_digitsAt_8 : decode cX4_digitsAt 8 = .ok (.iload_n 1, 1) := by decide +kernel
theorem dX4_digitsAt_9 : decode cX4_digitsAt 9 = .ok (.iload_n 2, 1) := by decide +kernel
theorem dX4_digitsAt_10 : decode cX4_digitsAt 10 = .ok (.iadd, 1) := by decide +kernel
theorem dX4_digitsAt_11 : decode cX4_digitsAt 11 = .ok (.invokevirtual 122, 3) := by decide +kernel
theorem dX4_digitsAt_14 : decode cX4_digitsAt 14 = .ok (.invokestatic 135, 3) := by decide +kernel
theorem dX4_digitsAt_17 : decode cX4_digitsAt 17 = .ok (.ifCond .eq 9, 3) := by decide +kernel
theorem dX4_digitsAt_20 : decode cX4_digitsAt 20 = .ok (.iinc 2 1, 3) := by decide +kernel
theorem dX4_digitsAt_23 : decode cX4_digitsAt 23 = .ok (.goto (-21), 3) := by decide +kernel
theorem dX4_digitsAt_26 : decode cX4_digitsAt 26 = .ok (.iload_n 2, 1) := by decide +kernel
theorem dX4_digitsAt_27 : decode cX4_digitsAt 27 = .ok (.ireturn, 1) := by decide +kernel
set_option maxRecDepth 20000 in
theorem ggX4_valueAt_X4_signAt : GoodIn wsX4_valueAt wsX4_signAt := goodIn_r _ [5, 6, 7, 8, 9, 10, 11, 12, 13, 14, 15] (by decide +kernel) (by decide +kernel)
set_option maxRecDepth 20000 in
theorem gX4_valueAt_X4_signAt : GoodIn wsX4_valueAt (wsV RX4 122 RX4 yX4_signAt wsX4_signAt) := goodIn_app (goodIn_of _ (by decide +kernel)) ggX4_valueAt_X4_signAt
theorem dX4_valueAt_0 : decode cX4_valueAt 0 = .ok (.iconst 0, 1) := by decide +kernel
theorem dX4_valueAt_1 : decode cX4_valueAt 1 = .ok (.istore_n 3, 1) := by decide +kernel
theorem dX4_valueAt_2 : decode cX4_valueAt 2 = .ok (.iconst 0, 1) := by decide +kernel
theorem dX4_valueAt_3 : decode cX4_valueAt 3 = .ok (.istore 4, 2) := by decide +kernel
theorem dX4_valueAt_5 : decode cX4_valueAt 5 = .ok (.iload 4, 2) := by decide +kernel
theorem dX4_valueAt_7 : decode cX4_valueAt 7 = .ok (.iload_n 2, 1) := by decide +kernel
theorem dX4_valueAt_8 : decode cX4_valueAt 8 = .ok (.if_icmp .ge 26, 3) := by decide +kernel
theorem dX4_valueAt_11 : decode cX4_valueAt 11 = .ok (.bipush 10, 2) := by decide +kernel
theorem dX4_valueAt_13 : decode cX4_valueAt 13 = .ok (.iload_n 3, 1) := by decide +kernel
theorem dX4_valueAt_14 : decode cX4_valueAt 14 = .ok (.imul, 1) := by decide +kernel
theorem dX4_valueAt_15 : decode cX4_valueAt 15 = .ok (.aload_n 0, 1) := by decide +kernel
theorem dX4_valueAt_16 : decode cX4_valueAt 16 = .ok (.iload_n 1, 1) := by decide +kernel
theorem dX4_valueAt_17 : decode cX4_valueAt 17 = .ok (.iload 4, 2) := by decide +kernel
theorem dX4_valueAt_19 : decode cX4_valueAt 19 = .ok (.iadd, 1) := by decide +kernel
theorem dX4_valueAt_20 : decode cX4_valueAt 20 = .ok (.invokevirtual 122, 3) := by decide +kernel
theorem dX4_valueAt_23 : decode cX4_valueAt 23 = .ok (.iadd, 1) := by decide +kernel
theorem dX4_valueAt_24 : decode cX4_valueAt 24 = .ok (.bipush 48, 2) := by decide +kernel
theorem dX4_valueAt_26 : decode cX4_valueAt 26 = .ok (.isub, 1) := by decide +kernel
theorem dX4_valueAt_27 : decode cX4_valueAt 27 = .ok (.istore_n 3, 1) := by decide +kernel
theorem dX4_valueAt_28 : decode cX4_valueAt 28 = .ok (.iinc 4 1, 3) := by decide +kernel
theorem dX4_valueAt_31 : decode cX4_valueAt 31 = .ok (.goto (-26), 3) := by decide +kernel
theorem dX4_valueAt_34 : decode cX4_valueAt 34 = .ok (.iload_n 3, 1) := by decide +kernel
theorem dX4_valueAt_35 : decode cX4_valueAt 35 = .ok (.ireturn, 1) := by decide +kernel
theorem dX4_isDigit_0 : decode cX4_isDigit 0 = .ok (.iload_n 0, 1) := by decide +kernel
theorem dX4_isDigit_1 : decode cX4_isDigit 1 = .ok (.bipush 48, 2) := by decide +kernel
theorem dX4_isDigit_3 : decode cX4_isDigit 3 = .ok (.if_icmp .lt 13, 3) := by decide +kernel
theorem dX4_isDigit_6 : decode cX4_isDigit 6 = .ok (.iload_n 0, 1) := by decide +kernel
theorem dX4_isDigit_7 : decode cX4_isDigit 7 = .ok (.bipush 57, 2) := by decide +kernel
theorem dX4_isDigit_9 : decode cX4_isDigit 9 = .ok (.if_icmp .gt 7, 3) := by decide +kernel
theorem dX4_isDigit_12 : decode cX4_isDigit 12 = .ok (.iconst 1, 1) := by decide +kernel
theorem dX4_isDigit_13 : decode cX4_isDigit 13 = .ok (.goto 4, 3) := by decide +kernel
theorem dX4_isDigit_16 : decode cX4_isDigit 16 = .ok (.iconst 0, 1) := by decide +kernel
theorem dX4_isDigit_17 : decode cX4_isDigit 17 = .ok (.ireturn, 1) := by decide +kernel
theorem dX4_signAt_0 : decode cX4_signAt 0 = .ok (.iload_n 1, 1) := by decide +kernel
theorem dX4_signAt_1 : decode cX4_signAt 1 = .ok (.ifCond .lt 26, 3) := by decide +kernel
theorem dX4_signAt_4 : decode cX4_signAt 4 = .ok (.iload_n 1, 1) := by decide +kernel
theorem dX4_signAt_5 : decode cX4_signAt 5 = .ok (.aload_n 0, 1) := by decide +kernel
theorem dX4_signAt_6 : decode cX4_signAt 6 = .ok (.getfield 15, 3) := by decide +kernel
theorem dX4_signAt_9 : decode cX4_signAt 9 = .ok (.if_icmp .ge 18, 3) := by decide +kernel
theorem dX4_signAt_12 : decode cX4_signAt 12 = .ok (.iload_n 1, 1) := by decide +kernel
theorem dX4_signAt_13 : decode cX4_signAt 13 = .ok (.bipush 60, 2) := by decide +kernel
theorem dX4_signAt_15 : decode cX4_signAt 15 = .ok (.if_icmp .ge 12, 3) := by decide +kernel
theorem dX4_signAt_18 : decode cX4_signAt 18 = .ok (.aload_n 0, 1) := by decide +kernel
theorem dX4_signAt_19 : decode cX4_signAt 19 = .ok (.getfield 11, 3) := by decide +kernel
theorem dX4_signAt_22 : decode cX4_signAt 22 = .ok (.iload_n 1, 1) := by decide +kernel
theorem dX4_signAt_23 : decode cX4_signAt 23 = .ok (.caload, 1) := by decide +kernel
theorem dX4_signAt_24 : decode cX4_signAt 24 = .ok (.goto 4, 3) := by decide +kernel
theorem dX4_signAt_27 : decode cX4_signAt 27 = .ok (.iconst 0, 1) := by decide +kernel
theorem dX4_signAt_28 : decode cX4_signAt 28 = .ok (.ireturn, 1) := by decide +kernel
theorem dX5_init_0 : decode cX5_init 0 = .ok (.aload_n 0, 1) := by decide +kernel
theorem dX5_init_1 : decode cX5_init 1 = .ok (.invokespecial 3, 3) := by decide +kernel
theorem dX5_init_4 : decode cX5_init 4 = .ok (.aload_n 0, 1) := by decide +kernel
theorem dX5_init_5 : decode cX5_init 5 = .ok (.iconst 0, 1) := by decide +kernel
theorem dX5_init_6 : decode cX5_init 6 = .ok (.putfield 9, 3) := by decide +kernel
theorem dX5_init_9 : decode cX5_init 9 = .ok (.aload_n 0, 1) := by decide +kernel
theorem dX5_init_10 : decode cX5_init 10 = .ok (.bipush 20, 2) := by decide +kernel
theorem dX5_init_12 : decode cX5_init 12 = .ok (.newarray .int, 2) := by decide +kernel
theorem dX5_init_14 : decode cX5_init 14 = .ok (.putfield 15, 3) := by decide +kernel
theorem dX5_init_17 : decode cX5_init 17 = .ok (.aload_n 0, 1) := by decide +kernel
theorem dX5_init_18 : decode cX5_init 18 = .ok (.bipush 20, 2) := by decide +kernel
theorem dX5_init_20 : decode cX5_init 20 = .ok (.newarray .int, 2) := by decide +kernel
theorem dX5_init_22 : decode cX5_init 22 = .ok (.putfield 19, 3) := by decide +kernel
theorem dX5_init_25 : decode cX5_init 25 = .ok (.aload_n 0, 1) := by decide +kernel
theorem dX5_init_26 : decode cX5_init 26 = .ok (.bipush 20, 2) := by decide +kernel
theorem dX5_init_28 : decode cX5_init 28 = .ok (.newarray .int, 2) := by decide +kernel
theorem dX5_init_30 : decode cX5_init 30 = .ok (.putfield 22, 3) := by decide +kernel
theorem dX5_init_33 : decode cX5_init 33 = .ok (.aload_n 0, 1) := by decide +kernel
theorem dX5_init_34 : decode cX5_init 34 = .ok (.bipush 20, 2) := by decide +kernel
theorem dX5_init_36 : decode cX5_init 36 = .ok (.newarray .int, 2) := by decide +kernel
theorem dX5_init_38 : decode cX5_init 38 = .ok (.putfield 25, 3) := by decide +kernel
theorem dX5_init_41 : decode cX5_init 41 = .ok (.aload_n 0, 1) := by decide +kernel
theorem dX5_init_42 : decode cX5_init 42 = .ok (.bipush 20, 2) := by decide +kernel
theorem dX5_init_44 : decode cX5_init 44 = .ok (.newarray .int, 2) := by decide +kernel
theorem dX5_init_46 : decode cX5_init 46 = .ok (.putfield 28, 3) := by decide +kernel
theorem dX5_init_49 : decode cX5_init 49 = .ok (.aload_n 0, 1) := by decide +kernel
theorem dX5_init_50 : decode cX5_init 50 = .ok (.bipush 20, 2) := by decide +kernel
theorem dX5_init_52 : decode cX5_init 52 = .ok (.newarray .int, 2) := by decide +kernel
theorem dX5_init_54 : decode cX5_init 54 = .ok (.putfield 31, 3) := by decide +kernel
theorem dX5_init_57 : decode cX5_init 57 = .ok (.aload_n 0, 1) := by decide +kernel
theorem dX5_init_58 : decode cX5_init 58 = .ok (.bipush 20, 2) := by decide +kernel
theorem dX5_init_60 : decode cX5_init 60 = .ok (.newarray .int, 2) := by decide +kernel
theorem dX5_init_62 : decode cX5_init 62 = .ok (.putfield 34, 3) := by decide +kernel
theorem dX5_init_65 : decode cX5_init 65 = .ok (.aload_n 0, 1) := by decide +kernel
theorem dX5_init_66 : decode cX5_init 66 = .ok (.bipush 20, 2) := by decide +kernel
theorem dX5_init_68 : decode cX5_init 68 = .ok (.newarray .int, 2) := by decide +kernel
theorem dX5_init_70 : decode cX5_init 70 = .ok (.putfield 37, 3) := by decide +kernel
theorem dX5_init_73 : decode cX5_init 73 = .ok (.aload_n 0, 1) := by decide +kernel
theorem dX5_init_74 : decode cX5_init 74 = .ok (.bipush 20, 2) := by decide +kernel
theorem dX5_init_76 : decode cX5_init 76 = .ok (.newarray .int, 2) := by decide +kernel
theorem dX5_init_78 : decode cX5_init 78 = .ok (.putfield 40, 3) := by decide +kernel
theorem dX5_init_81 : decode cX5_init 81 = .ok (.return_, 1) := by decide +kernel
theorem dX5_has_0 : decode cX5_has 0 = .ok (.iload_n 1, 1) := by decide +kernel
theorem dX5_has_1 : decode cX5_has 1 = .ok (.ifCond .lt 21, 3) := by decide +kernel
theorem dX5_has_4 : decode cX5_has 4 = .ok (.iload_n 1, 1) := by decide +kernel
theorem dX5_has_5 : decode cX5_has 5 = .ok (.aload_n 0, 1) := by decide +kernel
theorem dX5_has_6 : decode cX5_has 6 = .ok (.getfield 9, 3) := by decide +kernel
theorem dX5_has_9 : decode cX5_has 9 = .ok (.if_icmp .ge 13, 3) := by decide +kernel
theorem dX5_has_12 : decode cX5_has 12 = .ok (.iload_n 1, 1) := by decide +kernel
theorem dX5_has_13 : decode cX5_has 13 = .ok (.bipush 20, 2) := by decide +kernel
theorem dX5_has_15 : decode cX5_has 15 = .ok (.if_icmp .ge 7, 3) := by decide +kernel
theorem dX5_has_18 : decode cX5_has 18 = .ok (.iconst 1, 1) := by decide +kernel
theorem dX5_has_19 : decode cX5_has 19 = .ok (.goto 4, 3) := by decide +kernel
theorem dX5_has_22 : decode cX5_has 22 = .ok (.iconst 0, 1) := by decide +kernel
theorem dX5_has_23 : decode cX5_has 23 = .ok (.ireturn, 1) := by decide +kernel
theorem dX5_add_0 : decode cX5_add 0 = .ok (.aload_n 0, 1) := by decide +kernel
theorem dX5_add_1 : decode cX5_add 1 = .ok (.getfield 9, 3) := by decide +kernel
theorem dX5_add_4 : decode cX5_add 4 = .ok (.ifCond .lt 12, 3) := by decide +kernel
theorem dX5_add_7 : decode cX5_add 7 = .ok (.aload_n 0, 1) := by decide +kernel
theorem dX5_add_8 : decode cX5_add 8 = .ok (.getfield 9, 3) := by decide +kernel
theorem dX5_add_11 : decode cX5_add 11 = .ok (.bipush 20, 2) := by decide +kernel
theorem dX5_add_13 : decode cX5_add 13 = .ok (.if_icmp .lt 5, 3) := by decide +kernel
theorem dX5_add_16 : decode cX5_add 16 = .ok (.iconst (-1), 1) := by decide +kernel
theorem dX5_add_17 : decode cX5_add 17 = .ok (.ireturn, 1) := by decide +kernel
theorem dX5_add_18 : decode cX5_add 18 = .ok (.aload_n 0, 1) := by decide +kernel
theorem dX5_add_19 : decode cX5_add 19 = .ok (.getfield 9, 3) := by decide +kernel
theorem dX5_add_22 : decode cX5_add 22 = .ok (.istore 5, 2) := by decide +kernel
theorem dX5_add_24 : decode cX5_add 24 = .ok (.aload_n 0, 1) := by decide +kernel
theorem dX5_add_25 : decode cX5_add 25 = .ok (.getfield 15, 3) := by decide +kernel
theorem dX5_add_28 : decode cX5_add 28 = .ok (.iload 5, 2) := by decide +kernel
theorem dX5_add_30 : decode cX5_add 30 = .ok (.iload_n 2, 1) := by decide +kernel
theorem dX5_add_31 : decode cX5_add 31 = .ok (.iastore, 1) := by decide +kernel
theorem dX5_add_32 : decode cX5_add 32 = .ok (.aload_n 0, 1) := by decide +kernel
theorem dX5_add_33 : decode cX5_add 33 = .ok (.getfield 19, 3) := by decide +kernel
theorem dX5_add_36 : decode cX5_add 36 = .ok (.iload 5, 2) := by decide +kernel
theorem dX5_add_38 : decode cX5_add 38 = .ok (.iload_n 3, 1) := by decide +kernel
theorem dX5_add_39 : decode cX5_add 39 = .ok (.iastore, 1) := by decide +kernel
theorem dX5_add_40 : decode cX5_add 40 = .ok (.aload_n 0, 1) := by decide +kernel
theorem dX5_add_41 : decode cX5_add 41 = .ok (.getfield 22, 3) := by decide +kernel
theorem dX5_add_44 : decode cX5_add 44 = .ok (.iload 5, 2) := by decide +kernel
theorem dX5_add_46 : decode cX5_add 46 = .ok (.iload 4, 2) := by decide +kernel
theorem dX5_add_48 : decode cX5_add 48 = .ok (.iastore, 1) := by decide +kernel
theorem dX5_add_49 : decode cX5_add 49 = .ok (.aload_n 0, 1) := by decide +kernel
theorem dX5_add_50 : decode cX5_add 50 = .ok (.getfield 25, 3) := by decide +kernel
theorem dX5_add_53 : decode cX5_add 53 = .ok (.iload 5, 2) := by decide +kernel
theorem dX5_add_55 : decode cX5_add 55 = .ok (.iload_n 1, 1) := by decide +kernel
theorem dX5_add_56 : decode cX5_add 56 = .ok (.iastore, 1) := by decide +kernel
theorem dX5_add_57 : decode cX5_add 57 = .ok (.aload_n 0, 1) := by decide +kernel
theorem dX5_add_58 : decode cX5_add 58 = .ok (.getfield 28, 3) := by decide +kernel
theorem dX5_add_61 : decode cX5_add 61 = .ok (.iload 5, 2) := by decide +kernel
theorem dX5_add_63 : decode cX5_add 63 = .ok (.iload_n 1, 1) := by decide +kernel
theorem dX5_add_64 : decode cX5_add 64 = .ok (.iastore, 1) := by decide +kernel
theorem dX5_add_65 : decode cX5_add 65 = .ok (.aload_n 0, 1) := by decide +kernel
theorem dX5_add_66 : decode cX5_add 66 = .ok (.getfield 31, 3) := by decide +kernel
theorem dX5_add_69 : decode cX5_add 69 = .ok (.iload 5, 2) := by decide +kernel
theorem dX5_add_71 : decode cX5_add 71 = .ok (.iconst (-1), 1) := by decide +kernel
theorem dX5_add_72 : decode cX5_add 72 = .ok (.iastore, 1) := by decide +kernel
theorem dX5_add_73 : decode cX5_add 73 = .ok (.aload_n 0, 1) := by decide +kernel
theorem dX5_add_74 : decode cX5_add 74 = .ok (.getfield 34, 3) := by decide +kernel
theorem dX5_add_77 : decode cX5_add 77 = .ok (.iload 5, 2) := by decide +kernel
theorem dX5_add_79 : decode cX5_add 79 = .ok (.iconst 0, 1) := by decide +kernel
theorem dX5_add_80 : decode cX5_add 80 = .ok (.iastore, 1) := by decide +kernel
theorem dX5_add_81 : decode cX5_add 81 = .ok (.aload_n 0, 1) := by decide +kernel
theorem dX5_add_82 : decode cX5_add 82 = .ok (.getfield 37, 3) := by decide +kernel
theorem dX5_add_85 : decode cX5_add 85 = .ok (.iload 5, 2) := by decide +kernel
theorem dX5_add_87 : decode cX5_add 87 = .ok (.iconst 0, 1) := by decide +kernel
theorem dX5_add_88 : decode cX5_add 88 = .ok (.iastore, 1) := by decide +kernel
theorem dX5_add_89 : decode cX5_add 89 = .ok (.aload_n 0, 1) := by decide +kernel
theorem dX5_add_90 : decode cX5_add 90 = .ok (.getfield 40, 3) := by decide +kernel
theorem dX5_add_93 : decode cX5_add 93 = .ok (.iload 5, 2) := by decide +kernel
theorem dX5_add_95 : decode cX5_add 95 = .ok (.iconst 0, 1) := by decide +kernel
theorem dX5_add_96 : decode cX5_add 96 = .ok (.iastore, 1) := by decide +kernel
theorem dX5_add_97 : decode cX5_add 97 = .ok (.aload_n 0, 1) := by decide +kernel
theorem dX5_add_98 : decode cX5_add 98 = .ok (.dup, 1) := by decide +kernel
theorem dX5_add_99 : decode cX5_add 99 = .ok (.getfield 9, 3) := by decide +kernel
theorem dX5_add_102 : decode cX5_add 102 = .ok (.iconst 1, 1) := by decide +kernel
theorem dX5_add_103 : decode cX5_add 103 = .ok (.iadd, 1) := by decide +kernel
theorem dX5_add_104 : decode cX5_add 104 = .ok (.putfield 9, 3) := by decide +kernel
theorem dX5_add_107 : decode cX5_add 107 = .ok (.iload 5, 2) := by decide +kernel
theorem dX5_add_109 : decode cX5_add 109 = .ok (.ireturn, 1) := by decide +kernel
theorem dX5_sieveOf_0 : decode cX5_sieveOf 0 = .ok (.aload_n 0, 1) := by decide +kernel
theorem dX5_sieveOf_1 : decode cX5_sieveOf 1 = .ok (.getfield 15, 3) := by decide +kernel
theorem dX5_sieveOf_4 : decode cX5_sieveOf 4 = .ok (.iload_n 1, 1) := by decide +kernel
theorem dX5_sieveOf_5 : decode cX5_sieveOf 5 = .ok (.iaload, 1) := by decide +kernel
theorem dX5_sieveOf_6 : decode cX5_sieveOf 6 = .ok (.istore_n 2, 1) := by decide +kernel
theorem dX5_sieveOf_7 : decode cX5_sieveOf 7 = .ok (.iload_n 2, 1) := by decide +kernel
theorem dX5_sieveOf_8 : decode cX5_sieveOf 8 = .ok (.bipush 10, 2) := by decide +kernel
theorem dX5_sieveOf_10 : decode cX5_sieveOf 10 = .ok (.if_icmp .ge 5, 3) := by decide +kernel
theorem dX5_sieveOf_13 : decode cX5_sieveOf 13 = .ok (.iconst 0, 1) := by decide +kernel
theorem dX5_sieveOf_14 : decode cX5_sieveOf 14 = .ok (.ireturn, 1) := by decide +kernel
theorem dX5_sieveOf_15 : decode cX5_sieveOf 15 = .ok (.iload_n 2, 1) := by decide +kernel
theorem dX5_sieveOf_16 : decode cX5_sieveOf 16 = .ok (.bipush 25, 2) := by decide +kernel
theorem dX5_sieveOf_18 : decode cX5_sieveOf 18 = .ok (.if_icmp .ge 5, 3) := by decide +kernel
theorem dX5_sieveOf_21 : decode cX5_sieveOf 21 = .ok (.iconst 1, 1) := by decide +kernel
theorem dX5_sieveOf_22 : decode cX5_sieveOf 22 = .ok (.ireturn, 1) := by decide +kernel
theorem dX5_sieveOf_23 : decode cX5_sieveOf 23 = .ok (.iload_n 2, 1) := by decide +kernel
theorem dX5_sieveOf_24 : decode cX5_sieveOf 24 = .ok (.bipush 50, 2) := by decide +kernel
theorem dX5_sieveOf_26 : decode cX5_sieveOf 26 = .ok (.if_icmp .ge 5, 3) := by decide +kernel
theorem dX5_sieveOf_29 : decode cX5_sieveOf 29 = .ok (.iconst 2, 1) := by decide +kernel
theorem dX5_sieveOf_30 : decode cX5_sieveOf 30 = .ok (.ireturn, 1) := by decide +kernel
theorem dX5_sieveOf_31 : decode cX5_sieveOf 31 = .ok (.iload_n 2, 1) := by decide +kernel
theorem dX5_sieveOf_32 : decode cX5_sieveOf 32 = .ok (.bipush 100, 2) := by decide +kernel
theorem dX5_sieveOf_34 : decode cX5_sieveOf 34 = .ok (.if_icmp .ge 7, 3) := by decide +kernel
theorem dX5_sieveOf_37 : decode cX5_sieveOf 37 = .ok (.iconst 3, 1) := by decide +kernel
theorem dX5_sieveOf_38 : decode cX5_sieveOf 38 = .ok (.goto 4, 3) := by decide +kernel
theorem dX5_sieveOf_41 : decode cX5_sieveOf 41 = .ok (.iconst 4, 1) := by decide +kernel
theorem dX5_sieveOf_42 : decode cX5_sieveOf 42 = .ok (.ireturn, 1) := by decide +kernel
theorem dX5_isOut_0 : decode cX5_isOut 0 = .ok (.aload_n 0, 1) := by decide +kernel
theorem dX5_isOut_1 : decode cX5_isOut 1 = .ok (.getfield 31, 3) := by decide +kernel
theorem dX5_isOut_4 : decode cX5_isOut 4 = .ok (.iload_n 1, 1) := by decide +kernel
theorem dX5_isOut_5 : decode cX5_isOut 5 = .ok (.iaload, 1) := by decide +kernel
theorem dX5_isOut_6 : decode cX5_isOut 6 = .ok (.iconst (-1), 1) := by decide +kernel
theorem dX5_isOut_7 : decode cX5_isOut 7 = .ok (.if_icmp .eq 7, 3) := by decide +kernel
theorem dX5_isOut_10 : decode cX5_isOut 10 = .ok (.iconst 1, 1) := by decide +kernel
theorem dX5_isOut_11 : decode cX5_isOut 11 = .ok (.goto 4, 3) := by decide +kernel
theorem dX5_isOut_14 : decode cX5_isOut 14 = .ok (.iconst 0, 1) := by decide +kernel
theorem dX5_isOut_15 : decode cX5_isOut 15 = .ok (.ireturn, 1) := by decide +kernel
theorem dX5_isSold_0 : decode cX5_isSold 0 = .ok (.aload_n 0, 1) := by decide +kernel
theorem dX5_isSold_1 : decode cX5_isSold 1 = .ok (.getfield 37, 3) := by decide +kernel
theorem dX5_isSold_4 : decode cX5_isSold 4 = .ok (.iload_n 1, 1) := by decide +kernel
theorem dX5_isSold_5 : decode cX5_isSold 5 = .ok (.iaload, 1) := by decide +kernel
theorem dX5_isSold_6 : decode cX5_isSold 6 = .ok (.ifCond .eq 7, 3) := by decide +kernel
theorem dX5_isSold_9 : decode cX5_isSold 9 = .ok (.iconst 1, 1) := by decide +kernel
theorem dX5_isSold_10 : decode cX5_isSold 10 = .ok (.goto 4, 3) := by decide +kernel
theorem dX5_isSold_13 : decode cX5_isSold 13 = .ok (.iconst 0, 1) := by decide +kernel
theorem dX5_isSold_14 : decode cX5_isSold 14 = .ok (.ireturn, 1) := by decide +kernel
theorem dX5_setWhere_0 : decode cX5_setWhere 0 = .ok (.iconst 0, 1) := by decide +kernel
theorem dX5_setWhere_1 : decode cX5_setWhere 1 = .ok (.istore_n 3, 1) := by decide +kernel
theorem dX5_setWhere_2 : decode cX5_setWhere 2 = .ok (.iconst 0, 1) := by decide +kernel
theorem dX5_setWhere_3 : decode cX5_setWhere 3 = .ok (.istore 4, 2) := by decide +kernel
theorem dX5_setWhere_5 : decode cX5_setWhere 5 = .ok (.iload 4, 2) := by decide +kernel
theorem dX5_setWhere_7 : decode cX5_setWhere 7 = .ok (.aload_n 0, 1) := by decide +kernel
theorem dX5_setWhere_8 : decode cX5_setWhere 8 = .ok (.getfield 9, 3) := by decide +kernel
theorem dX5_setWhere_11 : decode cX5_setWhere 11 = .ok (.if_icmp .ge 24, 3) := by decide +kernel
theorem dX5_setWhere_14 : decode cX5_setWhere 14 = .ok (.aload_n 1, 1) := by decide +kernel
theorem dX5_setWhere_15 : decode cX5_setWhere 15 = .ok (.iload 4, 2) := by decide +kernel
theorem dX5_setWhere_17 : decode cX5_setWhere 17 = .ok (.iaload, 1) := by decide +kernel
theorem dX5_setWhere_18 : decode cX5_setWhere 18 = .ok (.iload_n 2, 1) := by decide +kernel
theorem dX5_setWhere_19 : decode cX5_setWhere 19 = .ok (.if_icmp .ne 10, 3) := by decide +kernel
theorem dX5_setWhere_22 : decode cX5_setWhere 22 = .ok (.iload_n 3, 1) := by decide +kernel
theorem dX5_setWhere_23 : decode cX5_setWhere 23 = .ok (.iconst 1, 1) := by decide +kernel
theorem dX5_setWhere_24 : decode cX5_setWhere 24 = .ok (.iload 4, 2) := by decide +kernel
theorem dX5_setWhere_26 : decode cX5_setWhere 26 = .ok (.ishl, 1) := by decide +kernel
theorem dX5_setWhere_27 : decode cX5_setWhere 27 = .ok (.ior, 1) := by decide +kernel
theorem dX5_setWhere_28 : decode cX5_setWhere 28 = .ok (.istore_n 3, 1) := by decide +kernel
theorem dX5_setWhere_29 : decode cX5_setWhere 29 = .ok (.iinc 4 1, 3) := by decide +kernel
theorem dX5_setWhere_32 : decode cX5_setWhere 32 = .ok (.goto (-27), 3) := by decide +kernel
theorem dX5_setWhere_35 : decode cX5_setWhere 35 = .ok (.iload_n 3, 1) := by decide +kernel
theorem dX5_setWhere_36 : decode cX5_setWhere 36 = .ok (.ireturn, 1) := by decide +kernel
set_option maxRecDepth 20000 in
theorem ggX5_countSold_X5_isSold : GoodIn wsX5_countSold wsX5_isSold := goodIn_r _ [6, 7, 8, 9, 10, 11, 12, 13, 14, 15, 16, 17] (by decide +kernel) (by decide +kernel)
set_option maxRecDepth 20000 in
theorem gX5_countSold_X5_isSold : GoodIn wsX5_countSold (wsV RX5 43 RX5 yX5_isSold wsX5_isSold) := goodIn_app (goodIn_of _ (by decide +kernel)) ggX5_countSold_X5_isSold
theorem dX5_countSold_0 : decode cX5_countSold 0 = .ok (.iconst 0, 1) := by decide +kernel
theorem dX5_countSold_1 : decode cX5_countSold 1 = .ok (.istore_n 1, 1) := by decide +kernel
theorem dX5_countSold_2 : decode cX5_countSold 2 = .ok (.iconst 0, 1) := by decide +kernel
theorem dX5_countSold_3 : decode cX5_countSold 3 = .ok (.istore_n 2, 1) := by decide +kernel
theorem dX5_countSold_4 : decode cX5_countSold 4 = .ok (.iload_n 2, 1) := by decide +kernel
theorem dX5_countSold_5 : decode cX5_countSold 5 = .ok (.aload_n 0, 1) := by decide +kernel
theorem dX5_countSold_6 : decode cX5_countSold 6 = .ok (.getfield 9, 3) := by decide +kernel
theorem dX5_countSold_9 : decode cX5_countSold 9 = .ok (.if_icmp .ge 20, 3) := by decide +kernel
theorem dX5_countSold_12 : decode cX5_countSold 12 = .ok (.aload_n 0, 1) := by decide +kernel
theorem dX5_countSold_13 : decode cX5_countSold 13 = .ok (.iload_n 2, 1) := by decide +kernel
theorem dX5_countSold_14 : decode cX5_countSold 14 = .ok (.invokevirtual 43, 3) := by decide +kernel
theorem dX5_countSold_17 : decode cX5_countSold 17 = .ok (.ifCond .eq 6, 3) := by decide +kernel
theorem dX5_countSold_20 : decode cX5_countSold 20 = .ok (.iinc 1 1, 3) := by decide +kernel
theorem dX5_countSold_23 : decode cX5_countSold 23 = .ok (.iinc 2 1, 3) := by decide +kernel
theorem dX5_countSold_26 : decode cX5_countSold 26 = .ok (.goto (-22), 3) := by decide +kernel
theorem dX5_countSold_29 : decode cX5_countSold 29 = .ok (.iload_n 1, 1) := by decide +kernel
theorem dX5_countSold_30 : decode cX5_countSold 30 = .ok (.ireturn, 1) := by decide +kernel
set_option maxRecDepth 20000 in
theorem ggX5_countOut_X5_isOut : GoodIn wsX5_countOut wsX5_isOut := goodIn_r _ [6, 7, 8, 9, 10, 11, 12, 13, 14, 15, 16, 17] (by decide +kernel) (by decide +kernel)
set_option maxRecDepth 20000 in
theorem gX5_countOut_X5_isOut : GoodIn wsX5_countOut (wsV RX5 47 RX5 yX5_isOut wsX5_isOut) := goodIn_app (goodIn_of _ (by decide +kernel)) ggX5_countOut_X5_isOut
theorem dX5_countOut_0 : decode cX5_countOut 0 = .ok (.iconst 0, 1) := by decide +kernel
theorem dX5_countOut_1 : decode cX5_countOut 1 = .ok (.istore_n 1, 1) := by decide +kernel
theorem dX5_countOut_2 : decode cX5_countOut 2 = .ok (.iconst 0, 1) := by decide +kernel
theorem dX5_countOut_3 : decode cX5_countOut 3 = .ok (.istore_n 2, 1) := by decide +kernel
theorem dX5_countOut_4 : decode cX5_countOut 4 = .ok (.iload_n 2, 1) := by decide +kernel
theorem dX5_countOut_5 : decode cX5_countOut 5 = .ok (.aload_n 0, 1) := by decide +kernel
theorem dX5_countOut_6 : decode cX5_countOut 6 = .ok (.getfield 9, 3) := by decide +kernel
theorem dX5_countOut_9 : decode cX5_countOut 9 = .ok (.if_icmp .ge 20, 3) := by decide +kernel
theorem dX5_countOut_12 : decode cX5_countOut 12 = .ok (.aload_n 0, 1) := by decide +kernel
theorem dX5_countOut_13 : decode cX5_countOut 13 = .ok (.iload_n 2, 1) := by decide +kernel
theorem dX5_countOut_14 : decode cX5_countOut 14 = .ok (.invokevirtual 47, 3) := by decide +kernel
theorem dX5_countOut_17 : decode cX5_countOut 17 = .ok (.ifCond .eq 6, 3) := by decide +kernel
theorem dX5_countOut_20 : decode cX5_countOut 20 = .ok (.iinc 1 1, 3) := by decide +kernel
theorem dX5_countOut_23 : decode cX5_countOut 23 = .ok (.iinc 2 1, 3) := by decide +kernel
theorem dX5_countOut_26 : decode cX5_countOut 26 = .ok (.goto (-22), 3) := by decide +kernel
theorem dX5_countOut_29 : decode cX5_countOut 29 = .ok (.iload_n 1, 1) := by decide +kernel
theorem dX5_countOut_30 : decode cX5_countOut 30 = .ok (.ireturn, 1) := by decide +kernel
theorem dX5_sumSold_0 : decode cX5_sumSold 0 = .ok (.iconst 0, 1) := by decide +kernel
theorem dX5_sumSold_1 : decode cX5_sumSold 1 = .ok (.istore_n 1, 1) := by decide +kernel
theorem dX5_sumSold_2 : decode cX5_sumSold 2 = .ok (.iconst 0, 1) := by decide +kernel
theorem dX5_sumSold_3 : decode cX5_sumSold 3 = .ok (.istore_n 2, 1) := by decide +kernel
theorem dX5_sumSold_4 : decode cX5_sumSold 4 = .ok (.iload_n 2, 1) := by decide +kernel
theorem dX5_sumSold_5 : decode cX5_sumSold 5 = .ok (.aload_n 0, 1) := by decide +kernel
theorem dX5_sumSold_6 : decode cX5_sumSold 6 = .ok (.getfield 9, 3) := by decide +kernel
theorem dX5_sumSold_9 : decode cX5_sumSold 9 = .ok (.if_icmp .ge 18, 3) := by decide +kernel
theorem dX5_sumSold_12 : decode cX5_sumSold 12 = .ok (.iload_n 1, 1) := by decide +kernel
theorem dX5_sumSold_13 : decode cX5_sumSold 13 = .ok (.aload_n 0, 1) := by decide +kernel
theorem dX5_sumSold_14 : decode cX5_sumSold 14 = .ok (.getfield 37, 3) := by decide +kernel
theorem dX5_sumSold_17 : decode cX5_sumSold 17 = .ok (.iload_n 2, 1) := by decide +kernel
theorem dX5_sumSold_18 : decode cX5_sumSold 18 = .ok (.iaload, 1) := by decide +kernel
theorem dX5_sumSold_19 : decode cX5_sumSold 19 = .ok (.iadd, 1) := by decide +kernel
theorem dX5_sumSold_20 : decode cX5_sumSold 20 = .ok (.istore_n 1, 1) := by decide +kernel
theorem dX5_sumSold_21 : decode cX5_sumSold 21 = .ok (.iinc 2 1, 3) := by decide +kernel
theorem dX5_sumSold_24 : decode cX5_sumSold 24 = .ok (.goto (-20), 3) := by decide +kernel
theorem dX5_sumSold_27 : decode cX5_sumSold 27 = .ok (.iload_n 1, 1) := by decide +kernel
theorem dX5_sumSold_28 : decode cX5_sumSold 28 = .ok (.ireturn, 1) := by decide +kernel
set_option maxRecDepth 20000 in
theorem ggX5_sumAsked_X5_isOut : GoodIn wsX5_sumAsked wsX5_isOut := goodIn_r _ [7, 8, 9, 10, 11, 12, 13, 14, 15, 16, 17, 18] (by decide +kernel) (by decide +kernel)
set_option maxRecDepth 20000 in
theorem gX5_sumAsked_X5_isOut : GoodIn wsX5_sumAsked (wsV RX5 47 RX5 yX5_isOut wsX5_isOut) := goodIn_app (goodIn_of _ (by decide +kernel)) ggX5_sumAsked_X5_isOut
theorem dX5_sumAsked_0 : decode cX5_sumAsked 0 = .ok (.iconst 0, 1) := by decide +kernel
theorem dX5_sumAsked_1 : decode cX5_sumAsked 1 = .ok (.istore_n 3, 1) := by decide +kernel
theorem dX5_sumAsked_2 : decode cX5_sumAsked 2 = .ok (.iconst 0, 1) := by decide +kernel
theorem dX5_sumAsked_3 : decode cX5_sumAsked 3 = .ok (.istore 4, 2) := by decide +kernel
theorem dX5_sumAsked_5 : decode cX5_sumAsked 5 = .ok (.iload 4, 2) := by decide +kernel
theorem dX5_sumAsked_7 : decode cX5_sumAsked 7 = .ok (.aload_n 0, 1) := by decide +kernel
theorem dX5_sumAsked_8 : decode cX5_sumAsked 8 = .ok (.getfield 9, 3) := by decide +kernel
theorem dX5_sumAsked_11 : decode cX5_sumAsked 11 = .ok (.if_icmp .ge 36, 3) := by decide +kernel
theorem dX5_sumAsked_14 : decode cX5_sumAsked 14 = .ok (.aload_n 0, 1) := by decide +kernel
theorem dX5_sumAsked_15 : decode cX5_sumAsked 15 = .ok (.iload 4, 2) := by decide +kernel
theorem dX5_sumAsked_17 : decode cX5_sumAsked 17 = .ok (.invokevirtual 47, 3) := by decide +kernel
theorem dX5_sumAsked_20 : decode cX5_sumAsked 20 = .ok (.ifCond .eq 21, 3) := by decide +kernel
theorem dX5_sumAsked_23 : decode cX5_sumAsked 23 = .ok (.aload_n 1, 1) := by decide +kernel
theorem dX5_sumAsked_24 : decode cX5_sumAsked 24 = .ok (.iload 4, 2) := by decide +kernel
theorem dX5_sumAsked_26 : decode cX5_sumAsked 26 = .ok (.iaload, 1) := by decide +kernel
theorem dX5_sumAsked_27 : decode cX5_sumAsked 27 = .ok (.iload_n 2, 1) := by decide +kernel
theorem dX5_sumAsked_28 : decode cX5_sumAsked 28 = .ok (.if_icmp .ne 13, 3) := by decide +kernel
theorem dX5_sumAsked_31 : decode cX5_sumAsked 31 = .ok (.iload_n 3, 1) := by decide +kernel
theorem dX5_sumAsked_32 : decode cX5_sumAsked 32 = .ok (.aload_n 0, 1) := by decide +kernel
theorem dX5_sumAsked_33 : decode cX5_sumAsked 33 = .ok (.getfield 34, 3) := by decide +kernel
theorem dX5_sumAsked_36 : decode cX5_sumAsked 36 = .ok (.iload 4, 2) := by decide +kernel
theorem dX5_sumAsked_38 : decode cX5_sumAsked 38 = .ok (.iaload, 1) := by decide +kernel
theorem dX5_sumAsked_39 : decode cX5_sumAsked 39 = .ok (.iadd, 1) := by decide +kernel
theorem dX5_sumAsked_40 : decode cX5_sumAsked 40 = .ok (.istore_n 3, 1) := by decide +kernel
theorem dX5_sumAsked_41 : decode cX5_sumAsked 41 = .ok (.iinc 4 1, 3) := by decide +kernel
theorem dX5_sumAsked_44 : decode cX5_sumAsked 44 = .ok (.goto (-39), 3) := by decide +kernel
theorem dX5_sumAsked_47 : decode cX5_sumAsked 47 = .ok (.iload_n 3, 1) := by decide +kernel
theorem dX5_sumAsked_48 : decode cX5_sumAsked 48 = .ok (.ireturn, 1) := by decide +kernel
set_option maxRecDepth 20000 in
theorem ggX5_unlikeGrades_X5_hasLikeBefore : GoodIn wsX5_unlikeGrades wsX5_hasLikeBefore := goodIn_r _ [7, 2, 8, 9, 10, 6, 11, 12, 13, 14, 15, 16, 17, 18, 19, 20, 21, 22, 23, 24, 25, 26, 27, 28] (by decide +kernel) (by decide +kernel)
set_option maxRecDepth 20000 in
theorem gX5_unlikeGrades_X5_hasLikeBefore : GoodIn wsX5_unlikeGrades (wsV RX5 61 RX5 yX5_hasLikeBefore wsX5_hasLikeBefore) := goodIn_app (goodIn_of _ (by decide +kernel)) ggX5_unlikeGrades_X5_hasLikeBefore
theorem dX5_unlikeGrades_0 : decode cX5_unlikeGrades 0 = .ok (.iconst 0, 1) := by decide +kernel
theorem dX5_unlikeGrades_1 : decode cX5_unlikeGrades 1 = .ok (.istore_n 2, 1) := by decide +kernel
theorem dX5_unlikeGrades_2 : decode cX5_unlikeGrades 2 = .ok (.iconst 0, 1) := by decide +kernel
theorem dX5_unlikeGrades_3 : decode cX5_unlikeGrades 3 = .ok (.istore_n 3, 1) := by decide +kernel
theorem dX5_unlikeGrades_4 : decode cX5_unlikeGrades 4 = .ok (.iload_n 3, 1) := by decide +kernel
theorem dX5_unlikeGrades_5 : decode cX5_unlikeGrades 5 = .ok (.aload_n 0, 1) := by decide +kernel
theorem dX5_unlikeGrades_6 : decode cX5_unlikeGrades 6 = .ok (.getfield 9, 3) := by decide +kernel
theorem dX5_unlikeGrades_9 : decode cX5_unlikeGrades 9 = .ok (.if_icmp .ge 31, 3) := by decide +kernel
theorem dX5_unlikeGrades_12 : decode cX5_unlikeGrades 12 = .ok (.aload_n 0, 1) := by decide +kernel
theorem dX5_unlikeGrades_13 : decode cX5_unlikeGrades 13 = .ok (.getfield 28, 3) := by decide +kernel
theorem dX5_unlikeGrades_16 : decode cX5_unlikeGrades 16 = .ok (.iload_n 3, 1) := by decide +kernel
theorem dX5_unlikeGrades_17 : decode cX5_unlikeGrades 17 = .ok (.iaload, 1) := by decide +kernel
theorem dX5_unlikeGrades_18 : decode cX5_unlikeGrades 18 = .ok (.iload_n 1, 1) := by decide +kernel
theorem dX5_unlikeGrades_19 : decode cX5_unlikeGrades 19 = .ok (.if_icmp .ne 15, 3) := by decide +kernel
theorem dX5_unlikeGrades_22 : decode cX5_unlikeGrades 22 = .ok (.aload_n 0, 1) := by decide +kernel
theorem dX5_unlikeGrades_23 : decode cX5_unlikeGrades 23 = .ok (.iload_n 3, 1) := by decide +kernel
theorem dX5_unlikeGrades_24 : decode cX5_unlikeGrades 24 = .ok (.iload_n 1, 1) := by decide +kernel
theorem dX5_unlikeGrades_25 : decode cX5_unlikeGrades 25 = .ok (.invokevirtual 61, 3) := by decide +kernel
theorem dX5_unlikeGrades_28 : decode cX5_unlikeGrades 28 = .ok (.ifCond .ne 6, 3) := by decide +kernel
theorem dX5_unlikeGrades_31 : decode cX5_unlikeGrades 31 = .ok (.iinc 2 1, 3) := by decide +kernel
theorem dX5_unlikeGrades_34 : decode cX5_unlikeGrades 34 = .ok (.iinc 3 1, 3) := by decide +kernel
theorem dX5_unlikeGrades_37 : decode cX5_unlikeGrades 37 = .ok (.goto (-33), 3) := by decide +kernel
theorem dX5_unlikeGrades_40 : decode cX5_unlikeGrades 40 = .ok (.iload_n 2, 1) := by decide +kernel
theorem dX5_unlikeGrades_41 : decode cX5_unlikeGrades 41 = .ok (.ireturn, 1) := by decide +kernel
theorem dX5_copyFrom_0 : decode cX5_copyFrom 0 = .ok (.aload_n 0, 1) := by decide +kernel
theorem dX5_copyFrom_1 : decode cX5_copyFrom 1 = .ok (.aload_n 1, 1) := by decide +kernel
theorem dX5_copyFrom_2 : decode cX5_copyFrom 2 = .ok (.getfield 9, 3) := by decide +kernel
theorem dX5_copyFrom_5 : decode cX5_copyFrom 5 = .ok (.putfield 9, 3) := by decide +kernel
theorem dX5_copyFrom_8 : decode cX5_copyFrom 8 = .ok (.aload_n 1, 1) := by decide +kernel
theorem dX5_copyFrom_9 : decode cX5_copyFrom 9 = .ok (.getfield 15, 3) := by decide +kernel
theorem dX5_copyFrom_12 : decode cX5_copyFrom 12 = .ok (.iconst 0, 1) := by decide +kernel
theorem dX5_copyFrom_13 : decode cX5_copyFrom 13 = .ok (.aload_n 0, 1) := by decide +kernel
theorem dX5_copyFrom_14 : decode cX5_copyFrom 14 = .ok (.getfield 15, 3) := by decide +kernel
theorem dX5_copyFrom_17 : decode cX5_copyFrom 17 = .ok (.iconst 0, 1) := by decide +kernel
theorem dX5_copyFrom_18 : decode cX5_copyFrom 18 = .ok (.bipush 20, 2) := by decide +kernel
theorem dX5_copyFrom_20 : decode cX5_copyFrom 20 = .ok (.invokestatic 64, 3) := by decide +kernel
theorem dX5_copyFrom_23 : decode cX5_copyFrom 23 = .ok (.aload_n 1, 1) := by decide +kernel
theorem dX5_copyFrom_24 : decode cX5_copyFrom 24 = .ok (.getfield 19, 3) := by decide +kernel
theorem dX5_copyFrom_27 : decode cX5_copyFrom 27 = .ok (.iconst 0, 1) := by decide +kernel
theorem dX5_copyFrom_28 : decode cX5_copyFrom 28 = .ok (.aload_n 0, 1) := by decide +kernel
theorem dX5_copyFrom_29 : decode cX5_copyFrom 29 = .ok (.getfield 19, 3) := by decide +kernel
theorem dX5_copyFrom_32 : decode cX5_copyFrom 32 = .ok (.iconst 0, 1) := by decide +kernel
theorem dX5_copyFrom_33 : decode cX5_copyFrom 33 = .ok (.bipush 20, 2) := by decide +kernel
theorem dX5_copyFrom_35 : decode cX5_copyFrom 35 = .ok (.invokestatic 64, 3) := by decide +kernel
theorem dX5_copyFrom_38 : decode cX5_copyFrom 38 = .ok (.aload_n 1, 1) := by decide +kernel
theorem dX5_copyFrom_39 : decode cX5_copyFrom 39 = .ok (.getfield 22, 3) := by decide +kernel
theorem dX5_copyFrom_42 : decode cX5_copyFrom 42 = .ok (.iconst 0, 1) := by decide +kernel
theorem dX5_copyFrom_43 : decode cX5_copyFrom 43 = .ok (.aload_n 0, 1) := by decide +kernel
theorem dX5_copyFrom_44 : decode cX5_copyFrom 44 = .ok (.getfield 22, 3) := by decide +kernel
theorem dX5_copyFrom_47 : decode cX5_copyFrom 47 = .ok (.iconst 0, 1) := by decide +kernel
theorem dX5_copyFrom_48 : decode cX5_copyFrom 48 = .ok (.bipush 20, 2) := by decide +kernel
theorem dX5_copyFrom_50 : decode cX5_copyFrom 50 = .ok (.invokestatic 64, 3) := by decide +kernel
theorem dX5_copyFrom_53 : decode cX5_copyFrom 53 = .ok (.aload_n 1, 1) := by decide +kernel
theorem dX5_copyFrom_54 : decode cX5_copyFrom 54 = .ok (.getfield 25, 3) := by decide +kernel
theorem dX5_copyFrom_57 : decode cX5_copyFrom 57 = .ok (.iconst 0, 1) := by decide +kernel
theorem dX5_copyFrom_58 : decode cX5_copyFrom 58 = .ok (.aload_n 0, 1) := by decide +kernel
theorem dX5_copyFrom_59 : decode cX5_copyFrom 59 = .ok (.getfield 25, 3) := by decide +kernel
theorem dX5_copyFrom_62 : decode cX5_copyFrom 62 = .ok (.iconst 0, 1) := by decide +kernel
theorem dX5_copyFrom_63 : decode cX5_copyFrom 63 = .ok (.bipush 20, 2) := by decide +kernel
theorem dX5_copyFrom_65 : decode cX5_copyFrom 65 = .ok (.invokestatic 64, 3) := by decide +kernel
theorem dX5_copyFrom_68 : decode cX5_copyFrom 68 = .ok (.aload_n 1, 1) := by decide +kernel
theorem dX5_copyFrom_69 : decode cX5_copyFrom 69 = .ok (.getfield 28, 3) := by decide +kernel
theorem dX5_copyFrom_72 : decode cX5_copyFrom 72 = .ok (.iconst 0, 1) := by decide +kernel
theorem dX5_copyFrom_73 : decode cX5_copyFrom 73 = .ok (.aload_n 0, 1) := by decide +kernel
theorem dX5_copyFrom_74 : decode cX5_copyFrom 74 = .ok (.getfield 28, 3) := by decide +kernel
theorem dX5_copyFrom_77 : decode cX5_copyFrom 77 = .ok (.iconst 0, 1) := by decide +kernel
theorem dX5_copyFrom_78 : decode cX5_copyFrom 78 = .ok (.bipush 20, 2) := by decide +kernel
theorem dX5_copyFrom_80 : decode cX5_copyFrom 80 = .ok (.invokestatic 64, 3) := by decide +kernel
theorem dX5_copyFrom_83 : decode cX5_copyFrom 83 = .ok (.aload_n 1, 1) := by decide +kernel
theorem dX5_copyFrom_84 : decode cX5_copyFrom 84 = .ok (.getfield 31, 3) := by decide +kernel
theorem dX5_copyFrom_87 : decode cX5_copyFrom 87 = .ok (.iconst 0, 1) := by decide +kernel
theorem dX5_copyFrom_88 : decode cX5_copyFrom 88 = .ok (.aload_n 0, 1) := by decide +kernel
theorem dX5_copyFrom_89 : decode cX5_copyFrom 89 = .ok (.getfield 31, 3) := by decide +kernel
theorem dX5_copyFrom_92 : decode cX5_copyFrom 92 = .ok (.iconst 0, 1) := by decide +kernel
theorem dX5_copyFrom_93 : decode cX5_copyFrom 93 = .ok (.bipush 20, 2) := by decide +kernel
theorem dX5_copyFrom_95 : decode cX5_copyFrom 95 = .ok (.invokestatic 64, 3) := by decide +kernel
theorem dX5_copyFrom_98 : decode cX5_copyFrom 98 = .ok (.aload_n 1, 1) := by decide +kernel
theorem dX5_copyFrom_99 : decode cX5_copyFrom 99 = .ok (.getfield 34, 3) := by decide +kernel
theorem dX5_copyFrom_102 : decode cX5_copyFrom 102 = .ok (.iconst 0, 1) := by decide +kernel
theorem dX5_copyFrom_103 : decode cX5_copyFrom 103 = .ok (.aload_n 0, 1) := by decide +kernel
theorem dX5_copyFrom_104 : decode cX5_copyFrom 104 = .ok (.getfield 34, 3) := by decide +kernel
theorem dX5_copyFrom_107 : decode cX5_copyFrom 107 = .ok (.iconst 0, 1) := by decide +kernel
theorem dX5_copyFrom_108 : decode cX5_copyFrom 108 = .ok (.bipush 20, 2) := by decide +kernel
theorem dX5_copyFrom_110 : decode cX5_copyFrom 110 = .ok (.invokestatic 64, 3) := by decide +kernel
theorem dX5_copyFrom_113 : decode cX5_copyFrom 113 = .ok (.aload_n 1, 1) := by decide +kernel
theorem dX5_copyFrom_114 : decode cX5_copyFrom 114 = .ok (.getfield 37, 3) := by decide +kernel
theorem dX5_copyFrom_117 : decode cX5_copyFrom 117 = .ok (.iconst 0, 1) := by decide +kernel
theorem dX5_copyFrom_118 : decode cX5_copyFrom 118 = .ok (.aload_n 0, 1) := by decide +kernel
theorem dX5_copyFrom_119 : decode cX5_copyFrom 119 = .ok (.getfield 37, 3) := by decide +kernel
theorem dX5_copyFrom_122 : decode cX5_copyFrom 122 = .ok (.iconst 0, 1) := by decide +kernel
theorem dX5_copyFrom_123 : decode cX5_copyFrom 123 = .ok (.bipush 20, 2) := by decide +kernel
theorem dX5_copyFrom_125 : decode cX5_copyFrom 125 = .ok (.invokestatic 64, 3) := by decide +kernel
theorem dX5_copyFrom_128 : decode cX5_copyFrom 128 = .ok (.aload_n 1, 1) := by decide +kernel
theorem dX5_copyFrom_129 : decode cX5_copyFrom 129 = .ok (.getfield 40, 3) := by decide +kernel
theorem dX5_copyFrom_132 : decode cX5_copyFrom 132 = .ok (.iconst 0, 1) := by decide +kernel
theorem dX5_copyFrom_133 : decode cX5_copyFrom 133 = .ok (.aload_n 0, 1) := by decide +kernel
theorem dX5_copyFrom_134 : decode cX5_copyFrom 134 = .ok (.getfield 40, 3) := by decide +kernel
theorem dX5_copyFrom_137 : decode cX5_copyFrom 137 = .ok (.iconst 0, 1) := by decide +kernel
theorem dX5_copyFrom_138 : decode cX5_copyFrom 138 = .ok (.bipush 20, 2) := by decide +kernel
theorem dX5_copyFrom_140 : decode cX5_copyFrom 140 = .ok (.invokestatic 64, 3) := by decide +kernel
theorem dX5_copyFrom_143 : decode cX5_copyFrom 143 = .ok (.return_, 1) := by decide +kernel
set_option maxRecDepth 20000 in
theorem ggX5_hasLikeBefore_X5_sameGrade : GoodIn wsX5_hasLikeBefore wsX5_sameGrade := goodIn_r _ [6, 7, 8, 9, 10, 11, 5, 12, 13, 14, 15, 16, 17, 18, 19, 20, 21, 22, 23] (by decide +kernel) (by decide +kernel)
set_option maxRecDepth 20000 in
theorem gX5_hasLikeBefore_X5_sameGrade : GoodIn wsX5_hasLikeBefore (wsV RX5 56 RX5 yX5_sameGrade wsX5_sameGrade) := goodIn_app (goodIn_of _ (by decide +kernel)) ggX5_hasLikeBefore_X5_sameGrade
theorem dX5_hasLikeBefore_0 : decode cX5_hasLikeBefore 0 = .ok (.iconst 0, 1) := by decide +kernel
theorem dX5_hasLikeBefore_1 : decode cX5_hasLikeBefore 1 = .ok (.istore_n 3, 1) := by decide +kernel
theorem dX5_hasLikeBefore_2 : decode cX5_hasLikeBefore 2 = .ok (.iload_n 3, 1) := by decide +kernel
theorem dX5_hasLikeBefore_3 : decode cX5_hasLikeBefore 3 = .ok (.iload_n 1, 1) := by decide +kernel
theorem dX5_hasLikeBefore_4 : decode cX5_hasLikeBefore 4 = .ok (.if_icmp .ge 30, 3) := by decide +kernel
theorem dX5_hasLikeBefore_7 : decode cX5_hasLikeBefore 7 = .ok (.aload_n 0, 1) := by decide +kernel
theorem dX5_hasLikeBefore_8 : decode cX5_hasLikeBefore 8 = .ok (.getfield 28, 3) := by decide +kernel
theorem dX5_hasLikeBefore_11 : decode cX5_hasLikeBefore 11 = .ok (.iload_n 3, 1) := by decide +kernel
theorem dX5_hasLikeBefore_12 : decode cX5_hasLikeBefore 12 = .ok (.iaload, 1) := by decide +kernel
theorem dX5_hasLikeBefore_13 : decode cX5_hasLikeBefore 13 = .ok (.iload_n 2, 1) := by decide +kernel
theorem dX5_hasLikeBefore_14 : decode cX5_hasLikeBefore 14 = .ok (.if_icmp .ne 14, 3) := by decide +kernel
theorem dX5_hasLikeBefore_17 : decode cX5_hasLikeBefore 17 = .ok (.aload_n 0, 1) := by decide +kernel
theorem dX5_hasLikeBefore_18 : decode cX5_hasLikeBefore 18 = .ok (.iload_n 3, 1) := by decide +kernel
theorem dX5_hasLikeBefore_19 : decode cX5_hasLikeBefore 19 = .ok (.iload_n 1, 1) := by decide +kernel
theorem dX5_hasLikeBefore_20 : decode cX5_hasLikeBefore 20 = .ok (.invokevirtual 56, 3) := by decide +kernel
theorem dX5_hasLikeBefore_23 : decode cX5_hasLikeBefore 23 = .ok (.ifCond .eq 5, 3) := by decide +kernel
theorem dX5_hasLikeBefore_26 : decode cX5_hasLikeBefore 26 = .ok (.iconst 1, 1) := by decide +kernel
