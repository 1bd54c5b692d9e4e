theorem dX7_lends_0 : decode cX7_lends 0 = .ok (.aload_n 0, 1) := by decide +kernel
theorem dX7_lends_1 : decode cX7_lends 1 = .ok (.iload_n 1, 1) := by decide +kernel
theorem dX7_lends_2 : decode cX7_lends 2 = .ok (.invokevirtual 62, 3) := by decide +kernel
theorem dX7_lends_5 : decode cX7_lends 5 = .ok (.ifCond .eq 49, 3) := by decide +kernel
theorem dX7_lends_8 : decode cX7_lends 8 = .ok (.aload_n 0, 1) := by decide +kernel
theorem dX7_lends_9 : decode cX7_lends 9 = .ok (.iload_n 2, 1) := by decide +kernel
theorem dX7_lends_10 : decode cX7_lends 10 = .ok (.invokevirtual 62, 3) := by decide +kernel
theorem dX7_lends_13 : decode cX7_lends 13 = .ok (.ifCond .eq 41, 3) := by decide +kernel
theorem dX7_lends_16 : decode cX7_lends 16 = .ok (.iload_n 1, 1) := by decide +kernel
theorem dX7_lends_17 : decode cX7_lends 17 = .ok (.iload_n 2, 1) := by decide +kernel
theorem dX7_lends_18 : decode cX7_lends 18 = .ok (.if_icmp .eq 36, 3) := by decide +kernel
theorem dX7_lends_21 : decode cX7_lends 21 = .ok (.iload_n 3, 1) := by decide +kernel
theorem dX7_lends_22 : decode cX7_lends 22 = .ok (.iconst 1, 1) := by decide +kernel
theorem dX7_lends_23 : decode cX7_lends 23 = .ok (.bipush 90, 2) := by decide +kernel
theorem dX7_lends_25 : decode cX7_lends 25 = .ok (.invokestatic 36, 3) := by decide +kernel
theorem dX7_lends_28 : decode cX7_lends 28 = .ok (.ifCond .eq 26, 3) := by decide +kernel
theorem dX7_lends_31 : decode cX7_lends 31 = .ok (.iload 4, 2) := by decide +kernel
theorem dX7_lends_33 : decode cX7_lends 33 = .ok (.iconst 1, 1) := by decide +kernel
theorem dX7_lends_34 : decode cX7_lends 34 = .ok (.iconst 1, 1) := by decide +kernel
theorem dX7_lends_35 : decode cX7_lends 35 = .ok (.aload_n 0, 1) := by decide +kernel
theorem dX7_lends_36 : decode cX7_lends 36 = .ok (.getfield 7, 3) := by decide +kernel
theorem dX7_lends_39 : decode cX7_lends 39 = .ok (.iconst 1, 1) := by decide +kernel
theorem dX7_lends_40 : decode cX7_lends 40 = .ok (.iaload, 1) := by decide +kernel
theorem dX7_lends_41 : decode cX7_lends 41 = .ok (.ishl, 1) := by decide +kernel
theorem dX7_lends_42 : decode cX7_lends 42 = .ok (.iconst 1, 1) := by decide +kernel
theorem dX7_lends_43 : decode cX7_lends 43 = .ok (.isub, 1) := by decide +kernel
theorem dX7_lends_44 : decode cX7_lends 44 = .ok (.invokestatic 36, 3) := by decide +kernel
theorem dX7_lends_47 : decode cX7_lends 47 = .ok (.ifCond .eq 7, 3) := by decide +kernel
theorem dX7_lends_50 : decode cX7_lends 50 = .ok (.iconst 1, 1) := by decide +kernel
theorem dX7_lends_51 : decode cX7_lends 51 = .ok (.goto 4, 3) := by decide +kernel
theorem dX7_lends_54 : decode cX7_lends 54 = .ok (.iconst 0, 1) := by decide +kernel
theorem dX7_lends_55 : decode cX7_lends 55 = .ok (.istore 5, 2) := by decide +kernel
theorem dX7_lends_57 : decode cX7_lends 57 = .ok (.iload 5, 2) := by decide +kernel
theorem dX7_lends_59 : decode cX7_lends 59 = .ok (.ifCond .ne 6, 3) := by decide +kernel
theorem dX7_lends_62 : decode cX7_lends 62 = .ok (.ldc 28, 2) := by decide +kernel
theorem dX7_lends_64 : decode cX7_lends 64 = .ok (.ireturn, 1) := by decide +kernel
theorem dX7_lends_65 : decode cX7_lends 65 = .ok (.aload_n 0, 1) := by decide +kernel
theorem dX7_lends_66 : decode cX7_lends 66 = .ok (.iload_n 1, 1) := by decide +kernel
theorem dX7_lends_67 : decode cX7_lends 67 = .ok (.iload 4, 2) := by decide +kernel
theorem dX7_lends_69 : decode cX7_lends 69 = .ok (.invokevirtual 65, 3) := by decide +kernel
theorem dX7_lends_72 : decode cX7_lends 72 = .ok (.ifCond .ne 6, 3) := by decide +kernel
theorem dX7_lends_75 : decode cX7_lends 75 = .ok (.ldc 69, 2) := by decide +kernel
theorem dX7_lends_77 : decode cX7_lends 77 = .ok (.ireturn, 1) := by decide +kernel
theorem dX7_lends_78 : decode cX7_lends 78 = .ok (.aload_n 0, 1) := by decide +kernel
theorem dX7_lends_79 : decode cX7_lends 79 = .ok (.getfield 7, 3) := by decide +kernel
theorem dX7_lends_82 : decode cX7_lends 82 = .ok (.iconst 2, 1) := by decide +kernel
theorem dX7_lends_83 : decode cX7_lends 83 = .ok (.iaload, 1) := by decide +kernel
theorem dX7_lends_84 : decode cX7_lends 84 = .ok (.bipush 10, 2) := by decide +kernel
theorem dX7_lends_86 : decode cX7_lends 86 = .ok (.if_icmp .ne 6, 3) := by decide +kernel
theorem dX7_lends_89 : decode cX7_lends 89 = .ok (.ldc 70, 2) := by decide +kernel
theorem dX7_lends_91 : decode cX7_lends 91 = .ok (.ireturn, 1) := by decide +kernel
theorem dX7_lends_92 : decode cX7_lends 92 = .ok (.aload_n 0, 1) := by decide +kernel
theorem dX7_lends_93 : decode cX7_lends 93 = .ok (.getfield 7, 3) := by decide +kernel
theorem dX7_lends_96 : decode cX7_lends 96 = .ok (.iconst 2, 1) := by decide +kernel
theorem dX7_lends_97 : decode cX7_lends 97 = .ok (.iaload, 1) := by decide +kernel
theorem dX7_lends_98 : decode cX7_lends 98 = .ok (.istore 6, 2) := by decide +kernel
theorem dX7_lends_100 : decode cX7_lends 100 = .ok (.aload_n 0, 1) := by decide +kernel
theorem dX7_lends_101 : decode cX7_lends 101 = .ok (.getfield 7, 3) := by decide +kernel
theorem dX7_lends_104 : decode cX7_lends 104 = .ok (.iconst 2, 1) := by decide +kernel
theorem dX7_lends_105 : decode cX7_lends 105 = .ok (.dup2, 1) := by decide +kernel
theorem dX7_lends_106 : decode cX7_lends 106 = .ok (.iaload, 1) := by decide +kernel
theorem dX7_lends_107 : decode cX7_lends 107 = .ok (.iconst 1, 1) := by decide +kernel
theorem dX7_lends_108 : decode cX7_lends 108 = .ok (.iadd, 1) := by decide +kernel
theorem dX7_lends_109 : decode cX7_lends 109 = .ok (.iastore, 1) := by decide +kernel
theorem dX7_lends_110 : decode cX7_lends 110 = .ok (.sipush 214, 3) := by decide +kernel
theorem dX7_lends_113 : decode cX7_lends 113 = .ok (.iconst 5, 1) := by decide +kernel
theorem dX7_lends_114 : decode cX7_lends 114 = .ok (.iload 6, 2) := by decide +kernel
theorem dX7_lends_116 : decode cX7_lends 116 = .ok (.imul, 1) := by decide +kernel
theorem dX7_lends_117 : decode cX7_lends 117 = .ok (.iadd, 1) := by decide +kernel
theorem dX7_lends_118 : decode cX7_lends 118 = .ok (.istore 7, 2) := by decide +kernel
theorem dX7_lends_120 : decode cX7_lends 120 = .ok (.aload_n 0, 1) := by decide +kernel
theorem dX7_lends_121 : decode cX7_lends 121 = .ok (.getfield 7, 3) := by decide +kernel
theorem dX7_lends_124 : decode cX7_lends 124 = .ok (.iload 7, 2) := by decide +kernel
theorem dX7_lends_126 : decode cX7_lends 126 = .ok (.iconst 0, 1) := by decide +kernel
theorem dX7_lends_127 : decode cX7_lends 127 = .ok (.iadd, 1) := by decide +kernel
theorem dX7_lends_128 : decode cX7_lends 128 = .ok (.iload_n 1, 1) := by decide +kernel
theorem dX7_lends_129 : decode cX7_lends 129 = .ok (.iastore, 1) := by decide +kernel
theorem dX7_lends_130 : decode cX7_lends 130 = .ok (.aload_n 0, 1) := by decide +kernel
theorem dX7_lends_131 : decode cX7_lends 131 = .ok (.getfield 7, 3) := by decide +kernel
theorem dX7_lends_134 : decode cX7_lends 134 = .ok (.iload 7, 2) := by decide +kernel
theorem dX7_lends_136 : decode cX7_lends 136 = .ok (.iconst 1, 1) := by decide +kernel
theorem dX7_lends_137 : decode cX7_lends 137 = .ok (.iadd, 1) := by decide +kernel
theorem dX7_lends_138 : decode cX7_lends 138 = .ok (.iload_n 2, 1) := by decide +kernel
theorem dX7_lends_139 : decode cX7_lends 139 = .ok (.iastore, 1) := by decide +kernel
theorem dX7_lends_140 : decode cX7_lends 140 = .ok (.aload_n 0, 1) := by decide +kernel
theorem dX7_lends_141 : decode cX7_lends 141 = .ok (.getfield 7, 3) := by decide +kernel
theorem dX7_lends_144 : decode cX7_lends 144 = .ok (.iload 7, 2) := by decide +kernel
theorem dX7_lends_146 : decode cX7_lends 146 = .ok (.iconst 2, 1) := by decide +kernel
theorem dX7_lends_147 : decode cX7_lends 147 = .ok (.iadd, 1) := by decide +kernel
theorem dX7_lends_148 : decode cX7_lends 148 = .ok (.aload_n 0, 1) := by decide +kernel
theorem dX7_lends_149 : decode cX7_lends 149 = .ok (.getfield 7, 3) := by decide +kernel
theorem dX7_lends_152 : decode cX7_lends 152 = .ok (.iconst 3, 1) := by decide +kernel
theorem dX7_lends_153 : decode cX7_lends 153 = .ok (.iaload, 1) := by decide +kernel
theorem dX7_lends_154 : decode cX7_lends 154 = .ok (.iload_n 3, 1) := by decide +kernel
theorem dX7_lends_155 : decode cX7_lends 155 = .ok (.iadd, 1) := by decide +kernel
theorem dX7_lends_156 : decode cX7_lends 156 = .ok (.iastore, 1) := by decide +kernel
theorem dX7_lends_157 : decode cX7_lends 157 = .ok (.aload_n 0, 1) := by decide +kernel
theorem dX7_lends_158 : decode cX7_lends 158 = .ok (.getfield 7, 3) := by decide +kernel
theorem dX7_lends_161 : decode cX7_lends 161 = .ok (.iload 7, 2) := by decide +kernel
theorem dX7_lends_163 : decode cX7_lends 163 = .ok (.iconst 3, 1) := by decide +kernel
theorem dX7_lends_164 : decode cX7_lends 164 = .ok (.iadd, 1) := by decide +kernel
theorem dX7_lends_165 : decode cX7_lends 165 = .ok (.iload 4, 2) := by decide +kernel
theorem dX7_lends_167 : decode cX7_lends 167 = .ok (.iastore, 1) := by decide +kernel
theorem dX7_lends_168 : decode cX7_lends 168 = .ok (.aload_n 0, 1) := by decide +kernel
theorem dX7_lends_169 : decode cX7_lends 169 = .ok (.getfield 7, 3) := by decide +kernel
theorem dX7_lends_172 : decode cX7_lends 172 = .ok (.iload 7, 2) := by decide +kernel
theorem dX7_lends_174 : decode cX7_lends 174 = .ok (.iconst 4, 1) := by decide +kernel
theorem dX7_lends_175 : decode cX7_lends 175 = .ok (.iadd, 1) := by decide +kernel
theorem dX7_lends_176 : decode cX7_lends 176 = .ok (.iconst 0, 1) := by decide +kernel
theorem dX7_lends_177 : decode cX7_lends 177 = .ok (.iastore, 1) := by decide +kernel
theorem dX7_lends_178 : decode cX7_lends 178 = .ok (.iconst 0, 1) := by decide +kernel
theorem dX7_lends_179 : decode cX7_lends 179 = .ok (.istore 8, 2) := by decide +kernel
theorem dX7_lends_181 : decode cX7_lends 181 = .ok (.iload 8, 2) := by decide +kernel
theorem dX7_lends_183 : decode cX7_lends 183 = .ok (.aload_n 0, 1) := by decide +kernel
theorem dX7_lends_184 : decode cX7_lends 184 = .ok (.getfield 7, 3) := by decide +kernel
theorem dX7_lends_187 : decode cX7_lends 187 = .ok (.iconst 1, 1) := by decide +kernel
theorem dX7_lends_188 : decode cX7_lends 188 = .ok (.iaload, 1) := by decide +kernel
theorem dX7_lends_189 : decode cX7_lends 189 = .ok (.if_icmp .ge 51, 3) := by decide +kernel
theorem dX7_lends_192 : decode cX7_lends 192 = .ok (.iload 4, 2) := by decide +kernel
theorem dX7_lends_194 : decode cX7_lends 194 = .ok (.iload 8, 2) := by decide +kernel
theorem dX7_lends_196 : decode cX7_lends 196 = .ok (.ishr, 1) := by decide +kernel
theorem dX7_lends_197 : decode cX7_lends 197 = .ok (.iconst 1, 1) := by decide +kernel
theorem dX7_lends_198 : decode cX7_lends 198 = .ok (.iand, 1) := by decide +kernel
theorem dX7_lends_199 : decode cX7_lends 199 = .ok (.iconst 1, 1) := by decide +kernel
theorem dX7_lends_200 : decode cX7_lends 200 = .ok (.if_icmp .ne 34, 3) := by decide +kernel
theorem dX7_lends_203 : decode cX7_lends 203 = .ok (.aload_n 0, 1) := by decide +kernel
theorem dX7_lends_204 : decode cX7_lends 204 = .ok (.iload 8, 2) := by decide +kernel
theorem dX7_lends_206 : decode cX7_lends 206 = .ok (.iconst 4, 1) := by decide +kernel
theorem dX7_lends_207 : decode cX7_lends 207 = .ok (.iload_n 2, 1) := by decide +kernel
theorem dX7_lends_208 : decode cX7_lends 208 = .ok (.invokevirtual 71, 3) := by decide +kernel
theorem dX7_lends_211 : decode cX7_lends 211 = .ok (.aload_n 0, 1) := by decide +kernel
theorem dX7_lends_212 : decode cX7_lends 212 = .ok (.iload 8, 2) := by decide +kernel
theorem dX7_lends_214 : decode cX7_lends 214 = .ok (.iconst 5, 1) := by decide +kernel
theorem dX7_lends_215 : decode cX7_lends 215 = .ok (.iload 6, 2) := by decide +kernel
theorem dX7_lends_217 : decode cX7_lends 217 = .ok (.invokevirtual 71, 3) := by decide +kernel
theorem dX7_lends_220 : decode cX7_lends 220 = .ok (.aload_n 0, 1) := by decide +kernel
theorem dX7_lends_221 : decode cX7_lends 221 = .ok (.iload 8, 2) := by decide +kernel
theorem dX7_lends_223 : decode cX7_lends 223 = .ok (.bipush 6, 2) := by decide +kernel
theorem dX7_lends_225 : decode cX7_lends 225 = .ok (.aload_n 0, 1) := by decide +kernel
theorem dX7_lends_226 : decode cX7_lends 226 = .ok (.iload 8, 2) := by decide +kernel
theorem dX7_lends_228 : decode cX7_lends 228 = .ok (.invokevirtual 59, 3) := by decide +kernel
theorem dX7_lends_231 : decode cX7_lends 231 = .ok (.invokevirtual 71, 3) := by decide +kernel
theorem dX7_lends_234 : decode cX7_lends 234 = .ok (.iinc 8 1, 3) := by decide +kernel
theorem dX7_lends_237 : decode cX7_lends 237 = .ok (.goto (-56), 3) := by decide +kernel
theorem dX7_lends_240 : decode cX7_lends 240 = .ok (.iload 6, 2) := by decide +kernel
theorem dX7_lends_242 : decode cX7_lends 242 = .ok (.ireturn, 1) := by decide +kernel
set_option maxRecDepth 20000 in
theorem ggX7_gives_X7_isStone : GoodIn wsX7_gives wsX7_isStone := goodIn_r _ [7, 8, 9, 10, 6, 11, 31, 32, 33, 34, 35, 36, 37, 38, 39, 40, 41, 42, 43] (by decide +kernel) (by decide +kernel)
set_option maxRecDepth 20000 in
theorem gX7_gives_X7_isStone : GoodIn wsX7_gives (wsV RX7 75 RX7 yX7_isStone wsX7_isStone) := goodIn_app (goodIn_of _ (by decide +kernel)) ggX7_gives_X7_isStone
set_option maxRecDepth 20000 in
theorem ggX7_gives_X7_isOut : GoodIn wsX7_gives wsX7_isOut := goodIn_r _ [15, 16, 17, 18, 6, 19, 8, 31, 32, 33, 34, 35, 36, 37, 38, 39, 40, 41, 42, 43] (by decide +kernel) (by decide +kernel)
set_option maxRecDepth 20000 in
theorem gX7_gives_X7_isOut : GoodIn wsX7_gives (wsV RX7 55 RX7 yX7_isOut wsX7_isOut) := goodIn_app (goodIn_of _ (by decide +kernel)) ggX7_gives_X7_isOut
set_option maxRecDepth 20000 in
theorem ggX7_gives_X7_ofStone : GoodIn wsX7_gives wsX7_ofStone := goodIn_r _ [19, 8, 31, 32, 33, 34, 35, 36, 37, 38, 39, 40, 41, 42, 43] (by decide +kernel) (by decide +kernel)
set_option maxRecDepth 20000 in
theorem gX7_gives_X7_ofStone : GoodIn wsX7_gives (wsV RX7 40 RX7 yX7_ofStone wsX7_ofStone) := goodIn_app (goodIn_of _ (by decide +kernel)) ggX7_gives_X7_ofStone
set_option maxRecDepth 20000 in
theorem ggX7_gives_X7_setStone : GoodIn wsX7_gives wsX7_setStone := goodIn_r _ [23, 8, 31, 32, 33, 34, 35, 36, 37, 38, 39, 40, 41, 42, 43] (by decide +kernel) (by decide +kernel)
set_option maxRecDepth 20000 in
theorem gX7_gives_X7_setStone : GoodIn wsX7_gives (wsV RX7 71 RX7 yX7_setStone wsX7_setStone) := goodIn_app (goodIn_of _ (by decide +kernel)) ggX7_gives_X7_setStone
set_option maxRecDepth 20000 in
theorem ggX7_gives_X7_outBy : GoodIn wsX7_gives wsX7_outBy := goodIn_r _ [27, 8, 16, 17, 18, 6, 19, 31, 32, 33, 34, 35, 36, 37, 38, 39, 40, 41, 42, 43] (by decide +kernel) (by decide +kernel)
set_option maxRecDepth 20000 in
theorem gX7_gives_X7_outBy : GoodIn wsX7_gives (wsV RX7 78 RX7 yX7_outBy wsX7_outBy) := goodIn_app (goodIn_of _ (by decide +kernel)) ggX7_gives_X7_outBy
set_option maxRecDepth 20000 in
theorem ggX7_gives_X7_ones : GoodIn wsX7_gives wsX7_ones := goodIn_r _ [30] (by decide +kernel) (by decide +kernel)
set_option maxRecDepth 20000 in
theorem gX7_gives_X7_ones : GoodIn wsX7_gives (va_wsS RX7 81 yX7_ones wsX7_ones) := goodIn_app (goodIn_of _ (by decide +kernel)) ggX7_gives_X7_ones
theorem dX7_gives_0 : decode cX7_gives 0 = .ok (.aload_n 0, 1) := by decide +kernel
theorem dX7_gives_1 : decode cX7_gives 1 = .ok (.iload_n 1, 1) := by decide +kernel
theorem dX7_gives_2 : decode cX7_gives 2 = .ok (.invokevirtual 75, 3) := by decide +kernel
theorem dX7_gives_5 : decode cX7_gives 5 = .ok (.ifCond .ne 6, 3) := by decide +kernel
theorem dX7_gives_8 : decode cX7_gives 8 = .ok (.ldc 28, 2) := by decide +kernel
theorem dX7_gives_10 : decode cX7_gives 10 = .ok (.ireturn, 1) := by decide +kernel
theorem dX7_gives_11 : decode cX7_gives 11 = .ok (.aload_n 0, 1) := by decide +kernel
theorem dX7_gives_12 : decode cX7_gives 12 = .ok (.iload_n 1, 1) := by decide +kernel
theorem dX7_gives_13 : decode cX7_gives 13 = .ok (.invokevirtual 55, 3) := by decide +kernel
theorem dX7_gives_16 : decode cX7_gives 16 = .ok (.ifCond .ne 6, 3) := by decide +kernel
theorem dX7_gives_19 : decode cX7_gives 19 = .ok (.ldc 69, 2) := by decide +kernel
theorem dX7_gives_21 : decode cX7_gives 21 = .ok (.ireturn, 1) := by decide +kernel
theorem dX7_gives_22 : decode cX7_gives 22 = .ok (.aload_n 0, 1) := by decide +kernel
theorem dX7_gives_23 : decode cX7_gives 23 = .ok (.iload_n 1, 1) := by decide +kernel
theorem dX7_gives_24 : decode cX7_gives 24 = .ok (.iconst 5, 1) := by decide +kernel
theorem dX7_gives_25 : decode cX7_gives 25 = .ok (.invokevirtual 40, 3) := by decide +kernel
theorem dX7_gives_28 : decode cX7_gives 28 = .ok (.istore_n 2, 1) := by decide +kernel
theorem dX7_gives_29 : decode cX7_gives 29 = .ok (.aload_n 0, 1) := by decide +kernel
theorem dX7_gives_30 : decode cX7_gives 30 = .ok (.iload_n 1, 1) := by decide +kernel
theorem dX7_gives_31 : decode cX7_gives 31 = .ok (.iconst 4, 1) := by decide +kernel
theorem dX7_gives_32 : decode cX7_gives 32 = .ok (.aload_n 0, 1) := by decide +kernel
theorem dX7_gives_33 : decode cX7_gives 33 = .ok (.iload_n 1, 1) := by decide +kernel
theorem dX7_gives_34 : decode cX7_gives 34 = .ok (.iconst 3, 1) := by decide +kernel
theorem dX7_gives_35 : decode cX7_gives 35 = .ok (.invokevirtual 40, 3) := by decide +kernel
theorem dX7_gives_38 : decode cX7_gives 38 = .ok (.invokevirtual 71, 3) := by decide +kernel
theorem dX7_gives_41 : decode cX7_gives 41 = .ok (.aload_n 0, 1) := by decide +kernel
theorem dX7_gives_42 : decode cX7_gives 42 = .ok (.iload_n 1, 1) := by decide +kernel
theorem dX7_gives_43 : decode cX7_gives 43 = .ok (.iconst 5, 1) := by decide +kernel
theorem dX7_gives_44 : decode cX7_gives 44 = .ok (.iconst (-1), 1) := by decide +kernel
theorem dX7_gives_45 : decode cX7_gives 45 = .ok (.invokevirtual 71, 3) := by decide +kernel
theorem dX7_gives_48 : decode cX7_gives 48 = .ok (.aload_n 0, 1) := by decide +kernel
theorem dX7_gives_49 : decode cX7_gives 49 = .ok (.iload_n 2, 1) := by decide +kernel
theorem dX7_gives_50 : decode cX7_gives 50 = .ok (.invokevirtual 78, 3) := by decide +kernel
theorem dX7_gives_53 : decode cX7_gives 53 = .ok (.invokestatic 81, 3) := by decide +kernel
theorem dX7_gives_56 : decode cX7_gives 56 = .ok (.ireturn, 1) := by decide +kernel
set_option maxRecDepth 20000 in
theorem ggX7_pays_X7_ofStone : GoodIn wsX7_pays wsX7_ofStone := goodIn_r _ [6, 1, 11, 12, 13, 14, 15, 16, 17, 18, 19, 20, 21, 22, 23] (by decide +kernel) (by decide +kernel)
set_option maxRecDepth 20000 in
theorem gX7_pays_X7_ofStone : GoodIn wsX7_pays (wsV RX7 40 RX7 yX7_ofStone wsX7_ofStone) := goodIn_app (goodIn_of _ (by decide +kernel)) ggX7_pays_X7_ofStone
set_option maxRecDepth 20000 in
theorem ggX7_pays_X7_setStone : GoodIn wsX7_pays wsX7_setStone := goodIn_r _ [10, 1, 11, 12, 13, 14, 15, 16, 17, 18, 19, 20, 21, 22, 23] (by decide +kernel) (by decide +kernel)
set_option maxRecDepth 20000 in
theorem gX7_pays_X7_setStone : GoodIn wsX7_pays (wsV RX7 71 RX7 yX7_setStone wsX7_setStone) := goodIn_app (goodIn_of _ (by decide +kernel)) ggX7_pays_X7_setStone
theorem dX7_pays_0 : decode cX7_pays 0 = .ok (.aload_n 0, 1) := by decide +kernel
theorem dX7_pays_1 : decode cX7_pays 1 = .ok (.iload_n 1, 1) := by decide +kernel
theorem dX7_pays_2 : decode cX7_pays 2 = .ok (.iconst 5, 1) := by decide +kernel
theorem dX7_pays_3 : decode cX7_pays 3 = .ok (.invokevirtual 40, 3) := by decide +kernel
theorem dX7_pays_6 : decode cX7_pays 6 = .ok (.istore_n 3, 1) := by decide +kernel
theorem dX7_pays_7 : decode cX7_pays 7 = .ok (.aload_n 0, 1) := by decide +kernel
theorem dX7_pays_8 : decode cX7_pays 8 = .ok (.getfield 7, 3) := by decide +kernel
theorem dX7_pays_11 : decode cX7_pays 11 = .ok (.bipush 8, 2) := by decide +kernel
theorem dX7_pays_13 : decode cX7_pays 13 = .ok (.aload_n 0, 1) := by decide +kernel
theorem dX7_pays_14 : decode cX7_pays 14 = .ok (.iload_n 1, 1) := by decide +kernel
theorem dX7_pays_15 : decode cX7_pays 15 = .ok (.iconst 4, 1) := by decide +kernel
theorem dX7_pays_16 : decode cX7_pays 16 = .ok (.invokevirtual 40, 3) := by decide +kernel
theorem dX7_pays_19 : decode cX7_pays 19 = .ok (.iadd, 1) := by decide +kernel
theorem dX7_pays_20 : decode cX7_pays 20 = .ok (.dup2, 1) := by decide +kernel
theorem dX7_pays_21 : decode cX7_pays 21 = .ok (.iaload, 1) := by decide +kernel
theorem dX7_pays_22 : decode cX7_pays 22 = .ok (.iload_n 2, 1) := by decide +kernel
theorem dX7_pays_23 : decode cX7_pays 23 = .ok (.isub, 1) := by decide +kernel
theorem dX7_pays_24 : decode cX7_pays 24 = .ok (.iastore, 1) := by decide +kernel
theorem dX7_pays_25 : decode cX7_pays 25 = .ok (.aload_n 0, 1) := by decide +kernel
theorem dX7_pays_26 : decode cX7_pays 26 = .ok (.getfield 7, 3) := by decide +kernel
theorem dX7_pays_29 : decode cX7_pays 29 = .ok (.bipush 8, 2) := by decide +kernel
theorem dX7_pays_31 : decode cX7_pays 31 = .ok (.aload_n 0, 1) := by decide +kernel
theorem dX7_pays_32 : decode cX7_pays 32 = .ok (.iload_n 1, 1) := by decide +kernel
theorem dX7_pays_33 : decode cX7_pays 33 = .ok (.iconst 3, 1) := by decide +kernel
theorem dX7_pays_34 : decode cX7_pays 34 = .ok (.invokevirtual 40, 3) := by decide +kernel
theorem dX7_pays_37 : decode cX7_pays 37 = .ok (.iadd, 1) := by decide +kernel
theorem dX7_pays_38 : decode cX7_pays 38 = .ok (.dup2, 1) := by decide +kernel
theorem dX7_pays_39 : decode cX7_pays 39 = .ok (.iaload, 1) := by decide +kernel
theorem dX7_pays_40 : decode cX7_pays 40 = .ok (.iload_n 2, 1) := by decide +kernel
theorem dX7_pays_41 : decode cX7_pays 41 = .ok (.iadd, 1) := by decide +kernel
theorem dX7_pays_42 : decode cX7_pays 42 = .ok (.iastore, 1) := by decide +kernel
theorem dX7_pays_43 : decode cX7_pays 43 = .ok (.aload_n 0, 1) := by decide +kernel
theorem dX7_pays_44 : decode cX7_pays 44 = .ok (.iload_n 1, 1) := by decide +kernel
theorem dX7_pays_45 : decode cX7_pays 45 = .ok (.iconst 3, 1) := by decide +kernel
theorem dX7_pays_46 : decode cX7_pays 46 = .ok (.aload_n 0, 1) := by decide +kernel
theorem dX7_pays_47 : decode cX7_pays 47 = .ok (.iload_n 1, 1) := by decide +kernel
theorem dX7_pays_48 : decode cX7_pays 48 = .ok (.iconst 4, 1) := by decide +kernel
theorem dX7_pays_49 : decode cX7_pays 49 = .ok (.invokevirtual 40, 3) := by decide +kernel
theorem dX7_pays_52 : decode cX7_pays 52 = .ok (.invokevirtual 71, 3) := by decide +kernel
theorem dX7_pays_55 : decode cX7_pays 55 = .ok (.aload_n 0, 1) := by decide +kernel
theorem dX7_pays_56 : decode cX7_pays 56 = .ok (.iload_n 1, 1) := by decide +kernel
theorem dX7_pays_57 : decode cX7_pays 57 = .ok (.iconst 5, 1) := by decide +kernel
theorem dX7_pays_58 : decode cX7_pays 58 = .ok (.iconst (-1), 1) := by decide +kernel
theorem dX7_pays_59 : decode cX7_pays 59 = .ok (.invokevirtual 71, 3) := by decide +kernel
theorem dX7_pays_62 : decode cX7_pays 62 = .ok (.aload_n 0, 1) := by decide +kernel
theorem dX7_pays_63 : decode cX7_pays 63 = .ok (.iload_n 1, 1) := by decide +kernel
theorem dX7_pays_64 : decode cX7_pays 64 = .ok (.bipush 8, 2) := by decide +kernel
theorem dX7_pays_66 : decode cX7_pays 66 = .ok (.aload_n 0, 1) := by decide +kernel
theorem dX7_pays_67 : decode cX7_pays 67 = .ok (.iload_n 1, 1) := by decide +kernel
theorem dX7_pays_68 : decode cX7_pays 68 = .ok (.bipush 8, 2) := by decide +kernel
theorem dX7_pays_70 : decode cX7_pays 70 = .ok (.invokevirtual 40, 3) := by decide +kernel
theorem dX7_pays_73 : decode cX7_pays 73 = .ok (.iconst 1, 1) := by decide +kernel
theorem dX7_pays_74 : decode cX7_pays 74 = .ok (.iadd, 1) := by decide +kernel
theorem dX7_pays_75 : decode cX7_pays 75 = .ok (.invokevirtual 71, 3) := by decide +kernel
theorem dX7_pays_78 : decode cX7_pays 78 = .ok (.aload_n 0, 1) := by decide +kernel
theorem dX7_pays_79 : decode cX7_pays 79 = .ok (.getfield 7, 3) := by decide +kernel
theorem dX7_pays_82 : decode cX7_pays 82 = .ok (.sipush 214, 3) := by decide +kernel
theorem dX7_pays_85 : decode cX7_pays 85 = .ok (.iconst 5, 1) := by decide +kernel
theorem dX7_pays_86 : decode cX7_pays 86 = .ok (.iload_n 3, 1) := by decide +kernel
theorem dX7_pays_87 : decode cX7_pays 87 = .ok (.imul, 1) := by decide +kernel
theorem dX7_pays_88 : decode cX7_pays 88 = .ok (.iadd, 1) := by decide +kernel
theorem dX7_pays_89 : decode cX7_pays 89 = .ok (.iconst 4, 1) := by decide +kernel
theorem dX7_pays_90 : decode cX7_pays 90 = .ok (.iadd, 1) := by decide +kernel
theorem dX7_pays_91 : decode cX7_pays 91 = .ok (.dup2, 1) := by decide +kernel
theorem dX7_pays_92 : decode cX7_pays 92 = .ok (.iaload, 1) := by decide +kernel
theorem dX7_pays_93 : decode cX7_pays 93 = .ok (.iconst 1, 1) := by decide +kernel
theorem dX7_pays_94 : decode cX7_pays 94 = .ok (.iadd, 1) := by decide +kernel
theorem dX7_pays_95 : decode cX7_pays 95 = .ok (.iastore, 1) := by decide +kernel
theorem dX7_pays_96 : decode cX7_pays 96 = .ok (.return_, 1) := by decide +kernel
set_option maxRecDepth 20000 in
theorem ggX7_keeps_X7_isStone : GoodIn wsX7_keeps wsX7_isStone := goodIn_r _ [7, 8, 9, 10, 6, 11, 28, 29, 30, 31, 32, 33, 34, 35, 36, 37, 38, 39, 40] (by decide +kernel) (by decide +kernel)
set_option maxRecDepth 20000 in
theorem gX7_keeps_X7_isStone : GoodIn wsX7_keeps (wsV RX7 75 RX7 yX7_isStone wsX7_isStone) := goodIn_app (goodIn_of _ (by decide +kernel)) ggX7_keeps_X7_isStone
set_option maxRecDepth 20000 in
theorem ggX7_keeps_X7_isOut : GoodIn wsX7_keeps wsX7_isOut := goodIn_r _ [15, 16, 17, 18, 6, 19, 8, 28, 29, 30, 31, 32, 33, 34, 35, 36, 37, 38, 39, 40] (by decide +kernel) (by decide +kernel)
set_option maxRecDepth 20000 in
theorem gX7_keeps_X7_isOut : GoodIn wsX7_keeps (wsV RX7 55 RX7 yX7_isOut wsX7_isOut) := goodIn_app (goodIn_of _ (by decide +kernel)) ggX7_keeps_X7_isOut
set_option maxRecDepth 20000 in
theorem ggX7_keeps_X7_ofStone : GoodIn wsX7_keeps wsX7_ofStone := goodIn_r _ [19, 8, 28, 29, 30, 31, 32, 33, 34, 35, 36, 37, 38, 39, 40] (by decide +kernel) (by decide +kernel)
set_option maxRecDepth 20000 in
theorem gX7_keeps_X7_ofStone : GoodIn wsX7_keeps (wsV RX7 40 RX7 yX7_ofStone wsX7_ofStone) := goodIn_app (goodIn_of _ (by decide +kernel)) ggX7_keeps_X7_ofStone
set_option maxRecDepth 20000 in
theorem ggX7_keeps_X7_pays : GoodIn wsX7_keeps wsX7_pays := goodIn_r _ [23, 8, 16, 17, 18, 6, 19, 24, 25, 26, 27, 28, 29, 30, 31, 32, 33, 34, 35, 36, 37, 38, 39, 40] (by decide +kernel) (by decide +kernel)
set_option maxRecDepth 20000 in
theorem gX7_keeps_X7_pays : GoodIn wsX7_keeps (wsV RX7 84 RX7 yX7_pays wsX7_pays) := goodIn_app (goodIn_of _ (by decide +kernel)) ggX7_keeps_X7_pays
theorem dX7_keeps_0 : decode cX7_keeps 0 = .ok (.aload_n 0, 1) := by decide +kernel
theorem dX7_keeps_1 : decode cX7_keeps 1 = .ok (.iload_n 1, 1) := by decide +kernel
theorem dX7_keeps_2 : decode cX7_keeps 2 = .ok (.invokevirtual 75, 3) := by decide +kernel
theorem dX7_keeps_5 : decode cX7_keeps 5 = .ok (.ifCond .ne 6, 3) := by decide +kernel
theorem dX7_keeps_8 : decode cX7_keeps 8 = .ok (.ldc 28, 2) := by decide +kernel
theorem dX7_keeps_10 : decode cX7_keeps 10 = .ok (.ireturn, 1) := by decide +kernel
theorem dX7_keeps_11 : decode cX7_keeps 11 = .ok (.aload_n 0, 1) := by decide +kernel
theorem dX7_keeps_12 : decode cX7_keeps 12 = .ok (.iload_n 1, 1) := by decide +kernel
theorem dX7_keeps_13 : decode cX7_keeps 13 = .ok (.invokevirtual 55, 3) := by decide +kernel
theorem dX7_keeps_16 : decode cX7_keeps 16 = .ok (.ifCond .ne 6, 3) := by decide +kernel
theorem dX7_keeps_19 : decode cX7_keeps 19 = .ok (.ldc 69, 2) := by decide +kernel
theorem dX7_keeps_21 : decode cX7_keeps 21 = .ok (.ireturn, 1) := by decide +kernel
theorem dX7_keeps_22 : decode cX7_keeps 22 = .ok (.aload_n 0, 1) := by decide +kernel
theorem dX7_keeps_23 : decode cX7_keeps 23 = .ok (.iload_n 1, 1) := by decide +kernel
theorem dX7_keeps_24 : decode cX7_keeps 24 = .ok (.bipush 6, 2) := by decide +kernel
theorem dX7_keeps_26 : decode cX7_keeps 26 = .ok (.invokevirtual 40, 3) := by decide +kernel
theorem dX7_keeps_29 : decode cX7_keeps 29 = .ok (.istore_n 2, 1) := by decide +kernel
theorem dX7_keeps_30 : decode cX7_keeps 30 = .ok (.aload_n 0, 1) := by decide +kernel
theorem dX7_keeps_31 : decode cX7_keeps 31 = .ok (.iload_n 1, 1) := by decide +kernel
theorem dX7_keeps_32 : decode cX7_keeps 32 = .ok (.iload_n 2, 1) := by decide +kernel
theorem dX7_keeps_33 : decode cX7_keeps 33 = .ok (.invokevirtual 84, 3) := by decide +kernel
theorem dX7_keeps_36 : decode cX7_keeps 36 = .ok (.iload_n 2, 1) := by decide +kernel
theorem dX7_keeps_37 : decode cX7_keeps 37 = .ok (.ireturn, 1) := by decide +kernel
set_option maxRecDepth 20000 in
theorem ggX7_sells_X7_isStone : GoodIn wsX7_sells wsX7_isStone := goodIn_r _ [9, 3, 10, 11, 8, 12, 29, 30, 31, 32, 33, 34, 35, 36, 37, 38, 39, 40, 41] (by decide +kernel) (by decide +kernel)
set_option maxRecDepth 20000 in
theorem gX7_sells_X7_isStone : GoodIn wsX7_sells (wsV RX7 75 RX7 yX7_isStone wsX7_isStone) := goodIn_app (goodIn_of _ (by decide +kernel)) ggX7_sells_X7_isStone
set_option maxRecDepth 20000 in
theorem ggX7_sells_X7_in : GoodIn wsX7_sells wsX7_in := goodIn_r _ [12] (by decide +kernel) (by decide +kernel)
set_option maxRecDepth 20000 in
theorem gX7_sells_X7_in : GoodIn wsX7_sells (va_wsS RX7 36 yX7_in wsX7_in) := goodIn_app (goodIn_of _ (by decide +kernel)) ggX7_sells_X7_in
set_option maxRecDepth 20000 in
theorem ggX7_sells_X7_isOut : GoodIn wsX7_sells wsX7_isOut := goodIn_r _ [16, 17, 18, 19, 8, 20, 3, 29, 30, 31, 32, 33, 34, 35, 36, 37, 38, 39, 40, 41] (by decide +kernel) (by decide +kernel)
set_option maxRecDepth 20000 in
theorem gX7_sells_X7_isOut : GoodIn wsX7_sells (wsV RX7 55 RX7 yX7_isOut wsX7_isOut) := goodIn_app (goodIn_of _ (by decide +kernel)) ggX7_sells_X7_isOut
set_option maxRecDepth 20000 in
theorem ggX7_sells_X7_isSold : GoodIn wsX7_sells wsX7_isSold := goodIn_r _ [24, 17, 18, 19, 8, 20, 3, 29, 30, 31, 32, 33, 34, 35, 36, 37, 38, 39, 40, 41] (by decide +kernel) (by decide +kernel)
set_option maxRecDepth 20000 in
theorem gX7_sells_X7_isSold : GoodIn wsX7_sells (wsV RX7 88 RX7 yX7_isSold wsX7_isSold) := goodIn_app (goodIn_of _ (by decide +kernel)) ggX7_sells_X7_isSold
set_option maxRecDepth 20000 in
theorem ggX7_sells_X7_ofStone : GoodIn wsX7_sells wsX7_ofStone := goodIn_r _ [20, 3, 29, 30, 31, 32, 33, 34, 35, 36, 37, 38, 39, 40, 41] (by decide +kernel) (by decide +kernel)
set_option maxRecDepth 20000 in
theorem gX7_sells_X7_ofStone : GoodIn wsX7_sells (wsV RX7 40 RX7 yX7_ofStone wsX7_ofStone) := goodIn_app (goodIn_of _ (by decide +kernel)) ggX7_sells_X7_ofStone
set_option maxRecDepth 20000 in
theorem ggX7_sells_X7_setStone : GoodIn wsX7_sells wsX7_setStone := goodIn_r _ [28, 3, 29, 30, 31, 32, 33, 34, 35, 36, 37, 38, 39, 40, 41] (by decide +kernel) (by decide +kernel)
set_option maxRecDepth 20000 in
theorem gX7_sells_X7_setStone : GoodIn wsX7_sells (wsV RX7 71 RX7 yX7_setStone wsX7_setStone) := goodIn_app (goodIn_of _ (by decide +kernel)) ggX7_sells_X7_setStone
theorem dX7_sells_0 : decode cX7_sells 0 = .ok (.aload_n 0, 1) := by decide +kernel
theorem dX7_sells_1 : decode cX7_sells 1 = .ok (.iload_n 1, 1) := by decide +kernel
theorem dX7_sells_2 : decode cX7_sells 2 = .ok (.invokevirtual 75, 3) := by decide +kernel
theorem dX7_sells_5 : decode cX7_sells 5 = .ok (.ifCond .eq 14, 3) := by decide +kernel
theorem dX7_sells_8 : decode cX7_sells 8 = .ok (.iload_n 2, 1) := by decide +kernel
theorem dX7_sells_9 : decode cX7_sells 9 = .ok (.iconst 1, 1) := by decide +kernel
theorem dX7_sells_10 : decode cX7_sells 10 = .ok (.sipush 9999, 3) := by decide +kernel
theorem dX7_sells_13 : decode cX7_sells 13 = .ok (.invokestatic 36, 3) := by decide +kernel
theorem dX7_sells_16 : decode cX7_sells 16 = .ok (.ifCond .ne 6, 3) := by decide +kernel
theorem dX7_sells_19 : decode cX7_sells 19 = .ok (.ldc 28, 2) := by decide +kernel
theorem dX7_sells_21 : decode cX7_sells 21 = .ok (.ireturn, 1) := by decide +kernel
theorem dX7_sells_22 : decode cX7_sells 22 = .ok (.aload_n 0, 1) := by decide +kernel
theorem dX7_sells_23 : decode cX7_sells 23 = .ok (.iload_n 1, 1) := by decide +kernel
theorem dX7_sells_24 : decode cX7_sells 24 = .ok (.invokevirtual 55, 3) := by decide +kernel
theorem dX7_sells_27 : decode cX7_sells 27 = .ok (.ifCond .ne 11, 3) := by decide +kernel
theorem dX7_sells_30 : decode cX7_sells 30 = .ok (.aload_n 0, 1) := by decide +kernel
theorem dX7_sells_31 : decode cX7_sells 31 = .ok (.iload_n 1, 1) := by decide +kernel
theorem dX7_sells_32 : decode cX7_sells 32 = .ok (.invokevirtual 88, 3) := by decide +kernel
theorem dX7_sells_35 : decode cX7_sells 35 = .ok (.ifCond .eq 6, 3) := by decide +kernel
theorem dX7_sells_38 : decode cX7_sells 38 = .ok (.ldc 69, 2) := by decide +kernel
theorem dX7_sells_40 : decode cX7_sells 40 = .ok (.ireturn, 1) := by decide +kernel
theorem dX7_sells_41 : decode cX7_sells 41 = .ok (.aload_n 0, 1) := by decide +kernel
theorem dX7_sells_42 : decode cX7_sells 42 = .ok (.iload_n 1, 1) := by decide +kernel
theorem dX7_sells_43 : decode cX7_sells 43 = .ok (.iconst 3, 1) := by decide +kernel
theorem dX7_sells_44 : decode cX7_sells 44 = .ok (.invokevirtual 40, 3) := by decide +kernel
theorem dX7_sells_47 : decode cX7_sells 47 = .ok (.istore_n 3, 1) := by decide +kernel
theorem dX7_sells_48 : decode cX7_sells 48 = .ok (.aload_n 0, 1) := by decide +kernel
theorem dX7_sells_49 : decode cX7_sells 49 = .ok (.getfield 7, 3) := by decide +kernel
theorem dX7_sells_52 : decode cX7_sells 52 = .ok (.bipush 8, 2) := by decide +kernel
theorem dX7_sells_54 : decode cX7_sells 54 = .ok (.iload_n 3, 1) := by decide +kernel
theorem dX7_sells_55 : decode cX7_sells 55 = .ok (.iadd, 1) := by decide +kernel
theorem dX7_sells_56 : decode cX7_sells 56 = .ok (.dup2, 1) := by decide +kernel
theorem dX7_sells_57 : decode cX7_sells 57 = .ok (.iaload, 1) := by decide +kernel
theorem dX7_sells_58 : decode cX7_sells 58 = .ok (.iload_n 2, 1) := by decide +kernel
theorem dX7_sells_59 : decode cX7_sells 59 = .ok (.iadd, 1) := by decide +kernel
theorem dX7_sells_60 : decode cX7_sells 60 = .ok (.iastore, 1) := by decide +kernel
theorem dX7_sells_61 : decode cX7_sells 61 = .ok (.aload_n 0, 1) := by decide +kernel
theorem dX7_sells_62 : decode cX7_sells 62 = .ok (.iload_n 1, 1) := by decide +kernel
theorem dX7_sells_63 : decode cX7_sells 63 = .ok (.iconst 3, 1) := by decide +kernel
theorem dX7_sells_64 : decode cX7_sells 64 = .ok (.iconst (-1), 1) := by decide +kernel
theorem dX7_sells_65 : decode cX7_sells 65 = .ok (.invokevirtual 71, 3) := by decide +kernel
theorem dX7_sells_68 : decode cX7_sells 68 = .ok (.aload_n 0, 1) := by decide +kernel
theorem dX7_sells_69 : decode cX7_sells 69 = .ok (.iload_n 1, 1) := by decide +kernel
theorem dX7_sells_70 : decode cX7_sells 70 = .ok (.iconst 4, 1) := by decide +kernel
theorem dX7_sells_71 : decode cX7_sells 71 = .ok (.iconst (-1), 1) := by decide +kernel
theorem dX7_sells_72 : decode cX7_sells 72 = .ok (.invokevirtual 71, 3) := by decide +kernel
theorem dX7_sells_75 : decode cX7_sells 75 = .ok (.aload_n 0, 1) := by decide +kernel
theorem dX7_sells_76 : decode cX7_sells 76 = .ok (.iload_n 1, 1) := by decide +kernel
theorem dX7_sells_77 : decode cX7_sells 77 = .ok (.bipush 7, 2) := by decide +kernel
theorem dX7_sells_79 : decode cX7_sells 79 = .ok (.iload_n 2, 1) := by decide +kernel
theorem dX7_sells_80 : decode cX7_sells 80 = .ok (.invokevirtual 71, 3) := by decide +kernel
theorem dX7_sells_83 : decode cX7_sells 83 = .ok (.ldc 91, 2) := by decide +kernel
theorem dX7_sells_85 : decode cX7_sells 85 = .ok (.aload_n 0, 1) := by decide +kernel
theorem dX7_sells_86 : decode cX7_sells 86 = .ok (.getfield 7, 3) := by decide +kernel
theorem dX7_sells_89 : decode cX7_sells 89 = .ok (.bipush 8, 2) := by decide +kernel
theorem dX7_sells_91 : decode cX7_sells 91 = .ok (.iload_n 3, 1) := by decide +kernel
theorem dX7_sells_92 : decode cX7_sells 92 = .ok (.iadd, 1) := by decide +kernel
theorem dX7_sells_93 : decode cX7_sells 93 = .ok (.iaload, 1) := by decide +kernel
theorem dX7_sells_94 : decode cX7_sells 94 = .ok (.iadd, 1) := by decide +kernel
theorem dX7_sells_95 : decode cX7_sells 95 = .ok (.ireturn, 1) := by decide +kernel
set_option maxRecDepth 20000 in
theorem ggX7_isGrade_X7_in : GoodIn wsX7_isGrade wsX7_in := goodIn_r _ [4] (by decide +kernel) (by decide +kernel)
set_option maxRecDepth 20000 in
theorem gX7_isGrade_X7_in : GoodIn wsX7_isGrade (va_wsS RX7 36 yX7_in wsX7_in) := goodIn_app (goodIn_of _ (by decide +kernel)) ggX7_isGrade_X7_in
theorem dX7_isGrade_0 : decode cX7_isGrade 0 = .ok (.iload_n 0, 1) := by decide +kernel
theorem dX7_isGrade_1 : decode cX7_isGrade 1 = .ok (.iconst 0, 1) := by decide +kernel
theorem dX7_isGrade_2 : decode cX7_isGrade 2 = .ok (.bipush 9, 2) := by decide +kernel
theorem dX7_isGrade_4 : decode cX7_isGrade 4 = .ok (.invokestatic 36, 3) := by decide +kernel
theorem dX7_isGrade_7 : decode cX7_isGrade 7 = .ok (.ifCond .eq 17, 3) := by decide +kernel
theorem dX7_isGrade_10 : decode cX7_isGrade 10 = .ok (.iload_n 1, 1) := by decide +kernel
theorem dX7_isGrade_11 : decode cX7_isGrade 11 = .ok (.iconst 0, 1) := by decide +kernel
theorem dX7_isGrade_12 : decode cX7_isGrade 12 = .ok (.bipush 7, 2) := by decide +kernel
theorem dX7_isGrade_14 : decode cX7_isGrade 14 = .ok (.invokestatic 36, 3) := by decide +kernel
theorem dX7_isGrade_17 : decode cX7_isGrade 17 = .ok (.ifCond .eq 7, 3) := by decide +kernel
theorem dX7_isGrade_20 : decode cX7_isGrade 20 = .ok (.iconst 1, 1) := by decide +kernel
theorem dX7_isGrade_21 : decode cX7_isGrade 21 = .ok (.goto 4, 3) := by decide +kernel
theorem dX7_isGrade_24 : decode cX7_isGrade 24 = .ok (.iconst 0, 1) := by decide +kernel
theorem dX7_isGrade_25 : decode cX7_isGrade 25 = .ok (.ireturn, 1) := by decide +kernel
set_option maxRecDepth 20000 in
theorem ggX7_grades1_X7_isStone : GoodIn wsX7_grades1 wsX7_isStone := goodIn_r _ [7, 8, 9, 10, 6, 11, 46, 47, 48, 49, 50, 51, 52, 53, 54, 55, 56, 57, 58] (by decide +kernel) (by decide +kernel)
set_option maxRecDepth 20000 in
theorem gX7_grades1_X7_isStone : GoodIn wsX7_grades1 (wsV RX7 75 RX7 yX7_isStone wsX7_isStone) := goodIn_app (goodIn_of _ (by decide +kernel)) ggX7_grades1_X7_isStone
set_option maxRecDepth 20000 in
theorem ggX7_grades1_X7_isGrade : GoodIn wsX7_grades1 wsX7_isGrade := goodIn_r _ [14, 9, 10, 6, 11] (by decide +kernel) (by decide +kernel)
set_option maxRecDepth 20000 in
theorem gX7_grades1_X7_isGrade : GoodIn wsX7_grades1 (va_wsS RX7 92 yX7_isGrade wsX7_isGrade) := goodIn_app (goodIn_of _ (by decide +kernel)) ggX7_grades1_X7_isGrade
set_option maxRecDepth 20000 in
theorem ggX7_grades1_X7_isSold : GoodIn wsX7_grades1 wsX7_isSold := goodIn_r _ [18, 19, 20, 21, 6, 22, 8, 46, 47, 48, 49, 50, 51, 52, 53, 54, 55, 56, 57, 58] (by decide +kernel) (by decide +kernel)
set_option maxRecDepth 20000 in
theorem gX7_grades1_X7_isSold : GoodIn wsX7_grades1 (wsV RX7 88 RX7 yX7_isSold wsX7_isSold) := goodIn_app (goodIn_of _ (by decide +kernel)) ggX7_grades1_X7_isSold
set_option maxRecDepth 20000 in
theorem ggX7_grades1_X7_ofStone : GoodIn wsX7_grades1 wsX7_ofStone := goodIn_r _ [22, 8, 46, 47, 48, 49, 50, 51, 52, 53, 54, 55, 56, 57, 58] (by decide +kernel) (by decide +kernel)
set_option maxRecDepth 20000 in
theorem gX7_grades1_X7_ofStone : GoodIn wsX7_grades1 (wsV RX7 40 RX7 yX7_ofStone wsX7_ofStone) := goodIn_app (goodIn_of _ (by decide +kernel)) ggX7_grades1_X7_ofStone
set_option maxRecDepth 20000 in
theorem ggX7_grades1_X7_setStone : GoodIn wsX7_grades1 wsX7_setStone := goodIn_r _ [26, 8, 46, 47, 48, 49, 50, 51, 52, 53, 54, 55, 56, 57, 58] (by decide +kernel) (by decide +kernel)
set_option maxRecDepth 20000 in
theorem gX7_grades1_X7_setStone : GoodIn wsX7_grades1 (wsV RX7 71 RX7 yX7_setStone wsX7_setStone) := goodIn_app (goodIn_of _ (by decide +kernel)) ggX7_grades1_X7_setStone
set_option maxRecDepth 20000 in
theorem ggX7_grades1_X7_price : GoodIn wsX7_grades1 wsX7_price := goodIn_r _ [30, 31, 32, 33, 6, 34, 19, 20, 21, 22, 8, 35, 36, 37, 38, 39, 40, 41, 46, 47, 48, 49, 50, 51, 52, 53, 54, 55, 56, 57, 58] (by decide +kernel) (by decide +kernel)
set_option maxRecDepth 20000 in
theorem gX7_grades1_X7_price : GoodIn wsX7_grades1 (wsV RX7 59 RX7 yX7_price wsX7_price) := goodIn_app (goodIn_of _ (by decide +kernel)) ggX7_grades1_X7_price
set_option maxRecDepth 20000 in
theorem ggX7_grades1_X7_isOut : GoodIn wsX7_grades1 wsX7_isOut := goodIn_r _ [45, 19, 20, 21, 6, 22, 8, 46, 47, 48, 49, 50, 51, 52, 53, 54, 55, 56, 57, 58] (by decide +kernel) (by decide +kernel)
set_option maxRecDepth 20000 in
theorem gX7_grades1_X7_isOut : GoodIn wsX7_grades1 (wsV RX7 55 RX7 yX7_isOut wsX7_isOut) := goodIn_app (goodIn_of _ (by decide +kernel)) ggX7_grades1_X7_isOut
theorem dX7_grades1_0 : decode cX7_grades1 0 = .ok (.aload_n 0, 1) := by decide +kernel
theorem dX7_grades1_1 : decode cX7_grades1 1 = .ok (.iload_n 1, 1) := by decide +kernel
theorem dX7_grades1_2 : decode cX7_grades1 2 = .ok (.invokevirtual 75, 3) := by decide +kernel
theorem dX7_grades1_5 : decode cX7_grades1 5 = .ok (.ifCond .eq 11, 3) := by decide +kernel
theorem dX7_grades1_8 : decode cX7_grades1 8 = .ok (.iload_n 2, 1) := by decide +kernel
theorem dX7_grades1_9 : decode cX7_grades1 9 = .ok (.iload_n 3, 1) := by decide +kernel
theorem dX7_grades1_10 : decode cX7_grades1 10 = .ok (.invokestatic 92, 3) := by decide +kernel
theorem dX7_grades1_13 : decode cX7_grades1 13 = .ok (.ifCond .ne 6, 3) := by decide +kernel
theorem dX7_grades1_16 : decode cX7_grades1 16 = .ok (.ldc 28, 2) := by decide +kernel
theorem dX7_grades1_18 : decode cX7_grades1 18 = .ok (.ireturn, 1) := by decide +kernel
theorem dX7_grades1_19 : decode cX7_grades1 19 = .ok (.aload_n 0, 1) := by decide +kernel
theorem dX7_grades1_20 : decode cX7_grades1 20 = .ok (.iload_n 1, 1) := by decide +kernel
theorem dX7_grades1_21 : decode cX7_grades1 21 = .ok (.invokevirtual 88, 3) := by decide +kernel
theorem dX7_grades1_24 : decode cX7_grades1 24 = .ok (.ifCond .eq 6, 3) := by decide +kernel
theorem dX7_grades1_27 : decode cX7_grades1 27 = .ok (.ldc 69, 2) := by decide +kernel
theorem dX7_grades1_29 : decode cX7_grades1 29 = .ok (.ireturn, 1) := by decide +kernel
theorem dX7_grades1_30 : decode cX7_grades1 30 = .ok (.bipush 10, 2) := by decide +kernel
theorem dX7_grades1_32 : decode cX7_grades1 32 = .ok (.aload_n 0, 1) := by decide +kernel
theorem dX7_grades1_33 : decode cX7_grades1 33 = .ok (.iload_n 1, 1) := by decide +kernel
theorem dX7_grades1_34 : decode cX7_grades1 34 = .ok (.iconst 1, 1) := by decide +kernel
theorem dX7_grades1_35 : decode cX7_grades1 35 = .ok (.invokevirtual 40, 3) := by decide +kernel
theorem dX7_grades1_38 : decode cX7_grades1 38 = .ok (.imul, 1) := by decide +kernel
theorem dX7_grades1_39 : decode cX7_grades1 39 = .ok (.aload_n 0, 1) := by decide +kernel
theorem dX7_grades1_40 : decode cX7_grades1 40 = .ok (.iload_n 1, 1) := by decide +kernel
theorem dX7_grades1_41 : decode cX7_grades1 41 = .ok (.iconst 2, 1) := by decide +kernel
theorem dX7_grades1_42 : decode cX7_grades1 42 = .ok (.invokevirtual 40, 3) := by decide +kernel
theorem dX7_grades1_45 : decode cX7_grades1 45 = .ok (.iadd, 1) := by decide +kernel
theorem dX7_grades1_46 : decode cX7_grades1 46 = .ok (.istore 4, 2) := by decide +kernel
theorem dX7_grades1_48 : decode cX7_grades1 48 = .ok (.aload_n 0, 1) := by decide +kernel
theorem dX7_grades1_49 : decode cX7_grades1 49 = .ok (.iload_n 1, 1) := by decide +kernel
theorem dX7_grades1_50 : decode cX7_grades1 50 = .ok (.iconst 1, 1) := by decide +kernel
theorem dX7_grades1_51 : decode cX7_grades1 51 = .ok (.iload_n 2, 1) := by decide +kernel
theorem dX7_grades1_52 : decode cX7_grades1 52 = .ok (.invokevirtual 71, 3) := by decide +kernel
theorem dX7_grades1_55 : decode cX7_grades1 55 = .ok (.aload_n 0, 1) := by decide +kernel
theorem dX7_grades1_56 : decode cX7_grades1 56 = .ok (.iload_n 1, 1) := by decide +kernel
theorem dX7_grades1_57 : decode cX7_grades1 57 = .ok (.iconst 2, 1) := by decide +kernel
theorem dX7_grades1_58 : decode cX7_grades1 58 = .ok (.iload_n 3, 1) := by decide +kernel
theorem dX7_grades1_59 : decode cX7_grades1 59 = .ok (.invokevirtual 71, 3) := by decide +kernel
theorem dX7_grades1_62 : decode cX7_grades1 62 = .ok (.aload_n 0, 1) := by decide +kernel
theorem dX7_grades1_63 : decode cX7_grades1 63 = .ok (.iload_n 1, 1) := by decide +kernel
theorem dX7_grades1_64 : decode cX7_grades1 64 = .ok (.invokevirtual 59, 3) := by decide +kernel
theorem dX7_grades1_67 : decode cX7_grades1 67 = .ok (.istore 5, 2) := by decide +kernel
theorem dX7_grades1_69 : decode cX7_grades1 69 = .ok (.aload_n 0, 1) := by decide +kernel
theorem dX7_grades1_70 : decode cX7_grades1 70 = .ok (.iload_n 1, 1) := by decide +kernel
theorem dX7_grades1_71 : decode cX7_grades1 71 = .ok (.invokevirtual 55, 3) := by decide +kernel
theorem dX7_grades1_74 : decode cX7_grades1 74 = .ok (.ifCond .eq 17, 3) := by decide +kernel
theorem dX7_grades1_77 : decode cX7_grades1 77 = .ok (.iload 5, 2) := by decide +kernel
theorem dX7_grades1_79 : decode cX7_grades1 79 = .ok (.ifCond .lt 12, 3) := by decide +kernel
theorem dX7_grades1_82 : decode cX7_grades1 82 = .ok (.aload_n 0, 1) := by decide +kernel
theorem dX7_grades1_83 : decode cX7_grades1 83 = .ok (.iload_n 1, 1) := by decide +kernel
theorem dX7_grades1_84 : decode cX7_grades1 84 = .ok (.bipush 6, 2) := by decide +kernel
theorem dX7_grades1_86 : decode cX7_grades1 86 = .ok (.iload 5, 2) := by decide +kernel
theorem dX7_grades1_88 : decode cX7_grades1 88 = .ok (.invokevirtual 71, 3) := by decide +kernel
theorem dX7_grades1_91 : decode cX7_grades1 91 = .ok (.iload 4, 2) := by decide +kernel
theorem dX7_grades1_93 : decode cX7_grades1 93 = .ok (.ireturn, 1) := by decide +kernel
set_option maxRecDepth 20000 in
theorem ggX7_rates_X7_in : GoodIn wsX7_rates wsX7_in := goodIn_r _ [7] (by decide +kernel) (by decide +kernel)
set_option maxRecDepth 20000 in
theorem gX7_rates_X7_in : GoodIn wsX7_rates (va_wsS RX7 36 yX7_in wsX7_in) := goodIn_app (goodIn_of _ (by decide +kernel)) ggX7_rates_X7_in
set_option maxRecDepth 20000 in
theorem ggX7_rates_X7_isGrade : GoodIn wsX7_rates wsX7_isGrade := goodIn_r _ [10, 4, 5, 6, 7] (by decide +kernel) (by decide +kernel)
set_option maxRecDepth 20000 in
theorem gX7_rates_X7_isGrade : GoodIn wsX7_rates (va_wsS RX7 92 yX7_isGrade wsX7_isGrade) := goodIn_app (goodIn_of _ (by decide +kernel)) ggX7_rates_X7_isGrade
set_option maxRecDepth 20000 in
theorem ggX7_rates_X7_rateAt : GoodIn wsX7_rates wsX7_rateAt := goodIn_r _ [13] (by decide +kernel) (by decide +kernel)
set_option maxRecDepth 20000 in
theorem gX7_rates_X7_rateAt : GoodIn wsX7_rates (va_wsS RX7 44 yX7_rateAt wsX7_rateAt) := goodIn_app (goodIn_of _ (by decide +kernel)) ggX7_rates_X7_rateAt
theorem dX7_rates_0 : decode cX7_rates 0 = .ok (.iload_n 1, 1) := by decide +kernel
theorem dX7_rates_1 : decode cX7_rates 1 = .ok (.iconst 0, 1) := by decide +kernel
theorem dX7_rates_2 : decode cX7_rates 2 = .ok (.iconst 4, 1) := by decide +kernel
theorem dX7_rates_3 : decode cX7_rates 3 = .ok (.invokestatic 36, 3) := by decide +kernel
theorem dX7_rates_6 : decode cX7_rates 6 = .ok (.ifCond .eq 23, 3) := by decide +kernel
theorem dX7_rates_9 : decode cX7_rates 9 = .ok (.iload_n 2, 1) := by decide +kernel
theorem dX7_rates_10 : decode cX7_rates 10 = .ok (.iload_n 3, 1) := by decide +kernel
theorem dX7_rates_11 : decode cX7_rates 11 = .ok (.invokestatic 92, 3) := by decide +kernel
theorem dX7_rates_14 : decode cX7_rates 14 = .ok (.ifCond .eq 15, 3) := by decide +kernel
theorem dX7_rates_17 : decode cX7_rates 17 = .ok (.iload 4, 2) := by decide +kernel
theorem dX7_rates_19 : decode cX7_rates 19 = .ok (.iconst 1, 1) := by decide +kernel
theorem dX7_rates_20 : decode cX7_rates 20 = .ok (.sipush 9999, 3) := by decide +kernel
theorem dX7_rates_23 : decode cX7_rates 23 = .ok (.invokestatic 36, 3) := by decide +kernel
theorem dX7_rates_26 : decode cX7_rates 26 = .ok (.ifCond .ne 6, 3) := by decide +kernel
theorem dX7_rates_29 : decode cX7_rates 29 = .ok (.ldc 28, 2) := by decide +kernel
theorem dX7_rates_31 : decode cX7_rates 31 = .ok (.ireturn, 1) := by decide +kernel
theorem dX7_rates_32 : decode cX7_rates 32 = .ok (.iload_n 1, 1) := by decide +kernel
theorem dX7_rates_33 : decode cX7_rates 33 = .ok (.iload_n 2, 1) := by decide +kernel
theorem dX7_rates_34 : decode cX7_rates 34 = .ok (.iload_n 3, 1) := by decide +kernel
theorem dX7_rates_35 : decode cX7_rates 35 = .ok (.invokestatic 44, 3) := by decide +kernel
theorem dX7_rates_38 : decode cX7_rates 38 = .ok (.istore 5, 2) := by decide +kernel
theorem dX7_rates_40 : decode cX7_rates 40 = .ok (.aload_n 0, 1) := by decide +kernel
theorem dX7_rates_41 : decode cX7_rates 41 = .ok (.getfield 7, 3) := by decide +kernel
theorem dX7_rates_44 : decode cX7_rates 44 = .ok (.iload 5, 2) := by decide +kernel
theorem dX7_rates_46 : decode cX7_rates 46 = .ok (.iaload, 1) := by decide +kernel
theorem dX7_rates_47 : decode cX7_rates 47 = .ok (.istore 6, 2) := by decide +kernel
theorem dX7_rates_49 : decode cX7_rates 49 = .ok (.iload 6, 2) := by decide +kernel
theorem dX7_rates_51 : decode cX7_rates 51 = .ok (.ifCond .ne 17, 3) := by decide +kernel
theorem dX7_rates_54 : decode cX7_rates 54 = .ok (.aload_n 0, 1) := by decide +kernel
theorem dX7_rates_55 : decode cX7_rates 55 = .ok (.getfield 7, 3) := by decide +kernel
theorem dX7_rates_58 : decode cX7_rates 58 = .ok (.iconst 5, 1) := by decide +kernel
theorem dX7_rates_59 : decode cX7_rates 59 = .ok (.iaload, 1) := by decide +kernel
theorem dX7_rates_60 : decode cX7_rates 60 = .ok (.bipush 24, 2) := by decide +kernel
theorem dX7_rates_62 : decode cX7_rates 62 = .ok (.if_icmp .ne 6, 3) := by decide +kernel
theorem dX7_rates_65 : decode cX7_rates 65 = .ok (.ldc 70, 2) := by decide +kernel
theorem dX7_rates_67 : decode cX7_rates 67 = .ok (.ireturn, 1) := by decide +kernel
theorem dX7_rates_68 : decode cX7_rates 68 = .ok (.aload_n 0, 1) := by decide +kernel
theorem dX7_rates_69 : decode cX7_rates 69 = .ok (.getfield 7, 3) := by decide +kernel
theorem dX7_rates_72 : decode cX7_rates 72 = .ok (.iconst 5, 1) := by decide +kernel
theorem dX7_rates_73 : decode cX7_rates 73 = .ok (.dup2, 1) := by decide +kernel
theorem dX7_rates_74 : decode cX7_rates 74 = .ok (.iaload, 1) := by decide +kernel
theorem dX7_rates_75 : decode cX7_rates 75 = .ok (.iload 6, 2) := by decide +kernel
theorem dX7_rates_77 : decode cX7_rates 77 = .ok (.ifCond .ne 7, 3) := by decide +kernel
theorem dX7_rates_80 : decode cX7_rates 80 = .ok (.iconst 1, 1) := by decide +kernel
theorem dX7_rates_81 : decode cX7_rates 81 = .ok (.goto 4, 3) := by decide +kernel
theorem dX7_rates_84 : decode cX7_rates 84 = .ok (.iconst 0, 1) := by decide +kernel
theorem dX7_rates_85 : decode cX7_rates 85 = .ok (.iadd, 1) := by decide +kernel
theorem dX7_rates_86 : decode cX7_rates 86 = .ok (.iastore, 1) := by decide +kernel
theorem dX7_rates_87 : decode cX7_rates 87 = .ok (.aload_n 0, 1) := by decide +kernel
theorem dX7_rates_88 : decode cX7_rates 88 = .ok (.getfield 7, 3) := by decide +kernel
theorem dX7_rates_91 : decode cX7_rates 91 = .ok (.iload 5, 2) := by decide +kernel
theorem dX7_rates_93 : decode cX7_rates 93 = .ok (.iload 4, 2) := by decide +kernel
theorem dX7_rates_95 : decode cX7_rates 95 = .ok (.iastore, 1) := by decide +kernel
theorem dX7_rates_96 : decode cX7_rates 96 = .ok (.iload 6, 2) := by decide +kernel
theorem dX7_rates_98 : decode cX7_rates 98 = .ok (.ireturn, 1) := by decide +kernel
set_option maxRecDepth 20000 in
theorem ggX7_day_X7_ofMemo : GoodIn wsX7_day wsX7_ofMemo := goodIn_r _ [6, 1, 19, 20, 21, 22, 23, 24, 25, 26, 27, 28, 29, 30, 31] (by decide +kernel) (by decide +kernel)
set_option maxRecDepth 20000 in
theorem gX7_day_X7_ofMemo : GoodIn wsX7_day (wsV RX7 95 RX7 yX7_ofMemo wsX7_ofMemo) := goodIn_app (goodIn_of _ (by decide +kernel)) ggX7_day_X7_ofMemo
set_option maxRecDepth 20000 in
theorem ggX7_day_X7_ofStone : GoodIn wsX7_day wsX7_ofStone := goodIn_r _ [10, 1, 19, 20, 21, 22, 23, 24, 25, 26, 27, 28, 29, 30, 31] (by decide +kernel) (by decide +kernel)
set_option maxRecDepth 20000 in
theorem gX7_day_X7_ofStone : GoodIn wsX7_day (wsV RX7 40 RX7 yX7_ofStone wsX7_ofStone) := goodIn_app (goodIn_of _ (by decide +kernel)) ggX7_day_X7_ofStone
set_option maxRecDepth 20000 in
theorem ggX7_day_X7_pays : GoodIn wsX7_day wsX7_pays := goodIn_r _ [14, 1, 7, 8, 9, 5, 10, 15, 16, 17, 18, 19, 20, 21, 22, 23, 24, 25, 26, 27, 28, 29, 30, 31] (by decide +kernel) (by decide +kernel)
set_option maxRecDepth 20000 in
theorem gX7_day_X7_pays : GoodIn wsX7_day (wsV RX7 84 RX7 yX7_pays wsX7_pays) := goodIn_app (goodIn_of _ (by decide +kernel)) ggX7_day_X7_pays
theorem dX7_day_0 : decode cX7_day 0 = .ok (.aload_n 0, 1) := by decide +kernel
theorem dX7_day_1 : decode cX7_day 1 = .ok (.getfield 7, 3) := by decide +kernel
theorem dX7_day_4 : decode cX7_day 4 = .ok (.iconst 3, 1) := by decide +kernel
theorem dX7_day_5 : decode cX7_day 5 = .ok (.dup2, 1) := by decide +kernel
theorem dX7_day_6 : decode cX7_day 6 = .ok (.iaload, 1) := by decide +kernel
theorem dX7_day_7 : decode cX7_day 7 = .ok (.iconst 1, 1) := by decide +kernel
theorem dX7_day_8 : decode cX7_day 8 = .ok (.iadd, 1) := by decide +kernel
theorem dX7_day_9 : decode cX7_day 9 = .ok (.iastore, 1) := by decide +kernel
theorem dX7_day_10 : decode cX7_day 10 = .ok (.iconst 0, 1) := by decide +kernel
theorem dX7_day_11 : decode cX7_day 11 = .ok (.istore_n 1, 1) := by decide +kernel
theorem dX7_day_12 : decode cX7_day 12 = .ok (.iload_n 1, 1) := by decide +kernel
theorem dX7_day_13 : decode cX7_day 13 = .ok (.aload_n 0, 1) := by decide +kernel
theorem dX7_day_14 : decode cX7_day 14 = .ok (.getfield 7, 3) := by decide +kernel
theorem dX7_day_17 : decode cX7_day 17 = .ok (.iconst 2, 1) := by decide +kernel
theorem dX7_day_18 : decode cX7_day 18 = .ok (.iaload, 1) := by decide +kernel
theorem dX7_day_19 : decode cX7_day 19 = .ok (.if_icmp .ge 110, 3) := by decide +kernel
theorem dX7_day_22 : decode cX7_day 22 = .ok (.aload_n 0, 1) := by decide +kernel
theorem dX7_day_23 : decode cX7_day 23 = .ok (.getfield 7, 3) := by decide +kernel
theorem dX7_day_26 : decode cX7_day 26 = .ok (.iconst 3, 1) := by decide +kernel
theorem dX7_day_27 : decode cX7_day 27 = .ok (.iaload, 1) := by decide +kernel
theorem dX7_day_28 : decode cX7_day 28 = .ok (.aload_n 0, 1) := by decide +kernel
theorem dX7_day_29 : decode cX7_day 29 = .ok (.iload_n 1, 1) := by decide +kernel
theorem dX7_day_30 : decode cX7_day 30 = .ok (.iconst 2, 1) := by decide +kernel
theorem dX7_day_31 : decode cX7_day 31 = .ok (.invokevirtual 95, 3) := by decide +kernel
theorem dX7_day_34 : decode cX7_day 34 = .ok (.isub, 1) := by decide +kernel
theorem dX7_day_35 : decode cX7_day 35 = .ok (.aload_n 0, 1) := by decide +kernel
theorem dX7_day_36 : decode cX7_day 36 = .ok (.getfield 7, 3) := by decide +kernel
theorem dX7_day_39 : decode cX7_day 39 = .ok (.bipush 6, 2) := by decide +kernel
theorem dX7_day_41 : decode cX7_day 41 = .ok (.iaload, 1) := by decide +kernel
theorem dX7_day_42 : decode cX7_day 42 = .ok (.if_icmp .le 7, 3) := by decide +kernel
theorem dX7_day_45 : decode cX7_day 45 = .ok (.iconst 1, 1) := by decide +kernel
theorem dX7_day_46 : decode cX7_day 46 = .ok (.goto 4, 3) := by decide +kernel
theorem dX7_day_49 : decode cX7_day 49 = .ok (.iconst 0, 1) := by decide +kernel
theorem dX7_day_50 : decode cX7_day 50 = .ok (.istore_n 2, 1) := by decide +kernel
theorem dX7_day_51 : decode cX7_day 51 = .ok (.iconst 0, 1) := by decide +kernel
theorem dX7_day_52 : decode cX7_day 52 = .ok (.istore_n 3, 1) := by decide +kernel
theorem dX7_day_53 : decode cX7_day 53 = .ok (.iload_n 3, 1) := by decide +kernel
theorem dX7_day_54 : decode cX7_day 54 = .ok (.aload_n 0, 1) := by decide +kernel
theorem dX7_day_55 : decode cX7_day 55 = .ok (.getfield 7, 3) := by decide +kernel
theorem dX7_day_58 : decode cX7_day 58 = .ok (.iconst 1, 1) := by decide +kernel
theorem dX7_day_59 : decode cX7_day 59 = .ok (.iaload, 1) := by decide +kernel
theorem dX7_day_60 : decode cX7_day 60 = .ok (.if_icmp .ge 63, 3) := by decide +kernel
theorem dX7_day_63 : decode cX7_day 63 = .ok (.iload_n 2, 1) := by decide +kernel
theorem dX7_day_64 : decode cX7_day 64 = .ok (.ifCond .eq 59, 3) := by decide +kernel
theorem dX7_day_67 : decode cX7_day 67 = .ok (.aload_n 0, 1) := by decide +kernel
theorem dX7_day_68 : decode cX7_day 68 = .ok (.iload_n 3, 1) := by decide +kernel
theorem dX7_day_69 : decode cX7_day 69 = .ok (.iconst 5, 1) := by decide +kernel
theorem dX7_day_70 : decode cX7_day 70 = .ok (.invokevirtual 40, 3) := by decide +kernel
theorem dX7_day_73 : decode cX7_day 73 = .ok (.iload_n 1, 1) := by decide +kernel
theorem dX7_day_74 : decode cX7_day 74 = .ok (.if_icmp .ne 43, 3) := by decide +kernel
theorem dX7_day_77 : decode cX7_day 77 = .ok (.aload_n 0, 1) := by decide +kernel
theorem dX7_day_78 : decode cX7_day 78 = .ok (.iload_n 3, 1) := by decide +kernel
theorem dX7_day_79 : decode cX7_day 79 = .ok (.bipush 6, 2) := by decide +kernel
theorem dX7_day_81 : decode cX7_day 81 = .ok (.invokevirtual 40, 3) := by decide +kernel
theorem dX7_day_84 : decode cX7_day 84 = .ok (.istore 4, 2) := by decide +kernel
theorem dX7_day_86 : decode cX7_day 86 = .ok (.aload_n 0, 1) := by decide +kernel
theorem dX7_day_87 : decode cX7_day 87 = .ok (.iload_n 3, 1) := by decide +kernel
theorem dX7_day_88 : decode cX7_day 88 = .ok (.iload 4, 2) := by decide +kernel
theorem dX7_day_90 : decode cX7_day 90 = .ok (.iload 4, 2) := by decide +kernel
theorem dX7_day_92 : decode cX7_day 92 = .ok (.aload_n 0, 1) := by decide +kernel
theorem dX7_day_93 : decode cX7_day 93 = .ok (.getfield 7, 3) := by decide +kernel
theorem dX7_day_96 : decode cX7_day 96 = .ok (.bipush 7, 2) := by decide +kernel
theorem dX7_day_98 : decode cX7_day 98 = .ok (.iaload, 1) := by decide +kernel
theorem dX7_day_99 : decode cX7_day 99 = .ok (.imul, 1) := by decide +kernel
theorem dX7_day_100 : decode cX7_day 100 = .ok (.bipush 100, 2) := by decide +kernel
theorem dX7_day_102 : decode cX7_day 102 = .ok (.idiv, 1) := by decide +kernel
theorem dX7_day_103 : decode cX7_day 103 = .ok (.iadd, 1) := by decide +kernel
theorem dX7_day_104 : decode cX7_day 104 = .ok (.invokevirtual 84, 3) := by decide +kernel
theorem dX7_day_107 : decode cX7_day 107 = .ok (.aload_n 0, 1) := by decide +kernel
theorem dX7_day_108 : decode cX7_day 108 = .ok (.getfield 7, 3) := by decide +kernel
theorem dX7_day_111 : decode cX7_day 111 = .ok (.iconst 4, 1) := by decide +kernel
theorem dX7_day_112 : decode cX7_day 112 = .ok (.dup2, 1) := by decide +kernel
theorem dX7_day_113 : decode cX7_day 113 = .ok (.iaload, 1) := by decide +kernel
theorem dX7_day_114 : decode cX7_day 114 = .ok (.iconst 1, 1) := by decide +kernel
theorem dX7_day_115 : decode cX7_day 115 = .ok (.iadd, 1) := by decide +kernel
theorem dX7_day_116 : decode cX7_day 116 = .ok (.iastore, 1) := by decide +kernel
theorem dX7_day_117 : decode cX7_day 117 = .ok (.iinc 3 1, 3) := by decide +kernel
theorem dX7_day_120 : decode cX7_day 120 = .ok (.goto (-67), 3) := by decide +kernel
theorem dX7_day_123 : decode cX7_day 123 = .ok (.iinc 1 1, 3) := by decide +kernel
theorem dX7_day_126 : decode cX7_day 126 = .ok (.goto (-114), 3) := by decide +kernel
theorem dX7_day_129 : decode cX7_day 129 = .ok (.return_, 1) := by decide +kernel
set_option maxRecDepth 20000 in
theorem ggX7_goes_X7_in : GoodIn wsX7_goes wsX7_in := goodIn_r _ [7] (by decide +kernel) (by decide +kernel)
set_option maxRecDepth 20000 in
theorem gX7_goes_X7_in : GoodIn wsX7_goes (va_wsS RX7 36 yX7_in wsX7_in) := goodIn_app (goodIn_of _ (by decide +kernel)) ggX7_goes_X7_in
set_option maxRecDepth 20000 in
theorem ggX7_goes_X7_day : GoodIn wsX7_goes wsX7_day := goodIn_r _ [11, 2, 12, 13, 14, 6, 15, 16, 17, 18, 19, 20, 21, 22, 23, 24, 25, 26, 27, 28, 29, 30, 31, 32, 33, 34, 35, 36, 37, 38, 39, 40] (by decide +kernel) (by decide +kernel)
set_option maxRecDepth 20000 in
theorem gX7_goes_X7_day : GoodIn wsX7_goes (wsV RX7 98 RX7 yX7_day wsX7_day) := goodIn_app (goodIn_of _ (by decide +kernel)) ggX7_goes_X7_day
theorem dX7_goes_0 : decode cX7_goes 0 = .ok (.iload_n 1, 1) := by decide +kernel
theorem dX7_goes_1 : decode cX7_goes 1 = .ok (.iconst 1, 1) := by decide +kernel
theorem dX7_goes_2 : decode cX7_goes 2 = .ok (.bipush 99, 2) := by decide +kernel
theorem dX7_goes_4 : decode cX7_goes 4 = .ok (.invokestatic 36, 3) := by decide +kernel
theorem dX7_goes_7 : decode cX7_goes 7 = .ok (.ifCond .ne 6, 3) := by decide +kernel
theorem dX7_goes_10 : decode cX7_goes 10 = .ok (.ldc 28, 2) := by decide +kernel
theorem dX7_goes_12 : decode cX7_goes 12 = .ok (.ireturn, 1) := by decide +kernel
theorem dX7_goes_13 : decode cX7_goes 13 = .ok (.aload_n 0, 1) := by decide +kernel
theorem dX7_goes_14 : decode cX7_goes 14 = .ok (.getfield 7, 3) := by decide +kernel
theorem dX7_goes_17 : decode cX7_goes 17 = .ok (.iconst 3, 1) := by decide +kernel
theorem dX7_goes_18 : decode cX7_goes 18 = .ok (.iaload, 1) := by decide +kernel
theorem dX7_goes_19 : decode cX7_goes 19 = .ok (.iload_n 1, 1) := by decide +kernel
theorem dX7_goes_20 : decode cX7_goes 20 = .ok (.iadd, 1) := by decide +kernel
theorem dX7_goes_21 : decode cX7_goes 21 = .ok (.sipush 2000, 3) := by decide +kernel
theorem dX7_goes_24 : decode cX7_goes 24 = .ok (.if_icmp .le 6, 3) := by decide +kernel
theorem dX7_goes_27 : decode cX7_goes 27 = .ok (.ldc 70, 2) := by decide +kernel
theorem dX7_goes_29 : decode cX7_goes 29 = .ok (.ireturn, 1) := by decide +kernel
theorem dX7_goes_30 : decode cX7_goes 30 = .ok (.aload_n 0, 1) := by decide +kernel
theorem dX7_goes_31 : decode cX7_goes 31 = .ok (.getfield 7, 3) := by decide +kernel
theorem dX7_goes_34 : decode cX7_goes 34 = .ok (.iconst 4, 1) := by decide +kernel
theorem dX7_goes_35 : decode cX7_goes 35 = .ok (.iaload, 1) := by decide +kernel
theorem dX7_goes_36 : decode cX7_goes 36 = .ok (.istore_n 2, 1) := by decide +kernel
theorem dX7_goes_37 : decode cX7_goes 37 = .ok (.iconst 0, 1) := by decide +kernel
theorem dX7_goes_38 : decode cX7_goes 38 = .ok (.istore_n 3, 1) := by decide +kernel
theorem dX7_goes_39 : decode cX7_goes 39 = .ok (.iload_n 3, 1) := by decide +kernel
theorem dX7_goes_40 : decode cX7_goes 40 = .ok (.iload_n 1, 1) := by decide +kernel
