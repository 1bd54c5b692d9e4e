theorem dL_digits_84 : decode cL_digits 84 = .ok (.irem, 1) := by decide +kernel
theorem dL_digits_85 : decode cL_digits 85 = .ok (.iadd, 1) := by decide +kernel
theorem dL_digits_86 : decode cL_digits 86 = .ok (.invokevirtual 42, 3) := by decide +kernel
theorem dL_digits_89 : decode cL_digits 89 = .ok (.ifCond .le 7, 3) := by decide +kernel
theorem dL_digits_92 : decode cL_digits 92 = .ok (.iconst 1, 1) := by decide +kernel
theorem dL_digits_93 : decode cL_digits 93 = .ok (.goto 4, 3) := by decide +kernel
theorem dL_digits_96 : decode cL_digits 96 = .ok (.iconst 0, 1) := by decide +kernel
theorem dL_digits_97 : decode cL_digits 97 = .ok (.ireturn, 1) := by decide +kernel
set_option maxRecDepth 20000 in
theorem ggL_signs_X6_type : GoodIn wsL_signs wsX6_type := goodIn_r _ [5, 6, 7, 8, 9, 10, 11, 12, 13, 14, 15, 16, 17, 18, 19, 20, 21, 22, 23, 24, 25, 26, 27, 28, 29, 30] (by decide +kernel) (by decide +kernel)
set_option maxRecDepth 20000 in
theorem gL_signs_X6_type : GoodIn wsL_signs (wsV RL 42 RX6 yX6_type wsX6_type) := goodIn_app (goodIn_of _ (by decide +kernel)) ggL_signs_X6_type
theorem dL_signs_0 : decode cL_signs 0 = .ok (.aload_n 0, 1) := by decide +kernel
theorem dL_signs_1 : decode cL_signs 1 = .ok (.iload_n 1, 1) := by decide +kernel
theorem dL_signs_2 : decode cL_signs 2 = .ok (.invokevirtual 42, 3) := by decide +kernel
theorem dL_signs_5 : decode cL_signs 5 = .ok (.ifCond .le 32, 3) := by decide +kernel
theorem dL_signs_8 : decode cL_signs 8 = .ok (.aload_n 0, 1) := by decide +kernel
theorem dL_signs_9 : decode cL_signs 9 = .ok (.iload_n 2, 1) := by decide +kernel
theorem dL_signs_10 : decode cL_signs 10 = .ok (.invokevirtual 42, 3) := by decide +kernel
theorem dL_signs_13 : decode cL_signs 13 = .ok (.ifCond .le 24, 3) := by decide +kernel
theorem dL_signs_16 : decode cL_signs 16 = .ok (.aload_n 0, 1) := by decide +kernel
theorem dL_signs_17 : decode cL_signs 17 = .ok (.iload_n 3, 1) := by decide +kernel
theorem dL_signs_18 : decode cL_signs 18 = .ok (.invokevirtual 42, 3) := by decide +kernel
theorem dL_signs_21 : decode cL_signs 21 = .ok (.ifCond .le 16, 3) := by decide +kernel
theorem dL_signs_24 : decode cL_signs 24 = .ok (.aload_n 0, 1) := by decide +kernel
theorem dL_signs_25 : decode cL_signs 25 = .ok (.iload 4, 2) := by decide +kernel
theorem dL_signs_27 : decode cL_signs 27 = .ok (.invokevirtual 42, 3) := by decide +kernel
theorem dL_signs_30 : decode cL_signs 30 = .ok (.ifCond .le 7, 3) := by decide +kernel
theorem dL_signs_33 : decode cL_signs 33 = .ok (.iconst 1, 1) := by decide +kernel
theorem dL_signs_34 : decode cL_signs 34 = .ok (.goto 4, 3) := by decide +kernel
theorem dL_signs_37 : decode cL_signs 37 = .ok (.iconst 0, 1) := by decide +kernel
theorem dL_signs_38 : decode cL_signs 38 = .ok (.ireturn, 1) := by decide +kernel
set_option maxRecDepth 20000 in
theorem ggL_types_L_low : GoodIn wsL_types wsL_low := goodIn_r _ [4, 5] (by decide +kernel) (by decide +kernel)
set_option maxRecDepth 20000 in
theorem gL_types_L_low : GoodIn wsL_types (va_wsS RL 33 yL_low wsL_low) := goodIn_app (goodIn_of _ (by decide +kernel)) ggL_types_L_low
set_option maxRecDepth 20000 in
theorem ggL_types_X6_clearText : GoodIn wsL_types wsX6_clearText := goodIn_r _ [10, 11, 31, 32, 33, 34, 35, 36, 37, 38, 39, 40, 41, 42, 43, 44, 45] (by decide +kernel) (by decide +kernel)
set_option maxRecDepth 20000 in
theorem gL_types_X6_clearText : GoodIn wsL_types (wsV RL 45 RX6 yX6_clearText wsX6_clearText) := goodIn_app (goodIn_of _ (by decide +kernel)) ggL_types_X6_clearText
set_option maxRecDepth 20000 in
theorem ggL_types_L_signs : GoodIn wsL_types wsL_signs := goodIn_r _ [14, 15, 16, 17, 9, 18, 19, 11, 20, 21, 22, 23, 24, 25, 26, 27, 31, 32, 33, 34, 35, 36, 37, 38, 39, 40, 41, 42, 43, 44, 45] (by decide +kernel) (by decide +kernel)
set_option maxRecDepth 20000 in
theorem gL_types_L_signs : GoodIn wsL_types (va_wsS RL 49 yL_signs wsL_signs) := goodIn_app (goodIn_of _ (by decide +kernel)) ggL_types_L_signs
set_option maxRecDepth 20000 in
theorem ggL_types_X6_type : GoodIn wsL_types wsX6_type := goodIn_r _ [18, 19, 11, 20, 21, 22, 23, 24, 25, 26, 27, 31, 32, 33, 34, 35, 36, 37, 38, 39, 40, 41, 42, 43, 44, 45] (by decide +kernel) (by decide +kernel)
set_option maxRecDepth 20000 in
theorem gL_types_X6_type : GoodIn wsL_types (wsV RL 42 RX6 yX6_type wsX6_type) := goodIn_app (goodIn_of _ (by decide +kernel)) ggL_types_X6_type
set_option maxRecDepth 20000 in
theorem ggL_types_L_digits : GoodIn wsL_types wsL_digits := goodIn_r _ [30, 15, 16, 17, 9, 18, 19, 11, 20, 21, 22, 23, 24, 25, 26, 27, 31, 32, 33, 34, 35, 36, 37, 38, 39, 40, 41, 42, 43, 44, 45] (by decide +kernel) (by decide +kernel)
set_option maxRecDepth 20000 in
theorem gL_types_L_digits : GoodIn wsL_types (va_wsS RL 53 yL_digits wsL_digits) := goodIn_app (goodIn_of _ (by decide +kernel)) ggL_types_L_digits
theorem dL_types_0 : decode cL_types 0 = .ok (.iload_n 1, 1) := by decide +kernel
theorem dL_types_1 : decode cL_types 1 = .ok (.iconst 4, 1) := by decide +kernel
theorem dL_types_2 : decode cL_types 2 = .ok (.invokestatic 33, 3) := by decide +kernel
theorem dL_types_5 : decode cL_types 5 = .ok (.istore_n 2, 1) := by decide +kernel
theorem dL_types_6 : decode cL_types 6 = .ok (.aload_n 0, 1) := by decide +kernel
theorem dL_types_7 : decode cL_types 7 = .ok (.invokevirtual 45, 3) := by decide +kernel
theorem dL_types_10 : decode cL_types 10 = .ok (.ifCond .lt 7, 3) := by decide +kernel
theorem dL_types_13 : decode cL_types 13 = .ok (.iconst 1, 1) := by decide +kernel
theorem dL_types_14 : decode cL_types 14 = .ok (.goto 4, 3) := by decide +kernel
theorem dL_types_17 : decode cL_types 17 = .ok (.iconst 0, 1) := by decide +kernel
theorem dL_types_18 : decode cL_types 18 = .ok (.istore_n 3, 1) := by decide +kernel
theorem dL_types_19 : decode cL_types 19 = .ok (.iconst 0, 1) := by decide +kernel
theorem dL_types_20 : decode cL_types 20 = .ok (.istore 4, 2) := by decide +kernel
theorem dL_types_22 : decode cL_types 22 = .ok (.iload 4, 2) := by decide +kernel
theorem dL_types_24 : decode cL_types 24 = .ok (.iload_n 2, 1) := by decide +kernel
theorem dL_types_25 : decode cL_types 25 = .ok (.if_icmp .ge 423, 3) := by decide +kernel
theorem dL_types_28 : decode cL_types 28 = .ok (.iload_n 1, 1) := by decide +kernel
theorem dL_types_29 : decode cL_types 29 = .ok (.iconst 2, 1) := by decide +kernel
theorem dL_types_30 : decode cL_types 30 = .ok (.bipush 6, 2) := by decide +kernel
theorem dL_types_32 : decode cL_types 32 = .ok (.iload 4, 2) := by decide +kernel
theorem dL_types_34 : decode cL_types 34 = .ok (.imul, 1) := by decide +kernel
theorem dL_types_35 : decode cL_types 35 = .ok (.iadd, 1) := by decide +kernel
theorem dL_types_36 : decode cL_types 36 = .ok (.ishr, 1) := by decide +kernel
theorem dL_types_37 : decode cL_types 37 = .ok (.istore 5, 2) := by decide +kernel
theorem dL_types_39 : decode cL_types 39 = .ok (.iload 5, 2) := by decide +kernel
theorem dL_types_41 : decode cL_types 41 = .ok (.bipush 8, 2) := by decide +kernel
theorem dL_types_43 : decode cL_types 43 = .ok (.invokestatic 33, 3) := by decide +kernel
theorem dL_types_46 : decode cL_types 46 = .ok (.istore 6, 2) := by decide +kernel
theorem dL_types_48 : decode cL_types 48 = .ok (.iload 6, 2) := by decide +kernel
theorem dL_types_50 : decode cL_types 50 = .ok (.iconst 2, 1) := by decide +kernel
theorem dL_types_51 : decode cL_types 51 = .ok (.if_icmp .lt 10, 3) := by decide +kernel
theorem dL_types_54 : decode cL_types 54 = .ok (.iload 6, 2) := by decide +kernel
theorem dL_types_56 : decode cL_types 56 = .ok (.bipush 6, 2) := by decide +kernel
theorem dL_types_58 : decode cL_types 58 = .ok (.if_icmp .ne 7, 3) := by decide +kernel
theorem dL_types_61 : decode cL_types 61 = .ok (.iconst 4, 1) := by decide +kernel
theorem dL_types_62 : decode cL_types 62 = .ok (.goto 24, 3) := by decide +kernel
theorem dL_types_65 : decode cL_types 65 = .ok (.iload 6, 2) := by decide +kernel
theorem dL_types_67 : decode cL_types 67 = .ok (.iconst 5, 1) := by decide +kernel
theorem dL_types_68 : decode cL_types 68 = .ok (.if_icmp .ne 7, 3) := by decide +kernel
theorem dL_types_71 : decode cL_types 71 = .ok (.iconst 3, 1) := by decide +kernel
theorem dL_types_72 : decode cL_types 72 = .ok (.goto 14, 3) := by decide +kernel
theorem dL_types_75 : decode cL_types 75 = .ok (.iload 6, 2) := by decide +kernel
theorem dL_types_77 : decode cL_types 77 = .ok (.iconst 4, 1) := by decide +kernel
theorem dL_types_78 : decode cL_types 78 = .ok (.if_icmp .ne 7, 3) := by decide +kernel
theorem dL_types_81 : decode cL_types 81 = .ok (.iconst 2, 1) := by decide +kernel
theorem dL_types_82 : decode cL_types 82 = .ok (.goto 4, 3) := by decide +kernel
theorem dL_types_85 : decode cL_types 85 = .ok (.iconst 1, 1) := by decide +kernel
theorem dL_types_86 : decode cL_types 86 = .ok (.istore 7, 2) := by decide +kernel
theorem dL_types_88 : decode cL_types 88 = .ok (.iload_n 3, 1) := by decide +kernel
theorem dL_types_89 : decode cL_types 89 = .ok (.ifCond .eq 176, 3) := by decide +kernel
theorem dL_types_92 : decode cL_types 92 = .ok (.iload 6, 2) := by decide +kernel
theorem dL_types_94 : decode cL_types 94 = .ok (.iconst 2, 1) := by decide +kernel
theorem dL_types_95 : decode cL_types 95 = .ok (.if_icmp .ge 21, 3) := by decide +kernel
theorem dL_types_98 : decode cL_types 98 = .ok (.aload_n 0, 1) := by decide +kernel
theorem dL_types_99 : decode cL_types 99 = .ok (.bipush 108, 2) := by decide +kernel
theorem dL_types_101 : decode cL_types 101 = .ok (.bipush 101, 2) := by decide +kernel
theorem dL_types_103 : decode cL_types 103 = .ok (.bipush 110, 2) := by decide +kernel
theorem dL_types_105 : decode cL_types 105 = .ok (.bipush 100, 2) := by decide +kernel
theorem dL_types_107 : decode cL_types 107 = .ok (.invokestatic 49, 3) := by decide +kernel
theorem dL_types_110 : decode cL_types 110 = .ok (.ifCond .eq 155, 3) := by decide +kernel
theorem dL_types_113 : decode cL_types 113 = .ok (.goto 148, 3) := by decide +kernel
theorem dL_types_116 : decode cL_types 116 = .ok (.iload 6, 2) := by decide +kernel
theorem dL_types_118 : decode cL_types 118 = .ok (.iconst 2, 1) := by decide +kernel
theorem dL_types_119 : decode cL_types 119 = .ok (.if_icmp .ne 21, 3) := by decide +kernel
theorem dL_types_122 : decode cL_types 122 = .ok (.aload_n 0, 1) := by decide +kernel
theorem dL_types_123 : decode cL_types 123 = .ok (.bipush 98, 2) := by decide +kernel
theorem dL_types_125 : decode cL_types 125 = .ok (.bipush 97, 2) := by decide +kernel
theorem dL_types_127 : decode cL_types 127 = .ok (.bipush 99, 2) := by decide +kernel
theorem dL_types_129 : decode cL_types 129 = .ok (.bipush 107, 2) := by decide +kernel
theorem dL_types_131 : decode cL_types 131 = .ok (.invokestatic 49, 3) := by decide +kernel
theorem dL_types_134 : decode cL_types 134 = .ok (.ifCond .eq 131, 3) := by decide +kernel
theorem dL_types_137 : decode cL_types 137 = .ok (.goto 124, 3) := by decide +kernel
theorem dL_types_140 : decode cL_types 140 = .ok (.iload 6, 2) := by decide +kernel
theorem dL_types_142 : decode cL_types 142 = .ok (.iconst 3, 1) := by decide +kernel
theorem dL_types_143 : decode cL_types 143 = .ok (.if_icmp .ne 21, 3) := by decide +kernel
theorem dL_types_146 : decode cL_types 146 = .ok (.aload_n 0, 1) := by decide +kernel
theorem dL_types_147 : decode cL_types 147 = .ok (.bipush 107, 2) := by decide +kernel
theorem dL_types_149 : decode cL_types 149 = .ok (.bipush 101, 2) := by decide +kernel
theorem dL_types_151 : decode cL_types 151 = .ok (.bipush 101, 2) := by decide +kernel
theorem dL_types_153 : decode cL_types 153 = .ok (.bipush 112, 2) := by decide +kernel
theorem dL_types_155 : decode cL_types 155 = .ok (.invokestatic 49, 3) := by decide +kernel
theorem dL_types_158 : decode cL_types 158 = .ok (.ifCond .eq 107, 3) := by decide +kernel
theorem dL_types_161 : decode cL_types 161 = .ok (.goto 100, 3) := by decide +kernel
theorem dL_types_164 : decode cL_types 164 = .ok (.iload 6, 2) := by decide +kernel
theorem dL_types_166 : decode cL_types 166 = .ok (.iconst 4, 1) := by decide +kernel
theorem dL_types_167 : decode cL_types 167 = .ok (.if_icmp .ne 21, 3) := by decide +kernel
theorem dL_types_170 : decode cL_types 170 = .ok (.aload_n 0, 1) := by decide +kernel
theorem dL_types_171 : decode cL_types 171 = .ok (.bipush 115, 2) := by decide +kernel
theorem dL_types_173 : decode cL_types 173 = .ok (.bipush 101, 2) := by decide +kernel
theorem dL_types_175 : decode cL_types 175 = .ok (.bipush 108, 2) := by decide +kernel
theorem dL_types_177 : decode cL_types 177 = .ok (.bipush 108, 2) := by decide +kernel
theorem dL_types_179 : decode cL_types 179 = .ok (.invokestatic 49, 3) := by decide +kernel
theorem dL_types_182 : decode cL_types 182 = .ok (.ifCond .eq 83, 3) := by decide +kernel
theorem dL_types_185 : decode cL_types 185 = .ok (.goto 76, 3) := by decide +kernel
theorem dL_types_188 : decode cL_types 188 = .ok (.iload 6, 2) := by decide +kernel
theorem dL_types_190 : decode cL_types 190 = .ok (.iconst 5, 1) := by decide +kernel
theorem dL_types_191 : decode cL_types 191 = .ok (.if_icmp .ne 30, 3) := by decide +kernel
theorem dL_types_194 : decode cL_types 194 = .ok (.aload_n 0, 1) := by decide +kernel
theorem dL_types_195 : decode cL_types 195 = .ok (.bipush 103, 2) := by decide +kernel
theorem dL_types_197 : decode cL_types 197 = .ok (.bipush 114, 2) := by decide +kernel
theorem dL_types_199 : decode cL_types 199 = .ok (.bipush 97, 2) := by decide +kernel
theorem dL_types_201 : decode cL_types 201 = .ok (.bipush 100, 2) := by decide +kernel
theorem dL_types_203 : decode cL_types 203 = .ok (.invokestatic 49, 3) := by decide +kernel
theorem dL_types_206 : decode cL_types 206 = .ok (.ifCond .eq 59, 3) := by decide +kernel
theorem dL_types_209 : decode cL_types 209 = .ok (.aload_n 0, 1) := by decide +kernel
theorem dL_types_210 : decode cL_types 210 = .ok (.bipush 101, 2) := by decide +kernel
theorem dL_types_212 : decode cL_types 212 = .ok (.invokevirtual 42, 3) := by decide +kernel
theorem dL_types_215 : decode cL_types 215 = .ok (.ifCond .le 50, 3) := by decide +kernel
theorem dL_types_218 : decode cL_types 218 = .ok (.goto 43, 3) := by decide +kernel
theorem dL_types_221 : decode cL_types 221 = .ok (.iload 6, 2) := by decide +kernel
theorem dL_types_223 : decode cL_types 223 = .ok (.bipush 6, 2) := by decide +kernel
theorem dL_types_225 : decode cL_types 225 = .ok (.if_icmp .ne 21, 3) := by decide +kernel
theorem dL_types_228 : decode cL_types 228 = .ok (.aload_n 0, 1) := by decide +kernel
theorem dL_types_229 : decode cL_types 229 = .ok (.bipush 114, 2) := by decide +kernel
theorem dL_types_231 : decode cL_types 231 = .ok (.bipush 97, 2) := by decide +kernel
theorem dL_types_233 : decode cL_types 233 = .ok (.bipush 116, 2) := by decide +kernel
theorem dL_types_235 : decode cL_types 235 = .ok (.bipush 101, 2) := by decide +kernel
theorem dL_types_237 : decode cL_types 237 = .ok (.invokestatic 49, 3) := by decide +kernel
theorem dL_types_240 : decode cL_types 240 = .ok (.ifCond .eq 25, 3) := by decide +kernel
theorem dL_types_243 : decode cL_types 243 = .ok (.goto 18, 3) := by decide +kernel
theorem dL_types_246 : decode cL_types 246 = .ok (.aload_n 0, 1) := by decide +kernel
theorem dL_types_247 : decode cL_types 247 = .ok (.bipush 119, 2) := by decide +kernel
theorem dL_types_249 : decode cL_types 249 = .ok (.bipush 97, 2) := by decide +kernel
theorem dL_types_251 : decode cL_types 251 = .ok (.bipush 105, 2) := by decide +kernel
theorem dL_types_253 : decode cL_types 253 = .ok (.bipush 116, 2) := by decide +kernel
theorem dL_types_255 : decode cL_types 255 = .ok (.invokestatic 49, 3) := by decide +kernel
theorem dL_types_258 : decode cL_types 258 = .ok (.ifCond .eq 7, 3) := by decide +kernel
theorem dL_types_261 : decode cL_types 261 = .ok (.iconst 1, 1) := by decide +kernel
theorem dL_types_262 : decode cL_types 262 = .ok (.goto 4, 3) := by decide +kernel
theorem dL_types_265 : decode cL_types 265 = .ok (.iconst 0, 1) := by decide +kernel
theorem dL_types_266 : decode cL_types 266 = .ok (.istore_n 3, 1) := by decide +kernel
theorem dL_types_267 : decode cL_types 267 = .ok (.iconst 0, 1) := by decide +kernel
theorem dL_types_268 : decode cL_types 268 = .ok (.istore 8, 2) := by decide +kernel
theorem dL_types_270 : decode cL_types 270 = .ok (.iload 8, 2) := by decide +kernel
theorem dL_types_272 : decode cL_types 272 = .ok (.iload 7, 2) := by decide +kernel
theorem dL_types_274 : decode cL_types 274 = .ok (.if_icmp .ge 112, 3) := by decide +kernel
theorem dL_types_277 : decode cL_types 277 = .ok (.iload 6, 2) := by decide +kernel
theorem dL_types_279 : decode cL_types 279 = .ok (.bipush 7, 2) := by decide +kernel
theorem dL_types_281 : decode cL_types 281 = .ok (.if_icmp .ne 8, 3) := by decide +kernel
theorem dL_types_284 : decode cL_types 284 = .ok (.bipush 20, 2) := by decide +kernel
theorem dL_types_286 : decode cL_types 286 = .ok (.goto 52, 3) := by decide +kernel
theorem dL_types_289 : decode cL_types 289 = .ok (.iload 6, 2) := by decide +kernel
theorem dL_types_291 : decode cL_types 291 = .ok (.iconst 4, 1) := by decide +kernel
theorem dL_types_292 : decode cL_types 292 = .ok (.if_icmp .ne 9, 3) := by decide +kernel
theorem dL_types_295 : decode cL_types 295 = .ok (.iload 8, 2) := by decide +kernel
theorem dL_types_297 : decode cL_types 297 = .ok (.iconst 1, 1) := by decide +kernel
theorem dL_types_298 : decode cL_types 298 = .ok (.if_icmp .eq 16, 3) := by decide +kernel
theorem dL_types_301 : decode cL_types 301 = .ok (.iload 6, 2) := by decide +kernel
theorem dL_types_303 : decode cL_types 303 = .ok (.bipush 6, 2) := by decide +kernel
theorem dL_types_305 : decode cL_types 305 = .ok (.if_icmp .ne 15, 3) := by decide +kernel
theorem dL_types_308 : decode cL_types 308 = .ok (.iload 8, 2) := by decide +kernel
theorem dL_types_310 : decode cL_types 310 = .ok (.iconst 3, 1) := by decide +kernel
theorem dL_types_311 : decode cL_types 311 = .ok (.if_icmp .ne 9, 3) := by decide +kernel
theorem dL_types_314 : decode cL_types 314 = .ok (.sipush 3000, 3) := by decide +kernel
theorem dL_types_317 : decode cL_types 317 = .ok (.goto 21, 3) := by decide +kernel
theorem dL_types_320 : decode cL_types 320 = .ok (.iload 6, 2) := by decide +kernel
theorem dL_types_322 : decode cL_types 322 = .ok (.iconst 2, 1) := by decide +kernel
theorem dL_types_323 : decode cL_types 323 = .ok (.if_icmp .ge 13, 3) := by decide +kernel
theorem dL_types_326 : decode cL_types 326 = .ok (.iload 8, 2) := by decide +kernel
theorem dL_types_328 : decode cL_types 328 = .ok (.iconst 2, 1) := by decide +kernel
theorem dL_types_329 : decode cL_types 329 = .ok (.if_icmp .ge 7, 3) := by decide +kernel
theorem dL_types_332 : decode cL_types 332 = .ok (.iconst 3, 1) := by decide +kernel
theorem dL_types_333 : decode cL_types 333 = .ok (.goto 5, 3) := by decide +kernel
theorem dL_types_336 : decode cL_types 336 = .ok (.bipush 6, 2) := by decide +kernel
theorem dL_types_338 : decode cL_types 338 = .ok (.istore 9, 2) := by decide +kernel
theorem dL_types_340 : decode cL_types 340 = .ok (.iload_n 3, 1) := by decide +kernel
theorem dL_types_341 : decode cL_types 341 = .ok (.ifCond .eq 37, 3) := by decide +kernel
theorem dL_types_344 : decode cL_types 344 = .ok (.aload_n 0, 1) := by decide +kernel
theorem dL_types_345 : decode cL_types 345 = .ok (.bipush 32, 2) := by decide +kernel
theorem dL_types_347 : decode cL_types 347 = .ok (.invokevirtual 42, 3) := by decide +kernel
theorem dL_types_350 : decode cL_types 350 = .ok (.ifCond .le 28, 3) := by decide +kernel
theorem dL_types_353 : decode cL_types 353 = .ok (.aload_n 0, 1) := by decide +kernel
theorem dL_types_354 : decode cL_types 354 = .ok (.iload 5, 2) := by decide +kernel
theorem dL_types_356 : decode cL_types 356 = .ok (.iconst 3, 1) := by decide +kernel
theorem dL_types_357 : decode cL_types 357 = .ok (.iconst 2, 1) := by decide +kernel
theorem dL_types_358 : decode cL_types 358 = .ok (.iload 8, 2) := by decide +kernel
theorem dL_types_360 : decode cL_types 360 = .ok (.imul, 1) := by decide +kernel
theorem dL_types_361 : decode cL_types 361 = .ok (.iadd, 1) := by decide +kernel
theorem dL_types_362 : decode cL_types 362 = .ok (.ishr, 1) := by decide +kernel
theorem dL_types_363 : decode cL_types 363 = .ok (.iload 9, 2) := by decide +kernel
theorem dL_types_365 : decode cL_types 365 = .ok (.invokestatic 33, 3) := by decide +kernel
theorem dL_types_368 : decode cL_types 368 = .ok (.invokestatic 53, 3) := by decide +kernel
theorem dL_types_371 : decode cL_types 371 = .ok (.ifCond .eq 7, 3) := by decide +kernel
theorem dL_types_374 : decode cL_types 374 = .ok (.iconst 1, 1) := by decide +kernel
theorem dL_types_375 : decode cL_types 375 = .ok (.goto 4, 3) := by decide +kernel
theorem dL_types_378 : decode cL_types 378 = .ok (.iconst 0, 1) := by decide +kernel
theorem dL_types_379 : decode cL_types 379 = .ok (.istore_n 3, 1) := by decide +kernel
theorem dL_types_380 : decode cL_types 380 = .ok (.iinc 8 1, 3) := by decide +kernel
theorem dL_types_383 : decode cL_types 383 = .ok (.goto (-113), 3) := by decide +kernel
theorem dL_types_386 : decode cL_types 386 = .ok (.iload_n 3, 1) := by decide +kernel
theorem dL_types_387 : decode cL_types 387 = .ok (.ifCond .eq 53, 3) := by decide +kernel
theorem dL_types_390 : decode cL_types 390 = .ok (.iload_n 1, 1) := by decide +kernel
theorem dL_types_391 : decode cL_types 391 = .ok (.bipush 25, 2) := by decide +kernel
theorem dL_types_393 : decode cL_types 393 = .ok (.ishr, 1) := by decide +kernel
theorem dL_types_394 : decode cL_types 394 = .ok (.bipush 6, 2) := by decide +kernel
theorem dL_types_396 : decode cL_types 396 = .ok (.invokestatic 33, 3) := by decide +kernel
theorem dL_types_399 : decode cL_types 399 = .ok (.ifCond .ne 11, 3) := by decide +kernel
theorem dL_types_402 : decode cL_types 402 = .ok (.iload 4, 2) := by decide +kernel
theorem dL_types_404 : decode cL_types 404 = .ok (.iload_n 2, 1) := by decide +kernel
theorem dL_types_405 : decode cL_types 405 = .ok (.iconst 1, 1) := by decide +kernel
theorem dL_types_406 : decode cL_types 406 = .ok (.isub, 1) := by decide +kernel
theorem dL_types_407 : decode cL_types 407 = .ok (.if_icmp .eq 29, 3) := by decide +kernel
theorem dL_types_410 : decode cL_types 410 = .ok (.aload_n 0, 1) := by decide +kernel
theorem dL_types_411 : decode cL_types 411 = .ok (.iload_n 1, 1) := by decide +kernel
theorem dL_types_412 : decode cL_types 412 = .ok (.bipush 22, 2) := by decide +kernel
theorem dL_types_414 : decode cL_types 414 = .ok (.ishr, 1) := by decide +kernel
theorem dL_types_415 : decode cL_types 415 = .ok (.bipush 9, 2) := by decide +kernel
theorem dL_types_417 : decode cL_types 417 = .ok (.invokestatic 33, 3) := by decide +kernel
theorem dL_types_420 : decode cL_types 420 = .ok (.ifCond .ne 8, 3) := by decide +kernel
theorem dL_types_423 : decode cL_types 423 = .ok (.bipush 32, 2) := by decide +kernel
theorem dL_types_425 : decode cL_types 425 = .ok (.goto 5, 3) := by decide +kernel
theorem dL_types_428 : decode cL_types 428 = .ok (.bipush 59, 2) := by decide +kernel
theorem dL_types_430 : decode cL_types 430 = .ok (.invokevirtual 42, 3) := by decide +kernel
theorem dL_types_433 : decode cL_types 433 = .ok (.ifCond .le 7, 3) := by decide +kernel
theorem dL_types_436 : decode cL_types 436 = .ok (.iconst 1, 1) := by decide +kernel
theorem dL_types_437 : decode cL_types 437 = .ok (.goto 4, 3) := by decide +kernel
theorem dL_types_440 : decode cL_types 440 = .ok (.iconst 0, 1) := by decide +kernel
theorem dL_types_441 : decode cL_types 441 = .ok (.istore_n 3, 1) := by decide +kernel
theorem dL_types_442 : decode cL_types 442 = .ok (.iinc 4 1, 3) := by decide +kernel
theorem dL_types_445 : decode cL_types 445 = .ok (.goto (-423), 3) := by decide +kernel
theorem dL_types_448 : decode cL_types 448 = .ok (.iload_n 3, 1) := by decide +kernel
theorem dL_types_449 : decode cL_types 449 = .ok (.ireturn, 1) := by decide +kernel
set_option maxRecDepth 20000 in
theorem ggL_reads_X6_fault : GoodIn wsL_reads wsX6_fault := goodIn_r _ [8, 9, 10, 11, 12, 13, 14, 15, 16, 17, 18, 19, 20, 21, 22, 23, 24, 25, 26, 27, 28, 29, 30, 31, 32, 33, 34, 35, 36, 37, 38, 39, 40, 41, 42, 43, 44, 45, 46, 47, 48, 49, 50, 51, 52, 53, 54, 55, 56, 57, 58, 59, 60, 61, 62, 63, 64, 65, 66, 67, 68, 69, 70, 71, 72, 73, 74, 75, 76, 77, 78, 79, 80, 81, 82, 83, 84, 85, 86, 87, 88, 89, 90, 91, 92, 93, 94, 95, 96, 97, 98, 99, 100, 101, 102, 103, 104, 105, 106, 107, 108, 109, 110, 111, 112, 113, 114, 115, 116, 117, 118, 119, 120, 121, 122, 123, 124, 125, 126, 127, 128, 129, 130, 131, 132, 133, 134, 135, 136, 137, 138, 139, 140, 141, 142, 143, 144, 145, 146, 147, 148, 149, 150, 151, 152, 153, 154, 155, 156, 157, 158, 159, 160, 161, 162, 163, 164, 165, 166, 167, 168, 169, 170, 171, 172, 173, 174, 175, 176, 177, 178, 179, 180, 181, 182, 183, 184, 185, 186, 187, 188, 189, 190, 191, 192, 193, 194, 195, 196, 197, 198, 199, 200, 201, 202, 203, 204, 205, 206, 207, 208, 209, 210, 211, 212, 213, 214, 215, 216, 217, 218, 219, 220, 221, 222, 223, 224, 225, 226, 227, 228, 229, 230, 231, 232, 233, 234, 235, 236, 237, 238, 239, 240, 241, 242, 243, 244, 245, 246, 247, 248, 249, 250, 251, 252, 253, 7, 254, 255, 256, 257, 258, 259, 260, 261, 262, 263, 264, 265, 266, 267, 268, 269, 270, 271, 272, 273, 274, 275, 276, 277, 278, 279, 280, 281, 282, 283, 284, 285, 286, 287, 288, 289, 352, 353, 354, 355, 356, 357, 358, 359, 360, 361, 362, 363, 364, 365, 366, 367, 368, 369, 370, 371, 372, 373, 374, 375, 376, 377, 378, 379, 380, 381, 382, 383, 384, 385, 386, 387, 388, 389, 390, 391, 392, 393, 394, 395] (by decide +kernel) (by decide +kernel)
set_option maxRecDepth 20000 in
theorem gL_reads_X6_fault : GoodIn wsL_reads (wsV RL 57 RX6 yX6_fault wsX6_fault) := goodIn_app (goodIn_of _ (by decide +kernel)) ggL_reads_X6_fault
set_option maxRecDepth 20000 in
theorem ggL_reads_X6_count : GoodIn wsL_reads wsX6_count := goodIn_r _ [293, 294, 12, 295, 11, 296, 297, 298, 16, 299, 26, 19, 20, 18, 27, 244, 30, 28, 29, 181, 300, 301, 302, 44, 303, 46, 304, 246, 247, 248, 55, 305, 306, 307, 308, 309, 214, 215, 216, 53, 310, 311, 312, 313, 314, 315, 316, 317, 217, 218, 219, 220, 318, 319, 320, 34, 321, 40, 322, 323, 324, 325, 21, 326, 327, 328, 329, 352, 353, 354, 355, 356, 357, 358, 396, 397, 398, 388, 389, 390, 391, 392, 393, 394, 395, 359, 360, 361, 362, 363, 364, 365, 366, 367, 372, 373, 374, 375, 376, 377, 378, 379, 380, 381, 382, 383, 384, 385, 386, 387, 368, 369, 370, 371] (by decide +kernel) (by decide +kernel)
set_option maxRecDepth 20000 in
theorem gL_reads_X6_count : GoodIn wsL_reads (wsV RL 13 RX6 yX6_count wsX6_count) := goodIn_app (goodIn_of _ (by decide +kernel)) ggL_reads_X6_count
set_option maxRecDepth 20000 in
theorem ggL_reads_X6_play : GoodIn wsL_reads wsX6_play := goodIn_r _ [333, 10, 11, 12, 334, 294, 13, 14, 15, 16, 17, 18, 19, 20, 21, 22, 23, 24, 25, 26, 27, 28, 29, 30, 31, 32, 33, 34, 35, 36, 37, 38, 39, 40, 41, 42, 43, 44, 45, 46, 47, 48, 49, 50, 51, 52, 53, 54, 55, 56, 57, 58, 59, 60, 61, 62, 63, 64, 65, 66, 67, 68, 69, 70, 71, 72, 73, 74, 75, 76, 77, 78, 79, 80, 81, 82, 83, 84, 85, 86, 87, 88, 89, 90, 91, 92, 93, 94, 95, 96, 97, 98, 99, 100, 101, 102, 103, 104, 105, 106, 107, 108, 109, 110, 111, 112, 113, 114, 115, 116, 117, 118, 119, 120, 121, 122, 123, 124, 125, 126, 127, 128, 129, 130, 131, 132, 133, 134, 135, 136, 137, 138, 139, 140, 141, 142, 143, 144, 145, 146, 147, 148, 149, 150, 151, 152, 153, 154, 155, 156, 157, 158, 159, 160, 161, 162, 163, 164, 165, 166, 167, 168, 169, 170, 171, 172, 173, 174, 175, 176, 177, 178, 179, 180, 181, 182, 183, 184, 185, 186, 187, 188, 189, 190, 191, 192, 193, 194, 195, 196, 197, 198, 199, 200, 201, 202, 203, 204, 205, 206, 207, 208, 209, 210, 211, 212, 213, 214, 215, 216, 217, 218, 219, 220, 221, 222, 223, 224, 225, 226, 227, 228, 229, 230, 231, 232, 233, 234, 235, 236, 237, 238, 239, 240, 241, 242, 243, 244, 245, 246, 247, 248, 249, 250, 251, 252, 253, 7, 254, 255, 256, 257, 258, 259, 260, 261, 262, 263, 264, 265, 266, 267, 268, 269, 270, 271, 272, 273, 274, 275, 276, 277, 278, 279, 280, 281, 282, 283, 284, 285, 335, 336, 337, 338, 339, 340, 341, 342, 343, 344, 345, 346, 347, 348, 349, 350, 351, 352, 353, 354, 355, 356, 357, 358, 359, 360, 361, 362, 363, 364, 365, 366, 367, 368, 369, 370, 371, 372, 373, 374, 375, 376, 377, 378, 379, 380, 381, 382, 383, 384, 385, 386, 387, 388, 389, 390, 391, 392, 393, 394, 395, 396, 397, 398] (by decide +kernel) (by decide +kernel)
set_option maxRecDepth 20000 in
theorem gL_reads_X6_play : GoodIn wsL_reads (wsV RL 60 RX6 yX6_play wsX6_play) := goodIn_app (goodIn_of _ (by decide +kernel)) ggL_reads_X6_play
theorem dL_reads_0 : decode cL_reads 0 = .ok (.aload_n 0, 1) := by decide +kernel
theorem dL_reads_1 : decode cL_reads 1 = .ok (.iconst 0, 1) := by decide +kernel
theorem dL_reads_2 : decode cL_reads 2 = .ok (.invokevirtual 57, 3) := by decide +kernel
theorem dL_reads_5 : decode cL_reads 5 = .ok (.istore_n 1, 1) := by decide +kernel
theorem dL_reads_6 : decode cL_reads 6 = .ok (.aload_n 0, 1) := by decide +kernel
theorem dL_reads_7 : decode cL_reads 7 = .ok (.iconst 1, 1) := by decide +kernel
theorem dL_reads_8 : decode cL_reads 8 = .ok (.invokevirtual 57, 3) := by decide +kernel
theorem dL_reads_11 : decode cL_reads 11 = .ok (.istore_n 2, 1) := by decide +kernel
theorem dL_reads_12 : decode cL_reads 12 = .ok (.aload_n 0, 1) := by decide +kernel
theorem dL_reads_13 : decode cL_reads 13 = .ok (.iconst 2, 1) := by decide +kernel
theorem dL_reads_14 : decode cL_reads 14 = .ok (.invokevirtual 57, 3) := by decide +kernel
theorem dL_reads_17 : decode cL_reads 17 = .ok (.istore_n 3, 1) := by decide +kernel
theorem dL_reads_18 : decode cL_reads 18 = .ok (.aload_n 0, 1) := by decide +kernel
theorem dL_reads_19 : decode cL_reads 19 = .ok (.bipush 12, 2) := by decide +kernel
theorem dL_reads_21 : decode cL_reads 21 = .ok (.invokevirtual 13, 3) := by decide +kernel
theorem dL_reads_24 : decode cL_reads 24 = .ok (.istore 4, 2) := by decide +kernel
theorem dL_reads_26 : decode cL_reads 26 = .ok (.aload_n 0, 1) := by decide +kernel
theorem dL_reads_27 : decode cL_reads 27 = .ok (.invokevirtual 60, 3) := by decide +kernel
theorem dL_reads_30 : decode cL_reads 30 = .ok (.istore 5, 2) := by decide +kernel
theorem dL_reads_32 : decode cL_reads 32 = .ok (.iload_n 1, 1) := by decide +kernel
theorem dL_reads_33 : decode cL_reads 33 = .ok (.ldc 63, 2) := by decide +kernel
theorem dL_reads_35 : decode cL_reads 35 = .ok (.if_icmp .ne 34, 3) := by decide +kernel
theorem dL_reads_38 : decode cL_reads 38 = .ok (.iload_n 2, 1) := by decide +kernel
theorem dL_reads_39 : decode cL_reads 39 = .ok (.ldc 63, 2) := by decide +kernel
theorem dL_reads_41 : decode cL_reads 41 = .ok (.if_icmp .ne 28, 3) := by decide +kernel
theorem dL_reads_44 : decode cL_reads 44 = .ok (.iload_n 3, 1) := by decide +kernel
theorem dL_reads_45 : decode cL_reads 45 = .ok (.ldc 63, 2) := by decide +kernel
theorem dL_reads_47 : decode cL_reads 47 = .ok (.if_icmp .ne 22, 3) := by decide +kernel
theorem dL_reads_50 : decode cL_reads 50 = .ok (.iload 5, 2) := by decide +kernel
theorem dL_reads_52 : decode cL_reads 52 = .ok (.ifCond .lt 17, 3) := by decide +kernel
theorem dL_reads_55 : decode cL_reads 55 = .ok (.bipush 7, 2) := by decide +kernel
theorem dL_reads_57 : decode cL_reads 57 = .ok (.iload 5, 2) := by decide +kernel
theorem dL_reads_59 : decode cL_reads 59 = .ok (.imul, 1) := by decide +kernel
theorem dL_reads_60 : decode cL_reads 60 = .ok (.iload 4, 2) := by decide +kernel
theorem dL_reads_62 : decode cL_reads 62 = .ok (.if_icmp .gt 7, 3) := by decide +kernel
theorem dL_reads_65 : decode cL_reads 65 = .ok (.iconst 1, 1) := by decide +kernel
theorem dL_reads_66 : decode cL_reads 66 = .ok (.goto 4, 3) := by decide +kernel
theorem dL_reads_69 : decode cL_reads 69 = .ok (.iconst 0, 1) := by decide +kernel
theorem dL_reads_70 : decode cL_reads 70 = .ok (.istore 6, 2) := by decide +kernel
theorem dL_reads_72 : decode cL_reads 72 = .ok (.iload_n 1, 1) := by decide +kernel
theorem dL_reads_73 : decode cL_reads 73 = .ok (.ifCond .lt 48, 3) := by decide +kernel
theorem dL_reads_76 : decode cL_reads 76 = .ok (.iload_n 1, 1) := by decide +kernel
theorem dL_reads_77 : decode cL_reads 77 = .ok (.iload 4, 2) := by decide +kernel
theorem dL_reads_79 : decode cL_reads 79 = .ok (.if_icmp .ge 42, 3) := by decide +kernel
theorem dL_reads_82 : decode cL_reads 82 = .ok (.iload 5, 2) := by decide +kernel
theorem dL_reads_84 : decode cL_reads 84 = .ok (.ldc 64, 2) := by decide +kernel
theorem dL_reads_86 : decode cL_reads 86 = .ok (.if_icmp .ne 35, 3) := by decide +kernel
theorem dL_reads_89 : decode cL_reads 89 = .ok (.iload_n 2, 1) := by decide +kernel
theorem dL_reads_90 : decode cL_reads 90 = .ok (.iconst 1, 1) := by decide +kernel
theorem dL_reads_91 : decode cL_reads 91 = .ok (.if_icmp .ne 9, 3) := by decide +kernel
theorem dL_reads_94 : decode cL_reads 94 = .ok (.iload_n 3, 1) := by decide +kernel
theorem dL_reads_95 : decode cL_reads 95 = .ok (.ldc 63, 2) := by decide +kernel
theorem dL_reads_97 : decode cL_reads 97 = .ok (.if_icmp .eq 20, 3) := by decide +kernel
theorem dL_reads_100 : decode cL_reads 100 = .ok (.iload_n 2, 1) := by decide +kernel
theorem dL_reads_101 : decode cL_reads 101 = .ok (.iconst 2, 1) := by decide +kernel
theorem dL_reads_102 : decode cL_reads 102 = .ok (.if_icmp .ne 19, 3) := by decide +kernel
theorem dL_reads_105 : decode cL_reads 105 = .ok (.iload_n 3, 1) := by decide +kernel
theorem dL_reads_106 : decode cL_reads 106 = .ok (.ldc 65, 2) := by decide +kernel
theorem dL_reads_108 : decode cL_reads 108 = .ok (.if_icmp .gt 13, 3) := by decide +kernel
theorem dL_reads_111 : decode cL_reads 111 = .ok (.iload_n 3, 1) := by decide +kernel
theorem dL_reads_112 : decode cL_reads 112 = .ok (.ldc 63, 2) := by decide +kernel
theorem dL_reads_114 : decode cL_reads 114 = .ok (.if_icmp .le 7, 3) := by decide +kernel
theorem dL_reads_117 : decode cL_reads 117 = .ok (.iconst 1, 1) := by decide +kernel
theorem dL_reads_118 : decode cL_reads 118 = .ok (.goto 4, 3) := by decide +kernel
theorem dL_reads_121 : decode cL_reads 121 = .ok (.iconst 0, 1) := by decide +kernel
theorem dL_reads_122 : decode cL_reads 122 = .ok (.istore 7, 2) := by decide +kernel
theorem dL_reads_124 : decode cL_reads 124 = .ok (.iload 6, 2) := by decide +kernel
theorem dL_reads_126 : decode cL_reads 126 = .ok (.ifCond .ne 8, 3) := by decide +kernel
theorem dL_reads_129 : decode cL_reads 129 = .ok (.iload 7, 2) := by decide +kernel
theorem dL_reads_131 : decode cL_reads 131 = .ok (.ifCond .eq 18, 3) := by decide +kernel
theorem dL_reads_134 : decode cL_reads 134 = .ok (.aload_n 0, 1) := by decide +kernel
theorem dL_reads_135 : decode cL_reads 135 = .ok (.bipush 12, 2) := by decide +kernel
theorem dL_reads_137 : decode cL_reads 137 = .ok (.invokevirtual 13, 3) := by decide +kernel
theorem dL_reads_140 : decode cL_reads 140 = .ok (.iload 4, 2) := by decide +kernel
theorem dL_reads_142 : decode cL_reads 142 = .ok (.if_icmp .ne 7, 3) := by decide +kernel
theorem dL_reads_145 : decode cL_reads 145 = .ok (.iconst 1, 1) := by decide +kernel
theorem dL_reads_146 : decode cL_reads 146 = .ok (.goto 4, 3) := by decide +kernel
theorem dL_reads_149 : decode cL_reads 149 = .ok (.iconst 0, 1) := by decide +kernel
theorem dL_reads_150 : decode cL_reads 150 = .ok (.ireturn, 1) := by decide +kernel
set_option maxRecDepth 20000 in
theorem ggL_acts_L_low : GoodIn wsL_acts wsL_low := goodIn_r _ [7, 8] (by decide +kernel) (by decide +kernel)
set_option maxRecDepth 20000 in
theorem gL_acts_L_low : GoodIn wsL_acts (va_wsS RL 33 yL_low wsL_low) := goodIn_app (goodIn_of _ (by decide +kernel)) ggL_acts_L_low
set_option maxRecDepth 20000 in
theorem ggL_acts_X6_count : GoodIn wsL_acts wsX6_count := goodIn_r _ [13, 14, 15, 16, 17, 18, 19, 20, 21, 22, 23, 24, 25, 26, 27, 28, 29, 30, 31, 32, 33, 34, 35, 36, 37, 38, 39, 40, 41, 42, 43, 44, 45, 46, 47, 48, 49, 50, 51, 52, 53, 54, 55, 56, 57, 58, 59, 60, 61, 62, 63, 64, 65, 66, 67, 68, 69, 70, 71, 72, 73, 74, 75, 76, 77, 78, 79, 516, 517, 518, 519, 520, 521, 522, 523, 524, 525, 526, 527, 528, 529, 530, 531, 532, 533, 534, 535, 536, 537, 538, 539, 540, 541, 542, 543, 544, 545, 546, 547, 548, 549, 550, 551, 552, 553, 554, 555, 556, 557, 558, 559, 560, 561, 562] (by decide +kernel) (by decide +kernel)
set_option maxRecDepth 20000 in
theorem gL_acts_X6_count : GoodIn wsL_acts (wsV RL 13 RX6 yX6_count wsX6_count) := goodIn_app (goodIn_of _ (by decide +kernel)) ggL_acts_X6_count
set_option maxRecDepth 20000 in
theorem ggL_acts_X6_stoneOf : GoodIn wsL_acts wsX6_stoneOf := goodIn_r _ [83, 17, 84, 85, 86, 87, 36, 88, 38, 89, 90, 91, 21, 92, 24, 93, 32, 94, 95, 96, 97, 98, 99, 40, 41, 42, 43, 100, 101, 102, 103, 26, 104, 105, 106, 68, 107, 70, 108, 109, 110, 111, 49, 50, 51, 52, 516, 517, 518, 519, 520, 521, 522, 534, 535, 536, 537, 538, 539, 540, 541, 542, 543, 544, 545, 546, 547, 548, 549, 550, 551, 552, 559, 560, 561, 562] (by decide +kernel) (by decide +kernel)
set_option maxRecDepth 20000 in
theorem gL_acts_X6_stoneOf : GoodIn wsL_acts (wsV RL 19 RX6 yX6_stoneOf wsX6_stoneOf) := goodIn_app (goodIn_of _ (by decide +kernel)) ggL_acts_X6_stoneOf
set_option maxRecDepth 20000 in
theorem ggL_acts_X6_stone : GoodIn wsL_acts wsX6_stone := goodIn_r _ [115, 116, 17, 117, 118, 119, 21, 120, 26, 24, 25, 75, 121, 122, 123, 124, 23, 27, 30, 31, 29, 125, 126, 127, 68, 128, 108, 129, 109, 110, 70, 130, 131, 132, 36, 133, 38, 98, 134, 135, 136, 137, 138, 52, 139, 43, 140, 141, 142, 143, 144, 145, 146, 147, 148, 149, 150, 151, 152, 153, 154, 155, 156, 32, 157, 158, 159, 160, 161, 162, 12, 163, 164, 165, 166, 167, 168, 169, 170, 171, 14, 172, 173, 174, 175, 176, 177, 178, 179, 180, 181, 182, 183, 184, 516, 517, 518, 519, 520, 521, 522, 534, 535, 536, 537, 538, 539, 540, 541, 542, 559, 560, 561, 562, 543, 544, 545, 546, 547, 548, 549, 550, 551, 552, 553, 554, 555, 556, 557, 558, 523, 524, 525] (by decide +kernel) (by decide +kernel)
set_option maxRecDepth 20000 in
theorem gL_acts_X6_stone : GoodIn wsL_acts (wsV RL 66 RX6 yX6_stone wsX6_stone) := goodIn_app (goodIn_of _ (by decide +kernel)) ggL_acts_X6_stone
set_option maxRecDepth 20000 in
theorem ggL_acts_X6_dealer : GoodIn wsL_acts wsX6_dealer := goodIn_r _ [188, 116, 17, 117, 118, 119, 21, 120, 26, 24, 25, 75, 121, 122, 123, 124, 23, 27, 30, 31, 29, 125, 126, 127, 68, 128, 108, 129, 109, 110, 70, 130, 131, 132, 36, 133, 38, 98, 134, 135, 136, 137, 138, 52, 139, 43, 140, 141, 142, 143, 144, 145, 146, 147, 148, 149, 150, 151, 152, 189, 190, 191, 192, 157, 168, 169, 170, 12, 171, 14, 172, 173, 174, 175, 176, 177, 178, 179, 180, 181, 182, 183, 184, 516, 517, 518, 519, 520, 521, 522, 534, 535, 536, 537, 538, 539, 540, 541, 542, 559, 560, 561, 562, 543, 544, 545, 546, 547, 548, 549, 550, 551, 552, 553, 554, 555, 556, 557, 558, 523, 524, 525] (by decide +kernel) (by decide +kernel)
set_option maxRecDepth 20000 in
theorem gL_acts_X6_dealer : GoodIn wsL_acts (wsV RL 70 RX6 yX6_dealer wsX6_dealer) := goodIn_app (goodIn_of _ (by decide +kernel)) ggL_acts_X6_dealer
set_option maxRecDepth 20000 in
theorem ggL_acts_X6_rateOf : GoodIn wsL_acts wsX6_rateOf := goodIn_r _ [196, 84, 17, 197, 198, 199, 12, 200, 201, 162, 163, 202, 203, 204, 68, 205, 70, 206, 207, 208, 209, 108, 109, 110, 210, 105, 106, 107, 516, 517, 518, 519, 520, 521, 522, 534, 535, 536, 537, 538, 539, 540, 541, 542, 559, 560, 561, 562] (by decide +kernel) (by decide +kernel)
set_option maxRecDepth 20000 in
theorem gL_acts_X6_rateOf : GoodIn wsL_acts (wsV RL 29 RX6 yX6_rateOf wsX6_rateOf) := goodIn_app (goodIn_of _ (by decide +kernel)) ggL_acts_X6_rateOf
set_option maxRecDepth 20000 in
theorem ggL_acts_X6_unrate : GoodIn wsL_acts wsX6_unrate := goodIn_r _ [214, 116, 17, 117, 118, 119, 21, 120, 26, 24, 25, 75, 121, 122, 123, 124, 23, 27, 30, 31, 29, 125, 126, 127, 68, 128, 108, 129, 109, 110, 70, 130, 131, 132, 36, 133, 38, 98, 134, 135, 136, 137, 138, 52, 139, 43, 140, 141, 142, 143, 144, 145, 146, 147, 148, 149, 150, 151, 152, 215, 216, 217, 218, 32, 219, 199, 12, 200, 201, 162, 163, 220, 203, 204, 205, 206, 207, 208, 209, 221, 222, 223, 224, 168, 169, 170, 171, 14, 172, 173, 174, 175, 176, 177, 178, 179, 180, 181, 182, 183, 184, 516, 517, 518, 519, 520, 521, 522, 534, 535, 536, 537, 538, 539, 540, 541, 542, 559, 560, 561, 562, 543, 544, 545, 546, 547, 548, 549, 550, 551, 552, 553, 554, 555, 556, 557, 558, 523, 524, 525] (by decide +kernel) (by decide +kernel)
set_option maxRecDepth 20000 in
theorem gL_acts_X6_unrate : GoodIn wsL_acts (wsV RL 73 RX6 yX6_unrate wsX6_unrate) := goodIn_app (goodIn_of _ (by decide +kernel)) ggL_acts_X6_unrate
set_option maxRecDepth 20000 in
theorem ggL_acts_X6_rate : GoodIn wsL_acts wsX6_rate := goodIn_r _ [228, 116, 17, 117, 118, 119, 21, 120, 26, 24, 25, 75, 121, 122, 123, 124, 23, 27, 30, 31, 29, 125, 126, 127, 68, 128, 108, 129, 109, 110, 70, 130, 131, 132, 36, 133, 38, 98, 134, 135, 136, 137, 138, 52, 139, 43, 140, 141, 142, 143, 144, 145, 146, 147, 148, 149, 150, 151, 152, 229, 230, 231, 232, 32, 157, 199, 12, 200, 201, 162, 163, 220, 203, 204, 205, 206, 207, 208, 209, 221, 222, 223, 224, 233, 234, 235, 236, 168, 169, 170, 171, 14, 172, 173, 174, 175, 176, 177, 178, 179, 180, 181, 182, 183, 184, 516, 517, 518, 519, 520, 521, 522, 534, 535, 536, 537, 538, 539, 540, 541, 542, 559, 560, 561, 562, 543, 544, 545, 546, 547, 548, 549, 550, 551, 552, 553, 554, 555, 556, 557, 558, 523, 524, 525] (by decide +kernel) (by decide +kernel)
set_option maxRecDepth 20000 in
theorem gL_acts_X6_rate : GoodIn wsL_acts (wsV RL 77 RX6 yX6_rate wsX6_rate) := goodIn_app (goodIn_of _ (by decide +kernel)) ggL_acts_X6_rate
set_option maxRecDepth 20000 in
theorem ggL_acts_X6_lend : GoodIn wsL_acts wsX6_lend := goodIn_r _ [240, 116, 17, 117, 118, 119, 21, 120, 26, 24, 25, 75, 121, 122, 123, 124, 23, 27, 30, 31, 29, 125, 126, 127, 68, 128, 108, 129, 109, 110, 70, 130, 131, 132, 36, 133, 38, 98, 134, 135, 136, 137, 138, 52, 139, 43, 140, 141, 142, 143, 144, 145, 146, 147, 148, 149, 150, 151, 152, 241, 242, 243, 244, 32, 219, 157, 158, 159, 160, 161, 245, 246, 247, 248, 100, 101, 102, 103, 94, 95, 96, 97, 104, 105, 106, 107, 249, 250, 251, 252, 168, 169, 170, 12, 171, 14, 172, 173, 174, 175, 176, 177, 178, 179, 180, 181, 182, 183, 184, 516, 517, 518, 519, 520, 521, 522, 534, 535, 536, 537, 538, 539, 540, 541, 542, 559, 560, 561, 562, 543, 544, 545, 546, 547, 548, 549, 550, 551, 552, 553, 554, 555, 556, 557, 558, 523, 524, 525] (by decide +kernel) (by decide +kernel)
set_option maxRecDepth 20000 in
theorem gL_acts_X6_lend : GoodIn wsL_acts (wsV RL 80 RX6 yX6_lend wsX6_lend) := goodIn_app (goodIn_of _ (by decide +kernel)) ggL_acts_X6_lend
set_option maxRecDepth 20000 in
theorem ggL_acts_X6_memoOf : GoodIn wsL_acts wsX6_memoOf := goodIn_r _ [256, 17, 84, 257, 258, 259, 144, 260, 146, 261, 262, 263, 21, 264, 25, 24, 27, 265, 266, 267, 268, 32, 61, 62, 63, 36, 64, 38, 57, 58, 59, 60, 516, 517, 518, 519, 520, 521, 522, 534, 535, 536, 537, 538, 539, 540, 541, 542, 553, 554, 555, 556, 557, 558, 543, 544, 545, 546, 547, 548, 549, 550, 551, 552] (by decide +kernel) (by decide +kernel)
set_option maxRecDepth 20000 in
theorem gL_acts_X6_memoOf : GoodIn wsL_acts (wsV RL 26 RX6 yX6_memoOf wsX6_memoOf) := goodIn_app (goodIn_of _ (by decide +kernel)) ggL_acts_X6_memoOf
set_option maxRecDepth 20000 in
theorem ggL_acts_X6_back : GoodIn wsL_acts wsX6_back := goodIn_r _ [272, 116, 17, 117, 118, 119, 21, 120, 26, 24, 25, 75, 121, 122, 123, 124, 23, 27, 30, 31, 29, 125, 126, 127, 68, 128, 108, 129, 109, 110, 70, 130, 131, 132, 36, 133, 38, 98, 134, 135, 136, 137, 138, 52, 139, 43, 140, 141, 142, 143, 144, 145, 146, 147, 148, 149, 150, 151, 152, 273, 274, 275, 276, 32, 219, 277, 86, 87, 88, 111, 49, 50, 51, 61, 62, 63, 64, 278, 279, 280, 281, 282, 283, 284, 168, 169, 170, 12, 171, 14, 172, 173, 174, 175, 176, 177, 178, 179, 180, 181, 182, 183, 184, 516, 517, 518, 519, 520, 521, 522, 534, 535, 536, 537, 538, 539, 540, 541, 542, 559, 560, 561, 562, 543, 544, 545, 546, 547, 548, 549, 550, 551, 552, 553, 554, 555, 556, 557, 558, 523, 524, 525] (by decide +kernel) (by decide +kernel)
set_option maxRecDepth 20000 in
theorem gL_acts_X6_back : GoodIn wsL_acts (wsV RL 83 RX6 yX6_back wsX6_back) := goodIn_app (goodIn_of _ (by decide +kernel)) ggL_acts_X6_back
set_option maxRecDepth 20000 in
theorem ggL_acts_X6_keep : GoodIn wsL_acts wsX6_keep := goodIn_r _ [288, 116, 17, 117, 118, 119, 21, 120, 26, 24, 25, 75, 121, 122, 123, 124, 23, 27, 30, 31, 29, 125, 126, 127, 68, 128, 108, 129, 109, 110, 70, 130, 131, 132, 36, 133, 38, 98, 134, 135, 136, 137, 138, 52, 139, 43, 140, 141, 142, 143, 144, 145, 146, 147, 148, 149, 150, 151, 152, 289, 290, 291, 292, 32, 219, 277, 86, 87, 88, 111, 49, 50, 51, 293, 294, 295, 296, 158, 159, 160, 161, 297, 258, 259, 260, 168, 169, 170, 12, 171, 14, 172, 173, 174, 175, 176, 177, 178, 179, 180, 181, 182, 183, 184, 516, 517, 518, 519, 520, 521, 522, 534, 535, 536, 537, 538, 539, 540, 541, 542, 559, 560, 561, 562, 543, 544, 545, 546, 547, 548, 549, 550, 551, 552, 553, 554, 555, 556, 557, 558, 523, 524, 525] (by decide +kernel) (by decide +kernel)
set_option maxRecDepth 20000 in
theorem gL_acts_X6_keep : GoodIn wsL_acts (wsV RL 86 RX6 yX6_keep wsX6_keep) := goodIn_app (goodIn_of _ (by decide +kernel)) ggL_acts_X6_keep
set_option maxRecDepth 20000 in
theorem ggL_acts_X6_dealerOf : GoodIn wsL_acts wsX6_dealerOf := goodIn_r _ [301, 17, 84, 302, 159, 160, 21, 161, 23, 303, 304, 305, 306, 75, 28, 24, 32, 61, 62, 63, 36, 64, 38, 307, 308, 309, 310, 100, 101, 102, 103, 26, 94, 95, 96, 97, 98, 104, 105, 106, 68, 107, 70, 108, 109, 110, 311, 312, 313, 314, 139, 48, 49, 50, 51, 52, 516, 517, 518, 519, 520, 521, 522, 534, 535, 536, 537, 538, 539, 540, 541, 542, 543, 544, 545, 546, 547, 548, 549, 550, 551, 552, 559, 560, 561, 562] (by decide +kernel) (by decide +kernel)
set_option maxRecDepth 20000 in
theorem gL_acts_X6_dealerOf : GoodIn wsL_acts (wsV RL 23 RX6 yX6_dealerOf wsX6_dealerOf) := goodIn_app (goodIn_of _ (by decide +kernel)) ggL_acts_X6_dealerOf
set_option maxRecDepth 20000 in
theorem ggL_acts_X6_sell : GoodIn wsL_acts wsX6_sell := goodIn_r _ [318, 116, 17, 117, 118, 119, 21, 120, 26, 24, 25, 75, 121, 122, 123, 124, 23, 27, 30, 31, 29, 125, 126, 127, 68, 128, 108, 129, 109, 110, 70, 130, 131, 132, 36, 133, 38, 98, 134, 135, 136, 137, 138, 52, 139, 43, 140, 141, 142, 143, 144, 145, 146, 147, 148, 149, 150, 151, 152, 319, 320, 321, 322, 32, 219, 28, 277, 86, 87, 88, 111, 49, 50, 51, 99, 40, 41, 42, 158, 159, 160, 161, 168, 169, 170, 12, 171, 14, 172, 173, 174, 175, 176, 177, 178, 179, 180, 181, 182, 183, 184, 516, 517, 518, 519, 520, 521, 522, 534, 535, 536, 537, 538, 539, 540, 541, 542, 559, 560, 561, 562, 543, 544, 545, 546, 547, 548, 549, 550, 551, 552, 553, 554, 555, 556, 557, 558, 523, 524, 525] (by decide +kernel) (by decide +kernel)
set_option maxRecDepth 20000 in
theorem gL_acts_X6_sell : GoodIn wsL_acts (wsV RL 89 RX6 yX6_sell wsX6_sell) := goodIn_app (goodIn_of _ (by decide +kernel)) ggL_acts_X6_sell
set_option maxRecDepth 20000 in
theorem ggL_acts_X6_grade : GoodIn wsL_acts wsX6_grade := goodIn_r _ [326, 116, 17, 117, 118, 119, 21, 120, 26, 24, 25, 75, 121, 122, 123, 124, 23, 27, 30, 31, 29, 125, 126, 127, 68, 128, 108, 129, 109, 110, 70, 130, 131, 132, 36, 133, 38, 98, 134, 135, 136, 137, 138, 52, 139, 43, 140, 141, 142, 143, 144, 145, 146, 147, 148, 149, 150, 151, 152, 327, 328, 329, 330, 32, 219, 277, 86, 87, 88, 162, 12, 163, 99, 40, 41, 42, 100, 101, 102, 103, 94, 95, 96, 97, 104, 105, 106, 107, 111, 49, 50, 51, 168, 169, 170, 171, 14, 172, 173, 174, 175, 176, 177, 178, 179, 180, 181, 182, 183, 184, 516, 517, 518, 519, 520, 521, 522, 534, 535, 536, 537, 538, 539, 540, 541, 542, 559, 560, 561, 562, 543, 544, 545, 546, 547, 548, 549, 550, 551, 552, 553, 554, 555, 556, 557, 558, 523, 524, 525] (by decide +kernel) (by decide +kernel)
set_option maxRecDepth 20000 in
theorem gL_acts_X6_grade : GoodIn wsL_acts (wsV RL 92 RX6 yX6_grade wsX6_grade) := goodIn_app (goodIn_of _ (by decide +kernel)) ggL_acts_X6_grade
set_option maxRecDepth 20000 in
theorem ggL_acts_X6_pause : GoodIn wsL_acts wsX6_pause := goodIn_r _ [334, 116, 17, 117, 118, 119, 21, 120, 26, 24, 25, 75, 121, 122, 123, 124, 23, 27, 30, 31, 29, 125, 126, 127, 68, 128, 108, 129, 109, 110, 70, 130, 131, 132, 36, 133, 38, 98, 134, 135, 136, 137, 138, 52, 139, 43, 140, 141, 142, 143, 144, 145, 146, 147, 148, 149, 150, 151, 152, 335, 336, 337, 338, 32, 157, 339, 340, 341, 342, 293, 294, 295, 296, 158, 159, 160, 161, 297, 258, 259, 260, 168, 169, 170, 12, 171, 14, 172, 173, 174, 175, 176, 177, 178, 179, 180, 181, 182, 183, 184, 516, 517, 518, 519, 520, 521, 522, 534, 535, 536, 537, 538, 539, 540, 541, 542, 559, 560, 561, 562, 543, 544, 545, 546, 547, 548, 549, 550, 551, 552, 553, 554, 555, 556, 557, 558, 523, 524, 525] (by decide +kernel) (by decide +kernel)
set_option maxRecDepth 20000 in
theorem gL_acts_X6_pause : GoodIn wsL_acts (wsV RL 95 RX6 yX6_pause wsX6_pause) := goodIn_app (goodIn_of _ (by decide +kernel)) ggL_acts_X6_pause
set_option maxRecDepth 20000 in
theorem ggL_acts_X6_set : GoodIn wsL_acts wsX6_set := goodIn_r _ [346, 116, 17, 117, 118, 119, 21, 120, 26, 24, 25, 75, 121, 122, 123, 124, 23, 27, 30, 31, 29, 125, 126, 127, 68, 128, 108, 129, 109, 110, 70, 130, 131, 132, 36, 133, 38, 98, 134, 135, 136, 137, 138, 52, 139, 43, 140, 141, 142, 143, 144, 145, 146, 147, 148, 149, 150, 151, 152, 347, 348, 349, 350, 32, 168, 169, 170, 12, 171, 14, 172, 173, 174, 175, 176, 177, 178, 179, 180, 181, 182, 183, 184, 516, 517, 518, 519, 520, 521, 522, 534, 535, 536, 537, 538, 539, 540, 541, 542, 559, 560, 561, 562, 543, 544, 545, 546, 547, 548, 549, 550, 551, 552, 553, 554, 555, 556, 557, 558, 523, 524, 525] (by decide +kernel) (by decide +kernel)
set_option maxRecDepth 20000 in
theorem gL_acts_X6_set : GoodIn wsL_acts (wsV RL 98 RX6 yX6_set wsX6_set) := goodIn_app (goodIn_of _ (by decide +kernel)) ggL_acts_X6_set
set_option maxRecDepth 20000 in
theorem ggL_acts_X6_mark : GoodIn wsL_acts wsX6_mark := goodIn_r _ [354, 355, 17, 16, 117, 118, 119, 21, 120, 26, 24, 25, 75, 121, 122, 123, 124, 23, 27, 30, 31, 29, 125, 126, 127, 68, 128, 108, 129, 109, 110, 70, 130, 131, 132, 36, 133, 38, 98, 134, 135, 136, 137, 138, 52, 139, 43, 140, 141, 142, 143, 144, 145, 146, 147, 148, 149, 150, 151, 152, 516, 517, 518, 519, 520, 521, 522, 534, 535, 536, 537, 538, 539, 540, 541, 542, 559, 560, 561, 562, 543, 544, 545, 546, 547, 548, 549, 550, 551, 552, 553, 554, 555, 556, 557, 558] (by decide +kernel) (by decide +kernel)
set_option maxRecDepth 20000 in
theorem gL_acts_X6_mark : GoodIn wsL_acts (wsV RL 101 RX6 yX6_mark wsX6_mark) := goodIn_app (goodIn_of _ (by decide +kernel)) ggL_acts_X6_mark
set_option maxRecDepth 20000 in
theorem ggL_acts_X6_restore : GoodIn wsL_acts wsX6_restore := goodIn_r _ [359, 16, 360, 14, 17, 355, 172, 173, 174, 175, 176, 177, 178, 179, 180, 181, 182, 183, 184, 118, 119, 21, 120, 26, 24, 25, 75, 121, 122, 123, 124, 23, 27, 30, 31, 29, 125, 126, 127, 68, 128, 108, 129, 109, 110, 70, 130, 131, 132, 36, 133, 38, 98, 134, 135, 136, 137, 138, 52, 139, 43, 140, 141, 142, 143, 144, 145, 146, 147, 148, 149, 150, 151, 152, 117, 516, 517, 518, 519, 520, 521, 522, 534, 535, 536, 537, 538, 539, 540, 541, 542, 523, 524, 525, 559, 560, 561, 562, 543, 544, 545, 546, 547, 548, 549, 550, 551, 552, 553, 554, 555, 556, 557, 558] (by decide +kernel) (by decide +kernel)
set_option maxRecDepth 20000 in
theorem gL_acts_X6_restore : GoodIn wsL_acts (wsV RL 104 RX6 yX6_restore wsX6_restore) := goodIn_app (goodIn_of _ (by decide +kernel)) ggL_acts_X6_restore
set_option maxRecDepth 20000 in
theorem ggL_acts_L_types : GoodIn wsL_acts wsL_types := goodIn_r _ [363, 4, 5, 6, 7, 8, 364, 365, 366, 12, 367, 15, 368, 369, 370, 371, 372, 373, 374, 84, 375, 376, 377, 378, 379, 380, 381, 382, 383, 384, 385, 516, 517, 518, 519, 520, 521, 522, 526, 527, 528, 529, 530, 531, 532, 533] (by decide +kernel) (by decide +kernel)
set_option maxRecDepth 20000 in
theorem gL_acts_L_types : GoodIn wsL_acts (va_wsS RL 107 yL_types wsL_types) := goodIn_app (goodIn_of _ (by decide +kernel)) ggL_acts_L_types
set_option maxRecDepth 20000 in
theorem ggL_acts_L_reads : GoodIn wsL_acts wsL_reads := goodIn_r _ [388, 389, 3, 1, 390, 391, 392, 12, 393, 84, 394, 17, 15, 117, 118, 119, 21, 120, 26, 24, 25, 75, 121, 122, 123, 124, 23, 27, 30, 31, 29, 125, 126, 127, 68, 128, 108, 129, 109, 110, 70, 130, 131, 132, 36, 133, 38, 98, 134, 135, 136, 137, 138, 52, 139, 43, 140, 141, 142, 143, 144, 145, 146, 147, 148, 149, 150, 151, 152, 395, 396, 397, 378, 398, 399, 380, 400, 401, 402, 403, 404, 405, 406, 407, 408, 409, 410, 411, 412, 413, 414, 415, 416, 417, 418, 419, 420, 421, 422, 423, 424, 425, 426, 427, 428, 429, 382, 430, 431, 432, 433, 434, 435, 436, 437, 438, 439, 440, 441, 442, 443, 444, 445, 446, 447, 448, 449, 450, 451, 452, 453, 454, 455, 456, 457, 458, 459, 460, 461, 462, 463, 464, 465, 466, 467, 468, 469, 470, 471, 472, 473, 474, 475, 476, 477, 478, 479, 480, 481, 482, 483, 484, 485, 486, 487, 488, 489, 490, 491, 492, 493, 494, 495, 496, 86, 87, 88, 497, 242, 243, 244, 32, 219, 157, 158, 159, 160, 161, 245, 246, 247, 248, 100, 101, 102, 103, 94, 95, 96, 97, 104, 105, 106, 107, 249, 250, 251, 252, 498, 274, 275, 276, 277, 111, 49, 50, 51, 61, 62, 63, 64, 278, 279, 280, 281, 282, 283, 284, 499, 290, 291, 292, 293, 294, 295, 296, 297, 258, 259, 260, 500, 320, 321, 322, 28, 99, 40, 41, 42, 501, 328, 329, 330, 162, 163, 502, 230, 231, 232, 199, 200, 201, 220, 203, 204, 205, 206, 207, 208, 209, 221, 222, 223, 224, 233, 234, 235, 236, 503, 336, 337, 338, 339, 340, 341, 342, 504, 505, 506, 507, 9, 10, 11, 13, 14, 16, 18, 19, 20, 22, 33, 34, 35, 37, 39, 44, 45, 46, 47, 48, 53, 54, 55, 56, 57, 58, 59, 60, 65, 66, 67, 69, 71, 72, 73, 74, 76, 77, 78, 79, 508, 509, 510, 511, 360, 512, 513, 514, 515, 172, 173, 174, 175, 176, 177, 178, 179, 180, 181, 182, 183, 184, 516, 517, 518, 519, 520, 521, 522, 534, 535, 536, 537, 538, 539, 540, 541, 542, 559, 560, 561, 562, 543, 544, 545, 546, 547, 548, 549, 550, 551, 552, 553, 554, 555, 556, 557, 558, 526, 527, 528, 529, 530, 531, 532, 533, 523, 524, 525] (by decide +kernel) (by decide +kernel)
set_option maxRecDepth 20000 in
theorem gL_acts_L_reads : GoodIn wsL_acts (va_wsS RL 110 yL_reads wsL_reads) := goodIn_app (goodIn_of _ (by decide +kernel)) ggL_acts_L_reads
theorem dL_acts_0 : decode cL_acts 0 = .ok (.iload_n 1, 1) := by decide +kernel
theorem dL_acts_1 : decode cL_acts 1 = .ok (.bipush 20, 2) := by decide +kernel
theorem dL_acts_3 : decode cL_acts 3 = .ok (.invokestatic 33, 3) := by decide +kernel
theorem dL_acts_6 : decode cL_acts 6 = .ok (.istore_n 3, 1) := by decide +kernel
theorem dL_acts_7 : decode cL_acts 7 = .ok (.aload_n 0, 1) := by decide +kernel
theorem dL_acts_8 : decode cL_acts 8 = .ok (.iconst 0, 1) := by decide +kernel
theorem dL_acts_9 : decode cL_acts 9 = .ok (.invokevirtual 13, 3) := by decide +kernel
theorem dL_acts_12 : decode cL_acts 12 = .ok (.istore 4, 2) := by decide +kernel
theorem dL_acts_14 : decode cL_acts 14 = .ok (.aload_n 0, 1) := by decide +kernel
theorem dL_acts_15 : decode cL_acts 15 = .ok (.iconst 1, 1) := by decide +kernel
theorem dL_acts_16 : decode cL_acts 16 = .ok (.invokevirtual 13, 3) := by decide +kernel
theorem dL_acts_19 : decode cL_acts 19 = .ok (.istore 5, 2) := by decide +kernel
theorem dL_acts_21 : decode cL_acts 21 = .ok (.iload_n 1, 1) := by decide +kernel
theorem dL_acts_22 : decode cL_acts 22 = .ok (.iconst 5, 1) := by decide +kernel
theorem dL_acts_23 : decode cL_acts 23 = .ok (.ishr, 1) := by decide +kernel
theorem dL_acts_24 : decode cL_acts 24 = .ok (.iload 4, 2) := by decide +kernel
theorem dL_acts_26 : decode cL_acts 26 = .ok (.iconst 1, 1) := by decide +kernel
theorem dL_acts_27 : decode cL_acts 27 = .ok (.iadd, 1) := by decide +kernel
theorem dL_acts_28 : decode cL_acts 28 = .ok (.invokestatic 33, 3) := by decide +kernel
theorem dL_acts_31 : decode cL_acts 31 = .ok (.istore 6, 2) := by decide +kernel
theorem dL_acts_33 : decode cL_acts 33 = .ok (.iload_n 1, 1) := by decide +kernel
theorem dL_acts_34 : decode cL_acts 34 = .ok (.bipush 8, 2) := by decide +kernel
theorem dL_acts_36 : decode cL_acts 36 = .ok (.ishr, 1) := by decide +kernel
theorem dL_acts_37 : decode cL_acts 37 = .ok (.iload 5, 2) := by decide +kernel
theorem dL_acts_39 : decode cL_acts 39 = .ok (.iconst 1, 1) := by decide +kernel
theorem dL_acts_40 : decode cL_acts 40 = .ok (.iadd, 1) := by decide +kernel
theorem dL_acts_41 : decode cL_acts 41 = .ok (.invokestatic 33, 3) := by decide +kernel
theorem dL_acts_44 : decode cL_acts 44 = .ok (.istore 7, 2) := by decide +kernel
theorem dL_acts_46 : decode cL_acts 46 = .ok (.iload 7, 2) := by decide +kernel
theorem dL_acts_48 : decode cL_acts 48 = .ok (.iload 5, 2) := by decide +kernel
theorem dL_acts_50 : decode cL_acts 50 = .ok (.if_icmp .ge 7, 3) := by decide +kernel
theorem dL_acts_53 : decode cL_acts 53 = .ok (.iconst 1, 1) := by decide +kernel
theorem dL_acts_54 : decode cL_acts 54 = .ok (.goto 4, 3) := by decide +kernel
theorem dL_acts_57 : decode cL_acts 57 = .ok (.iconst 0, 1) := by decide +kernel
theorem dL_acts_58 : decode cL_acts 58 = .ok (.istore 8, 2) := by decide +kernel
theorem dL_acts_60 : decode cL_acts 60 = .ok (.iload 8, 2) := by decide +kernel
theorem dL_acts_62 : decode cL_acts 62 = .ok (.ifCond .eq 18, 3) := by decide +kernel
theorem dL_acts_65 : decode cL_acts 65 = .ok (.aload_n 0, 1) := by decide +kernel
theorem dL_acts_66 : decode cL_acts 66 = .ok (.iload 7, 2) := by decide +kernel
theorem dL_acts_68 : decode cL_acts 68 = .ok (.bipush 7, 2) := by decide +kernel
theorem dL_acts_70 : decode cL_acts 70 = .ok (.invokevirtual 19, 3) := by decide +kernel
theorem dL_acts_73 : decode cL_acts 73 = .ok (.ifCond .lt 7, 3) := by decide +kernel
theorem dL_acts_76 : decode cL_acts 76 = .ok (.iconst 1, 1) := by decide +kernel
theorem dL_acts_77 : decode cL_acts 77 = .ok (.goto 4, 3) := by decide +kernel
theorem dL_acts_80 : decode cL_acts 80 = .ok (.iconst 0, 1) := by decide +kernel
theorem dL_acts_81 : decode cL_acts 81 = .ok (.istore 9, 2) := by decide +kernel
theorem dL_acts_83 : decode cL_acts 83 = .ok (.iload 8, 2) := by decide +kernel
theorem dL_acts_85 : decode cL_acts 85 = .ok (.ifCond .eq 18, 3) := by decide +kernel
theorem dL_acts_88 : decode cL_acts 88 = .ok (.aload_n 0, 1) := by decide +kernel
theorem dL_acts_89 : decode cL_acts 89 = .ok (.iload 7, 2) := by decide +kernel
theorem dL_acts_91 : decode cL_acts 91 = .ok (.bipush 9, 2) := by decide +kernel
theorem dL_acts_93 : decode cL_acts 93 = .ok (.invokevirtual 19, 3) := by decide +kernel
theorem dL_acts_96 : decode cL_acts 96 = .ok (.ifCond .le 7, 3) := by decide +kernel
theorem dL_acts_99 : decode cL_acts 99 = .ok (.iconst 1, 1) := by decide +kernel
theorem dL_acts_100 : decode cL_acts 100 = .ok (.goto 4, 3) := by decide +kernel
theorem dL_acts_103 : decode cL_acts 103 = .ok (.iconst 0, 1) := by decide +kernel
theorem dL_acts_104 : decode cL_acts 104 = .ok (.istore 10, 2) := by decide +kernel
theorem dL_acts_106 : decode cL_acts 106 = .ok (.iload_n 3, 1) := by decide +kernel
theorem dL_acts_107 : decode cL_acts 107 = .ok (.iconst 3, 1) := by decide +kernel
theorem dL_acts_108 : decode cL_acts 108 = .ok (.if_icmp .ge 76, 3) := by decide +kernel
theorem dL_acts_111 : decode cL_acts 111 = .ok (.iload_n 2, 1) := by decide +kernel
theorem dL_acts_112 : decode cL_acts 112 = .ok (.sipush 1000, 3) := by decide +kernel
theorem dL_acts_115 : decode cL_acts 115 = .ok (.invokestatic 33, 3) := by decide +kernel
theorem dL_acts_118 : decode cL_acts 118 = .ok (.istore 11, 2) := by decide +kernel
theorem dL_acts_120 : decode cL_acts 120 = .ok (.aload_n 0, 1) := by decide +kernel
theorem dL_acts_121 : decode cL_acts 121 = .ok (.iload 6, 2) := by decide +kernel
theorem dL_acts_123 : decode cL_acts 123 = .ok (.iload 11, 2) := by decide +kernel
theorem dL_acts_125 : decode cL_acts 125 = .ok (.iload_n 2, 1) := by decide +kernel
theorem dL_acts_126 : decode cL_acts 126 = .ok (.bipush 10, 2) := by decide +kernel
theorem dL_acts_128 : decode cL_acts 128 = .ok (.ishr, 1) := by decide +kernel
theorem dL_acts_129 : decode cL_acts 129 = .ok (.iconst 5, 1) := by decide +kernel
theorem dL_acts_130 : decode cL_acts 130 = .ok (.invokestatic 33, 3) := by decide +kernel
theorem dL_acts_133 : decode cL_acts 133 = .ok (.iload_n 2, 1) := by decide +kernel
theorem dL_acts_134 : decode cL_acts 134 = .ok (.bipush 13, 2) := by decide +kernel
theorem dL_acts_136 : decode cL_acts 136 = .ok (.ishr, 1) := by decide +kernel
theorem dL_acts_137 : decode cL_acts 137 = .ok (.iconst 4, 1) := by decide +kernel
theorem dL_acts_138 : decode cL_acts 138 = .ok (.invokestatic 33, 3) := by decide +kernel
theorem dL_acts_141 : decode cL_acts 141 = .ok (.invokevirtual 66, 3) := by decide +kernel
theorem dL_acts_144 : decode cL_acts 144 = .ok (.iload 6, 2) := by decide +kernel
theorem dL_acts_146 : decode cL_acts 146 = .ok (.iload 4, 2) := by decide +kernel
theorem dL_acts_148 : decode cL_acts 148 = .ok (.if_icmp .eq 8, 3) := by decide +kernel
theorem dL_acts_151 : decode cL_acts 151 = .ok (.iload 11, 2) := by decide +kernel
theorem dL_acts_153 : decode cL_acts 153 = .ok (.ifCond .ne 8, 3) := by decide +kernel
theorem dL_acts_156 : decode cL_acts 156 = .ok (.ldc 65, 2) := by decide +kernel
theorem dL_acts_158 : decode cL_acts 158 = .ok (.goto 17, 3) := by decide +kernel
theorem dL_acts_161 : decode cL_acts 161 = .ok (.iload 5, 2) := by decide +kernel
theorem dL_acts_163 : decode cL_acts 163 = .ok (.bipush 20, 2) := by decide +kernel
theorem dL_acts_165 : decode cL_acts 165 = .ok (.if_icmp .ne 8, 3) := by decide +kernel
theorem dL_acts_168 : decode cL_acts 168 = .ok (.ldc 69, 2) := by decide +kernel
theorem dL_acts_170 : decode cL_acts 170 = .ok (.goto 5, 3) := by decide +kernel
theorem dL_acts_173 : decode cL_acts 173 = .ok (.iload 5, 2) := by decide +kernel
theorem dL_acts_175 : decode cL_acts 175 = .ok (.if_icmp .ne 7, 3) := by decide +kernel
theorem dL_acts_178 : decode cL_acts 178 = .ok (.iconst 1, 1) := by decide +kernel
theorem dL_acts_179 : decode cL_acts 179 = .ok (.goto 4, 3) := by decide +kernel
theorem dL_acts_182 : decode cL_acts 182 = .ok (.iconst 0, 1) := by decide +kernel
theorem dL_acts_183 : decode cL_acts 183 = .ok (.ireturn, 1) := by decide +kernel
theorem dL_acts_184 : decode cL_acts 184 = .ok (.iload_n 3, 1) := by decide +kernel
theorem dL_acts_185 : decode cL_acts 185 = .ok (.iconst 3, 1) := by decide +kernel
theorem dL_acts_186 : decode cL_acts 186 = .ok (.if_icmp .ne 38, 3) := by decide +kernel
theorem dL_acts_189 : decode cL_acts 189 = .ok (.iload_n 2, 1) := by decide +kernel
theorem dL_acts_190 : decode cL_acts 190 = .ok (.iconst 3, 1) := by decide +kernel
theorem dL_acts_191 : decode cL_acts 191 = .ok (.invokestatic 33, 3) := by decide +kernel
theorem dL_acts_194 : decode cL_acts 194 = .ok (.ifCond .gt 24, 3) := by decide +kernel
theorem dL_acts_197 : decode cL_acts 197 = .ok (.aload_n 0, 1) := by decide +kernel
theorem dL_acts_198 : decode cL_acts 198 = .ok (.invokevirtual 70, 3) := by decide +kernel
theorem dL_acts_201 : decode cL_acts 201 = .ok (.iload 4, 2) := by decide +kernel
theorem dL_acts_203 : decode cL_acts 203 = .ok (.bipush 6, 2) := by decide +kernel
theorem dL_acts_205 : decode cL_acts 205 = .ok (.if_icmp .ne 8, 3) := by decide +kernel
theorem dL_acts_208 : decode cL_acts 208 = .ok (.ldc 69, 2) := by decide +kernel
theorem dL_acts_210 : decode cL_acts 210 = .ok (.goto 5, 3) := by decide +kernel
theorem dL_acts_213 : decode cL_acts 213 = .ok (.iload 4, 2) := by decide +kernel
theorem dL_acts_215 : decode cL_acts 215 = .ok (.if_icmp .ne 7, 3) := by decide +kernel
theorem dL_acts_218 : decode cL_acts 218 = .ok (.iconst 1, 1) := by decide +kernel
theorem dL_acts_219 : decode cL_acts 219 = .ok (.goto 4, 3) := by decide +kernel
theorem dL_acts_222 : decode cL_acts 222 = .ok (.iconst 0, 1) := by decide +kernel
theorem dL_acts_223 : decode cL_acts 223 = .ok (.ireturn, 1) := by decide +kernel
theorem dL_acts_224 : decode cL_acts 224 = .ok (.iload_n 3, 1) := by decide +kernel
theorem dL_acts_225 : decode cL_acts 225 = .ok (.bipush 7, 2) := by decide +kernel
theorem dL_acts_227 : decode cL_acts 227 = .ok (.if_icmp .ge 225, 3) := by decide +kernel
theorem dL_acts_230 : decode cL_acts 230 = .ok (.iload_n 2, 1) := by decide +kernel
theorem dL_acts_231 : decode cL_acts 231 = .ok (.bipush 6, 2) := by decide +kernel
theorem dL_acts_233 : decode cL_acts 233 = .ok (.invokestatic 33, 3) := by decide +kernel
theorem dL_acts_236 : decode cL_acts 236 = .ok (.istore 11, 2) := by decide +kernel
theorem dL_acts_238 : decode cL_acts 238 = .ok (.iload_n 2, 1) := by decide +kernel
theorem dL_acts_239 : decode cL_acts 239 = .ok (.iconst 3, 1) := by decide +kernel
theorem dL_acts_240 : decode cL_acts 240 = .ok (.ishr, 1) := by decide +kernel
theorem dL_acts_241 : decode cL_acts 241 = .ok (.bipush 10, 2) := by decide +kernel
theorem dL_acts_243 : decode cL_acts 243 = .ok (.invokestatic 33, 3) := by decide +kernel
theorem dL_acts_246 : decode cL_acts 246 = .ok (.istore 12, 2) := by decide +kernel
theorem dL_acts_248 : decode cL_acts 248 = .ok (.iload_n 2, 1) := by decide +kernel
theorem dL_acts_249 : decode cL_acts 249 = .ok (.bipush 7, 2) := by decide +kernel
theorem dL_acts_251 : decode cL_acts 251 = .ok (.ishr, 1) := by decide +kernel
theorem dL_acts_252 : decode cL_acts 252 = .ok (.bipush 8, 2) := by decide +kernel
theorem dL_acts_254 : decode cL_acts 254 = .ok (.invokestatic 33, 3) := by decide +kernel
theorem dL_acts_257 : decode cL_acts 257 = .ok (.istore 13, 2) := by decide +kernel
theorem dL_acts_259 : decode cL_acts 259 = .ok (.iload_n 2, 1) := by decide +kernel
theorem dL_acts_260 : decode cL_acts 260 = .ok (.bipush 11, 2) := by decide +kernel
theorem dL_acts_262 : decode cL_acts 262 = .ok (.ishr, 1) := by decide +kernel
theorem dL_acts_263 : decode cL_acts 263 = .ok (.bipush 6, 2) := by decide +kernel
theorem dL_acts_265 : decode cL_acts 265 = .ok (.invokestatic 33, 3) := by decide +kernel
theorem dL_acts_268 : decode cL_acts 268 = .ok (.ifCond .ne 7, 3) := by decide +kernel
theorem dL_acts_271 : decode cL_acts 271 = .ok (.iconst 0, 1) := by decide +kernel
theorem dL_acts_272 : decode cL_acts 272 = .ok (.goto 15, 3) := by decide +kernel
theorem dL_acts_275 : decode cL_acts 275 = .ok (.iconst 1, 1) := by decide +kernel
theorem dL_acts_276 : decode cL_acts 276 = .ok (.iload_n 2, 1) := by decide +kernel
theorem dL_acts_277 : decode cL_acts 277 = .ok (.bipush 12, 2) := by decide +kernel
theorem dL_acts_279 : decode cL_acts 279 = .ok (.ishr, 1) := by decide +kernel
theorem dL_acts_280 : decode cL_acts 280 = .ok (.sipush 5000, 3) := by decide +kernel
theorem dL_acts_283 : decode cL_acts 283 = .ok (.invokestatic 33, 3) := by decide +kernel
theorem dL_acts_286 : decode cL_acts 286 = .ok (.iadd, 1) := by decide +kernel
theorem dL_acts_287 : decode cL_acts 287 = .ok (.istore 14, 2) := by decide +kernel
theorem dL_acts_289 : decode cL_acts 289 = .ok (.iload 11, 2) := by decide +kernel
theorem dL_acts_291 : decode cL_acts 291 = .ok (.iconst 5, 1) := by decide +kernel
theorem dL_acts_292 : decode cL_acts 292 = .ok (.if_icmp .ne 7, 3) := by decide +kernel
theorem dL_acts_295 : decode cL_acts 295 = .ok (.iconst 0, 1) := by decide +kernel
theorem dL_acts_296 : decode cL_acts 296 = .ok (.goto 14, 3) := by decide +kernel
theorem dL_acts_299 : decode cL_acts 299 = .ok (.aload_n 0, 1) := by decide +kernel
theorem dL_acts_300 : decode cL_acts 300 = .ok (.iload 11, 2) := by decide +kernel
theorem dL_acts_302 : decode cL_acts 302 = .ok (.iload 12, 2) := by decide +kernel
theorem dL_acts_304 : decode cL_acts 304 = .ok (.iload 13, 2) := by decide +kernel
theorem dL_acts_306 : decode cL_acts 306 = .ok (.iconst 1, 1) := by decide +kernel
theorem dL_acts_307 : decode cL_acts 307 = .ok (.invokevirtual 29, 3) := by decide +kernel
theorem dL_acts_310 : decode cL_acts 310 = .ok (.istore 15, 2) := by decide +kernel
theorem dL_acts_312 : decode cL_acts 312 = .ok (.iload 15, 2) := by decide +kernel
theorem dL_acts_314 : decode cL_acts 314 = .ok (.ifCond .ge 18, 3) := by decide +kernel
theorem dL_acts_317 : decode cL_acts 317 = .ok (.aload_n 0, 1) := by decide +kernel
theorem dL_acts_318 : decode cL_acts 318 = .ok (.bipush 6, 2) := by decide +kernel
theorem dL_acts_320 : decode cL_acts 320 = .ok (.invokevirtual 13, 3) := by decide +kernel
theorem dL_acts_323 : decode cL_acts 323 = .ok (.bipush 24, 2) := by decide +kernel
theorem dL_acts_325 : decode cL_acts 325 = .ok (.if_icmp .ne 7, 3) := by decide +kernel
theorem dL_acts_328 : decode cL_acts 328 = .ok (.iconst 1, 1) := by decide +kernel
theorem dL_acts_329 : decode cL_acts 329 = .ok (.goto 4, 3) := by decide +kernel
theorem dL_acts_332 : decode cL_acts 332 = .ok (.iconst 0, 1) := by decide +kernel
theorem dL_acts_333 : decode cL_acts 333 = .ok (.istore 16, 2) := by decide +kernel
theorem dL_acts_335 : decode cL_acts 335 = .ok (.iload_n 3, 1) := by decide +kernel
theorem dL_acts_336 : decode cL_acts 336 = .ok (.bipush 6, 2) := by decide +kernel
theorem dL_acts_338 : decode cL_acts 338 = .ok (.if_icmp .ne 56, 3) := by decide +kernel
theorem dL_acts_341 : decode cL_acts 341 = .ok (.iload_n 2, 1) := by decide +kernel
theorem dL_acts_342 : decode cL_acts 342 = .ok (.bipush 20, 2) := by decide +kernel
theorem dL_acts_344 : decode cL_acts 344 = .ok (.ishr, 1) := by decide +kernel
theorem dL_acts_345 : decode cL_acts 345 = .ok (.iconst 3, 1) := by decide +kernel
theorem dL_acts_346 : decode cL_acts 346 = .ok (.invokestatic 33, 3) := by decide +kernel
theorem dL_acts_349 : decode cL_acts 349 = .ok (.ifCond .ne 45, 3) := by decide +kernel
theorem dL_acts_352 : decode cL_acts 352 = .ok (.aload_n 0, 1) := by decide +kernel
theorem dL_acts_353 : decode cL_acts 353 = .ok (.iload 11, 2) := by decide +kernel
theorem dL_acts_355 : decode cL_acts 355 = .ok (.iload 12, 2) := by decide +kernel
theorem dL_acts_357 : decode cL_acts 357 = .ok (.iload 13, 2) := by decide +kernel
theorem dL_acts_359 : decode cL_acts 359 = .ok (.invokevirtual 73, 3) := by decide +kernel
theorem dL_acts_362 : decode cL_acts 362 = .ok (.iload 11, 2) := by decide +kernel
theorem dL_acts_364 : decode cL_acts 364 = .ok (.iconst 5, 1) := by decide +kernel
theorem dL_acts_365 : decode cL_acts 365 = .ok (.if_icmp .ne 8, 3) := by decide +kernel
theorem dL_acts_368 : decode cL_acts 368 = .ok (.ldc 65, 2) := by decide +kernel
theorem dL_acts_370 : decode cL_acts 370 = .ok (.goto 15, 3) := by decide +kernel
theorem dL_acts_373 : decode cL_acts 373 = .ok (.iload 15, 2) := by decide +kernel
theorem dL_acts_375 : decode cL_acts 375 = .ok (.ifCond .ge 8, 3) := by decide +kernel
theorem dL_acts_378 : decode cL_acts 378 = .ok (.ldc 64, 2) := by decide +kernel
theorem dL_acts_380 : decode cL_acts 380 = .ok (.goto 5, 3) := by decide +kernel
theorem dL_acts_383 : decode cL_acts 383 = .ok (.iload 15, 2) := by decide +kernel
theorem dL_acts_385 : decode cL_acts 385 = .ok (.if_icmp .ne 7, 3) := by decide +kernel
theorem dL_acts_388 : decode cL_acts 388 = .ok (.iconst 1, 1) := by decide +kernel
theorem dL_acts_389 : decode cL_acts 389 = .ok (.goto 4, 3) := by decide +kernel
theorem dL_acts_392 : decode cL_acts 392 = .ok (.iconst 0, 1) := by decide +kernel
theorem dL_acts_393 : decode cL_acts 393 = .ok (.ireturn, 1) := by decide +kernel
theorem dL_acts_394 : decode cL_acts 394 = .ok (.aload_n 0, 1) := by decide +kernel
theorem dL_acts_395 : decode cL_acts 395 = .ok (.iload 11, 2) := by decide +kernel
theorem dL_acts_397 : decode cL_acts 397 = .ok (.iload 12, 2) := by decide +kernel
theorem dL_acts_399 : decode cL_acts 399 = .ok (.iload 13, 2) := by decide +kernel
theorem dL_acts_401 : decode cL_acts 401 = .ok (.iload 14, 2) := by decide +kernel
theorem dL_acts_403 : decode cL_acts 403 = .ok (.invokevirtual 77, 3) := by decide +kernel
theorem dL_acts_406 : decode cL_acts 406 = .ok (.iload 11, 2) := by decide +kernel
theorem dL_acts_408 : decode cL_acts 408 = .ok (.iconst 5, 1) := by decide +kernel
theorem dL_acts_409 : decode cL_acts 409 = .ok (.if_icmp .eq 8, 3) := by decide +kernel
theorem dL_acts_412 : decode cL_acts 412 = .ok (.iload 14, 2) := by decide +kernel
theorem dL_acts_414 : decode cL_acts 414 = .ok (.ifCond .ne 8, 3) := by decide +kernel
theorem dL_acts_417 : decode cL_acts 417 = .ok (.ldc 65, 2) := by decide +kernel
theorem dL_acts_419 : decode cL_acts 419 = .ok (.goto 24, 3) := by decide +kernel
theorem dL_acts_422 : decode cL_acts 422 = .ok (.iload 16, 2) := by decide +kernel
theorem dL_acts_424 : decode cL_acts 424 = .ok (.ifCond .eq 8, 3) := by decide +kernel
theorem dL_acts_427 : decode cL_acts 427 = .ok (.ldc 69, 2) := by decide +kernel
theorem dL_acts_429 : decode cL_acts 429 = .ok (.goto 14, 3) := by decide +kernel
theorem dL_acts_432 : decode cL_acts 432 = .ok (.iload 15, 2) := by decide +kernel
theorem dL_acts_434 : decode cL_acts 434 = .ok (.ifCond .ge 7, 3) := by decide +kernel
theorem dL_acts_437 : decode cL_acts 437 = .ok (.iconst 0, 1) := by decide +kernel
theorem dL_acts_438 : decode cL_acts 438 = .ok (.goto 5, 3) := by decide +kernel
theorem dL_acts_441 : decode cL_acts 441 = .ok (.iload 15, 2) := by decide +kernel
theorem dL_acts_443 : decode cL_acts 443 = .ok (.if_icmp .ne 7, 3) := by decide +kernel
theorem dL_acts_446 : decode cL_acts 446 = .ok (.iconst 1, 1) := by decide +kernel
theorem dL_acts_447 : decode cL_acts 447 = .ok (.goto 4, 3) := by decide +kernel
theorem dL_acts_450 : decode cL_acts 450 = .ok (.iconst 0, 1) := by decide +kernel
theorem dL_acts_451 : decode cL_acts 451 = .ok (.ireturn, 1) := by decide +kernel
theorem dL_acts_452 : decode cL_acts 452 = .ok (.iload_n 3, 1) := by decide +kernel
theorem dL_acts_453 : decode cL_acts 453 = .ok (.bipush 11, 2) := by decide +kernel
theorem dL_acts_455 : decode cL_acts 455 = .ok (.if_icmp .ge 212, 3) := by decide +kernel
theorem dL_acts_458 : decode cL_acts 458 = .ok (.iload_n 2, 1) := by decide +kernel
theorem dL_acts_459 : decode cL_acts 459 = .ok (.iload 4, 2) := by decide +kernel
theorem dL_acts_461 : decode cL_acts 461 = .ok (.iconst 1, 1) := by decide +kernel
theorem dL_acts_462 : decode cL_acts 462 = .ok (.iadd, 1) := by decide +kernel
theorem dL_acts_463 : decode cL_acts 463 = .ok (.invokestatic 33, 3) := by decide +kernel
theorem dL_acts_466 : decode cL_acts 466 = .ok (.istore 11, 2) := by decide +kernel
theorem dL_acts_468 : decode cL_acts 468 = .ok (.iload_n 2, 1) := by decide +kernel
theorem dL_acts_469 : decode cL_acts 469 = .ok (.iconst 3, 1) := by decide +kernel
theorem dL_acts_470 : decode cL_acts 470 = .ok (.ishr, 1) := by decide +kernel
theorem dL_acts_471 : decode cL_acts 471 = .ok (.bipush 30, 2) := by decide +kernel
theorem dL_acts_473 : decode cL_acts 473 = .ok (.invokestatic 33, 3) := by decide +kernel
theorem dL_acts_476 : decode cL_acts 476 = .ok (.istore 12, 2) := by decide +kernel
theorem dL_acts_478 : decode cL_acts 478 = .ok (.iload 6, 2) := by decide +kernel
theorem dL_acts_480 : decode cL_acts 480 = .ok (.iload 4, 2) := by decide +kernel
theorem dL_acts_482 : decode cL_acts 482 = .ok (.if_icmp .ge 31, 3) := by decide +kernel
theorem dL_acts_485 : decode cL_acts 485 = .ok (.iload 11, 2) := by decide +kernel
theorem dL_acts_487 : decode cL_acts 487 = .ok (.iload 4, 2) := by decide +kernel
theorem dL_acts_489 : decode cL_acts 489 = .ok (.if_icmp .ge 24, 3) := by decide +kernel
