theorem dL_digits_84 : decode cL_digits 84 = .ok (.irem, 1) := by decide +kernel
theorem dL_digits_85 : decode cL_digits 85 = .ok (.iadd, 1) := by decide +kernel
theorem dL_digits_86 : decode cL_digits 86 = .ok (.invokevirtual 42, 3) := by decide +kernel
theorem dL_digits_89 : decode cL_digits 89 = .ok (.ifCond .le 7, 3) := by decide +kernel
theorem dL_digits_92 : decode cL_digits 92 = .ok (.iconst 1, 1) := by decide +kernel
theorem dL_digits_93 : decode cL_digits 93 = .ok (.goto 4, 3) := by decide +kernel
theorem dL_digits_96 : decode cL_digits 96 = .ok (.iconst 0, 1) := by decide +kernel
theorem dL_digits_97 : decode cL_digits 97 = .ok (.ireturn, 1) := by decide +kernel
set_option maxRecDepth 20000 in
theorem ggL_signs_X6_type : GoodIn wsL_signs wsX6_type := goodIn_r _ [5, 6, 7, 8, 9, 10, 11, 12, 13, 14, 15, 16, 17, 18, 19, 20, 21, 22, 23, 24, 25, 26, 27, 28, 29, 30] (by decide +kernel) (by decide +kernel)
set_option maxRecDepth 20000 in
theorem gL_signs_X6_type : GoodIn wsL_signs (wsV RL 42 RX6 yX6_type wsX6_type) := goodIn_app (goodIn_of _ (by decide +kernel)) ggL_signs_X6_type
theorem dL_signs_0 : decode cL_signs 0 = .ok (.aload_n 0, 1) := by decide +kernel
theorem dL_signs_1 : decode cL_signs 1 = .ok (.iload_n 1, 1) := by decide +kernel
theorem dL_signs_2 : decode cL_signs 2 = .ok (.invokevirtual 42, 3) := by decide +kernel
theorem dL_signs_5 : decode cL_signs 5 = .ok (.ifCond .le 32, 3) := by decide +kernel
theorem dL_signs_8 : decode cL_signs 8 = .ok (.aload_n 0, 1) := by decide +kernel
theorem dL_signs_9 : decode cL_signs 9 = .ok (.iload_n 2, 1) := by decide +kernel
theorem dL_signs_10 : decode cL_signs 10 = .ok (.invokevirtual 42, 3) := by decide +kernel
theorem dL_signs_13 : decode cL_signs 13 = .ok (.ifCond .le 24, 3) := by decide +kernel
theorem dL_signs_16 : decode cL_signs 16 = .ok (.aload_n 0, 1) := by decide +kernel
theorem dL_signs_17 : decode cL_signs 17 = .ok (.iload_n 3, 1) := by decide +kernel
theorem dL_signs_18 : decode cL_signs 18 = .ok (.invokevirtual 42, 3) := by decide +kernel
theorem dL_signs_21 : decode cL_signs 21 = .ok (.ifCond .le 16, 3) := by decide +kernel
theorem dL_signs_24 : decode cL_signs 24 = .ok (.aload_n 0, 1) := by decide +kernel
theorem dL_signs_25 : decode cL_signs 25 = .ok (.iload 4, 2) := by decide +kernel
theorem dL_signs_27 : decode cL_signs 27 = .ok (.invokevirtual 42, 3) := by decide +kernel
theorem dL_signs_30 : decode cL_signs 30 = .ok (.ifCond .le 7, 3) := by decide +kernel
theorem dL_signs_33 : decode cL_signs 33 = .ok (.iconst 1, 1) := by decide +kernel
theorem dL_signs_34 : decode cL_signs 34 = .ok (.goto 4, 3) := by decide +kernel
theorem dL_signs_37 : decode cL_signs 37 = .ok (.iconst 0, 1) := by decide +kernel
theorem dL_signs_38 : decode cL_signs 38 = .ok (.ireturn, 1) := by decide +kernel
set_option maxRecDepth 20000 in
theorem ggL_types_L_low : GoodIn wsL_types wsL_low := goodIn_r _ [4, 5] (by decide +kernel) (by decide +kernel)
set_option maxRecDepth 20000 in
theorem gL_types_L_low : GoodIn wsL_types (va_wsS RL 33 yL_low wsL_low) := goodIn_app (goodIn_of _ (by decide +kernel)) ggL_types_L_low
set_option maxRecDepth 20000 in
theorem ggL_types_X6_clearText : GoodIn wsL_types wsX6_clearText := goodIn_r _ [10, 11, 31, 32, 33, 34, 35, 36, 37, 38, 39, 40, 41, 42, 43, 44, 45] (by decide +kernel) (by decide +kernel)
set_option maxRecDepth 20000 in
theorem gL_types_X6_clearText : GoodIn wsL_types (wsV RL 45 RX6 yX6_clearText wsX6_clearText) := goodIn_app (goodIn_of _ (by decide +kernel)) ggL_types_X6_clearText
set_option maxRecDepth 20000 in
theorem ggL_types_L_signs : GoodIn wsL_types wsL_signs := goodIn_r _ [14, 15, 16, 17, 9, 18, 19, 11, 20, 21, 22, 23, 24, 25, 26, 27, 31, 32, 33, 34, 35, 36, 37, 38, 39, 40, 41, 42, 43, 44, 45] (by decide +kernel) (by decide +kernel)
set_option maxRecDepth 20000 in
theorem gL_types_L_signs : GoodIn wsL_types (va_wsS RL 49 yL_signs wsL_signs) := goodIn_app (goodIn_of _ (by decide +kernel)) ggL_types_L_signs
set_option maxRecDepth 20000 in
theorem ggL_types_X6_type : GoodIn wsL_types wsX6_type := goodIn_r _ [18, 19, 11, 20, 21, 22, 23, 24, 25, 26, 27, 31, 32, 33, 34, 35, 36, 37, 38, 39, 40, 41, 42, 43, 44, 45] (by decide +kernel) (by decide +kernel)
set_option maxRecDepth 20000 in
theorem gL_types_X6_type : GoodIn wsL_types (wsV RL 42 RX6 yX6_type wsX6_type) := goodIn_app (goodIn_of _ (by decide +kernel)) ggL_types_X6_type
set_option maxRecDepth 20000 in
theorem ggL_types_L_digits : GoodIn wsL_types wsL_digits := goodIn_r _ [30, 15, 16, 17, 9, 18, 19, 11, 20, 21, 22, 23, 24, 25, 26, 27, 31, 32, 33, 34, 35, 36, 37, 38, 39, 40, 41, 42, 43, 44, 45] (by decide +kernel) (by decide +kernel)
set_option maxRecDepth 20000 in
theorem gL_types_L_digits : GoodIn wsL_types (va_wsS RL 53 yL_digits wsL_digits) := goodIn_app (goodIn_of _ (by decide +kernel)) ggL_types_L_digits
theorem dL_types_0 : decode cL_types 0 = .ok (.iload_n 1, 1) := by decide +kernel
theorem dL_types_1 : decode cL_types 1 = .ok (.iconst 4, 1) := by decide +kernel
theorem dL_types_2 : decode cL_types 2 = .ok (.invokestatic 33, 3) := by decide +kernel
theorem dL_types_5 : decode cL_types 5 = .ok (.istore_n 2, 1) := by decide +kernel
theorem dL_types_6 : decode cL_types 6 = .ok (.aload_n 0, 1) := by decide +kernel
theorem dL_types_7 : decode cL_types 7 = .ok (.invokevirtual 45, 3) := by decide +kernel
theorem dL_types_10 : decode cL_types 10 = .ok (.ifCond .lt 7, 3) := by decide +kernel
theorem dL_types_13 : decode cL_types 13 = .ok (.iconst 1, 1) := by decide +kernel
theorem dL_types_14 : decode cL_types 14 = .ok (.goto 4, 3) := by decide +kernel
theorem dL_types_17 : decode cL_types 17 = .ok (.iconst 0, 1) := by decide +kernel
theorem dL_types_18 : decode cL_types 18 = .ok (.istore_n 3, 1) := by decide +kernel
theorem dL_types_19 : decode cL_types 19 = .ok (.iconst 0, 1) := by decide +kernel
theorem dL_types_20 : decode cL_types 20 = .ok (.istore 4, 2) := by decide +kernel
theorem dL_types_22 : decode cL_types 22 = .ok (.iload 4, 2) := by decide +kernel
theorem dL_types_24 : decode cL_types 24 = .ok (.iload_n 2, 1) := by decide +kernel
theorem dL_types_25 : decode cL_types 25 = .ok (.if_icmp .ge 423, 3) := by decide +kernel
theorem dL_types_28 : decode cL_types 28 = .ok (.iload_n 1, 1) := by decide +kernel
theorem dL_types_29 : decode cL_types 29 = .ok (.iconst 2, 1) := by decide +kernel
theorem dL_types_30 : decode cL_types 30 = .ok (.bipush 6, 2) := by decide +kernel
theorem dL_types_32 : decode cL_types 32 = .ok (.iload 4, 2) := by decide +kernel
theorem dL_types_34 : decode cL_types 34 = .ok (.imul, 1) := by decide +kernel
theorem dL_types_35 : decode cL_types 35 = .ok (.iadd, 1) := by decide +kernel
theorem dL_types_36 : decode cL_types 36 = .ok (.ishr, 1) := by decide +kernel
theorem dL_types_37 : decode cL_types 37 = .ok (.istore 5, 2) := by decide +kernel
theorem dL_types_39 : decode cL_types 39 = .ok (.iload 5, 2) := by decide +kernel
theorem dL_types_41 : decode cL_types 41 = .ok (.bipush 8, 2) := by decide +kernel
theorem dL_types_43 : decode cL_types 43 = .ok (.invokestatic 33, 3) := by decide +kernel
theorem dL_types_46 : decode cL_types 46 = .ok (.istore 6, 2) := by decide +kernel
theorem dL_types_48 : decode cL_types 48 = .ok (.iload 6, 2) := by decide +kernel
theorem dL_types_50 : decode cL_types 50 = .ok (.iconst 2, 1) := by decide +kernel
theorem dL_types_51 : decode cL_types 51 = .ok (.if_icmp .lt 10, 3) := by decide +kernel
theorem dL_types_54 : decode cL_types 54 = .ok (.iload 6, 2) := by decide +kernel
theorem dL_types_56 : decode cL_types 56 = .ok (.bipush 6, 2) := by decide +kernel
theorem dL_types_58 : decode cL_types 58 = .ok (.if_icmp .ne 7, 3) := by decide +kernel
theorem dL_types_61 : decode cL_types 61 = .ok (.iconst 4, 1) := by decide +kernel
theorem dL_types_62 : decode cL_types 62 = .ok (.goto 24, 3) := by decide +kernel
theorem dL_types_65 : decode cL_types 65 = .ok (.iload 6, 2) := by decide +kernel
theorem dL_types_67 : decode cL_types 67 = .ok (.iconst 5, 1) := by decide +kernel
theorem dL_types_68 : decode cL_types 68 = .ok (.if_icmp .ne 7, 3) := by decide +kernel
theorem dL_types_71 : decode cL_types 71 = .ok (.iconst 3, 1) := by decide +kernel
theorem dL_types_72 : decode cL_types 72 = .ok (.goto 14, 3) := by decide +kernel
theorem dL_types_75 : decode cL_types 75 = .ok (.iload 6, 2) := by decide +kernel
theorem dL_types_77 : decode cL_types 77 = .ok (.iconst 4, 1) := by decide +kernel
theorem dL_types_78 : decode cL_types 78 = .ok (.if_icmp .ne 7, 3) := by decide +kernel
theorem dL_types_81 : decode cL_types 81 = .ok (.iconst 2, 1) := by decide +kernel
theorem dL_types_82 : decode cL_types 82 = .ok (.goto 4, 3) := by decide +kernel
theorem dL_types_85 : decode cL_types 85 = .ok (.iconst 1, 1) := by decide +kernel
theorem dL_types_86 : decode cL_types 86 = .ok (.istore 7, 2) := by decide +kernel
theorem dL_types_88 : decode cL_types 88 = .ok (.iload_n 3, 1) := by decide +kernel
theorem dL_types_89 : decode cL_types 89 = .ok (.ifCond .eq 176, 3) := by decide +kernel
theorem dL_types_92 : decode cL_types 92 = .ok (.iload 6, 2) := by decide +kernel
theorem dL_types_94 : decode cL_types 94 = .ok (.iconst 2, 1) := by decide +kernel
theorem dL_types_95 : decode cL_types 95 = .ok (.if_icmp .ge 21, 3) := by decide +kernel
theorem dL_types_98 : decode cL_types 98 = .ok (.aload_n 0, 1) := by decide +kernel
theorem dL_types_99 : decode cL_types 99 = .ok (.bipush 108, 2) := by decide +kernel
theorem dL_types_101 : decode cL_types 101 = .ok (.bipush 101, 2) := by decide +kernel
theorem dL_types_103 : decode cL_types 103 = .ok (.bipush 110, 2) := by decide +kernel
theorem dL_types_105 : decode cL_types 105 = .ok (.bipush 100, 2) := by decide +kernel
theorem dL_types_107 : decode cL_types 107 = .ok (.invokestatic 49, 3) := by decide +kernel
theorem dL_types_110 : decode cL_types 110 = .ok (.ifCond .eq 155, 3) := by decide +kernel
theorem dL_types_113 : decode cL_types 113 = .ok (.goto 148, 3) := by decide +kernel
theorem dL_types_116 : decode cL_types 116 = .ok (.iload 6, 2) := by decide +kernel
theorem dL_types_118 : decode cL_types 118 = .ok (.iconst 2, 1) := by decide +kernel
theorem dL_types_119 : decode cL_types 119 = .ok (.if_icmp .ne 21, 3) := by decide +kernel
theorem dL_types_122 : decode cL_types 122 = .ok (.aload_n 0, 1) := by decide +kernel
theorem dL_types_123 : decode cL_types 123 = .ok (.bipush 98, 2) := by decide +kernel
theorem dL_types_125 : decode cL_types 125 = .ok (.bipush 97, 2) := by decide +kernel
theorem dL_types_127 : decode cL_types 127 = .ok (.bipush 99, 2) := by decide +kernel
theorem dL_types_129 : decode cL_types 129 = .ok (.bipush 107, 2) := by decide +kernel
theorem dL_types_131 : decode cL_types 131 = .ok (.invokestatic 49, 3) := by decide +kernel
theorem dL_types_134 : decode cL_types 134 = .ok (.ifCond .eq 131, 3) := by decide +kernel
theorem dL_types_137 : decode cL_types 137 = .ok (.goto 124, 3) := by decide +kernel
theorem dL_types_140 : decode cL_types 140 = .ok (.iload 6, 2) := by decide +kernel
theorem dL_types_142 : decode cL_types 142 = .ok (.iconst 3, 1) := by decide +kernel
theorem dL_types_143 : decode cL_types 143 = .ok (.if_icmp .ne 21, 3) := by decide +kernel
theorem dL_types_146 : decode cL_types 146 = .ok (.aload_n 0, 1) := by decide +kernel
theorem dL_types_147 : decode cL_types 147 = .ok (.bipush 107, 2) := by decide +kernel
theorem dL_types_149 : decode cL_types 149 = .ok (.bipush 101, 2) := by decide +kernel
theorem dL_types_151 : decode cL_types 151 = .ok (.bipush 101, 2) := by decide +kernel
theorem dL_types_153 : decode cL_types 153 = .ok (.bipush 112, 2) := by decide +kernel
theorem dL_types_155 : decode cL_types 155 = .ok (.invokestatic 49, 3) := by decide +kernel
theorem dL_types_158 : decode cL_types 158 = .ok (.ifCond .eq 107, 3) := by decide +kernel
theorem dL_types_161 : decode cL_types 161 = .ok (.goto 100, 3) := by decide +kernel
theorem dL_types_164 : decode cL_types 164 = .ok (.iload 6, 2) := by decide +kernel
theorem dL_types_166 : decode cL_types 166 = .ok (.iconst 4, 1) := by decide +kernel
theorem dL_types_167 : decode cL_types 167 = .ok (.if_icmp .ne 21, 3) := by decide +kernel
theorem dL_types_170 : decode cL_types 170 = .ok (.aload_n 0, 1) := by decide +kernel
theorem dL_types_171 : decode cL_types 171 = .ok (.bipush 115, 2) := by decide +kernel
theorem dL_types_173 : decode cL_types 173 = .ok (.bipush 101, 2) := by decide +kernel
theorem dL_types_175 : decode cL_types 175 = .ok (.bipush 108, 2) := by decide +kernel
theorem dL_types_177 : decode cL_types 177 = .ok (.bipush 108, 2) := by decide +kernel
theorem dL_types_179 : decode cL_types 179 = .ok (.invokestatic 49, 3) := by decide +kernel
theorem dL_types_182 : decode cL_types 182 = .ok (.ifCond .eq 83, 3) := by decide +kernel
theorem dL_types_185 : decode cL_types 185 = .ok (.goto 76, 3) := by decide +kernel
theorem dL_types_188 : decode cL_types 188 = .ok (.iload 6, 2) := by decide +kernel
theorem dL_types_190 : decode cL_types 190 = .ok (.iconst 5, 1) := by decide +kernel
theorem dL_types_191 : decode cL_types 191 = .ok (.if_icmp .ne 30, 3) := by decide +kernel
theorem dL_types_194 : decode cL_types 194 = .ok (.aload_n 0, 1) := by decide +kernel
theorem dL_types_195 : decode cL_types 195 = .ok (.bipush 103, 2) := by decide +kernel
theorem dL_types_197 : decode cL_types 197 = .ok (.bipush 114, 2) := by decide +kernel
theorem dL_types_199 : decode cL_types 199 = .ok (.bipush 97, 2) := by decide +kernel
theorem dL_types_201 : decode cL_types 201 = .ok (.bipush 100, 2) := by decide +kernel
theorem dL_types_203 : decode cL_types 203 = .ok (.invokestatic 49, 3) := by decide +kernel
theorem dL_types_206 : decode cL_types 206 = .ok (.ifCond .eq 59, 3) := by decide +kernel
theorem dL_types_209 : decode cL_types 209 = .ok (.aload_n 0, 1) := by decide +kernel
theorem dL_types_210 : decode cL_types 210 = .ok (.bipush 101, 2) := by decide +kernel
theorem dL_types_212 : decode cL_types 212 = .ok (.invokevirtual 42, 3) := by decide +kernel
theorem dL_types_215 : decode cL_types 215 = .ok (.ifCond .le 50, 3) := by decide +kernel
theorem dL_types_218 : decode cL_types 218 = .ok (.goto 43, 3) := by decide +kernel
theorem dL_types_221 : decode cL_types 221 = .ok (.iload 6, 2) := by decide +kernel
theorem dL_types_223 : decode cL_types 223 = .ok (.bipush 6, 2) := by decide +kernel
theorem dL_types_225 : decode cL_types 225 = .ok (.if_icmp .ne 21, 3) := by decide +kernel
theorem dL_types_228 : decode cL_types 228 = .ok (.aload_n 0, 1) := by decide +kernel
theorem dL_types_229 : decode cL_types 229 = .ok (.bipush 114, 2) := by decide +kernel
theorem dL_types_231 : decode cL_types 231 = .ok (.bipush 97, 2) := by decide +kernel
theorem dL_types_233 : decode cL_types 233 = .ok (.bipush 116, 2) := by decide +kernel
theorem dL_types_235 : decode cL_types 235 = .ok (.bipush 101, 2) := by decide +kernel
theorem dL_types_237 : decode cL_types 237 = .ok (.invokestatic 49, 3) := by decide +kernel
theorem dL_types_240 : decode cL_types 240 = .ok (.ifCond .eq 25, 3) := by decide +kernel
theorem dL_types_243 : decode cL_types 243 = .ok (.goto 18, 3) := by decide +kernel
theorem dL_types_246 : decode cL_types 246 = .ok (.aload_n 0, 1) := by decide +kernel
theorem dL_types_247 : decode cL_types 247 = .ok (.bipush 119, 2) := by decide +kernel
theorem dL_types_249 : decode cL_types 249 = .ok (.bipush 97, 2) := by decide +kernel
theorem dL_types_251 : decode cL_types 251 = .ok (.bipush 105, 2) := by decide +kernel
theorem dL_types_253 : decode cL_types 253 = .ok (.bipush 116, 2) := by decide +kernel
theorem dL_types_255 : decode cL_types 255 = .ok (.invokestatic 49, 3) := by decide +kernel
theorem dL_types_258 : decode cL_types 258 = .ok (.ifCond .eq 7, 3) := by decide +kernel
theorem dL_types_261 : decode cL_types 261 = .ok (.iconst 1, 1) := by decide +kernel
theorem dL_types_262 : decode cL_types 262 = .ok (.goto 4, 3) := by decide +kernel
theorem dL_types_265 : decode cL_types 265 = .ok (.iconst 0, 1) := by decide +kernel
theorem dL_types_266 : decode cL_types 266 = .ok (.istore_n 3, 1) := by decide +kernel
theorem dL_types_267 : decode cL_types 267 = .ok (.iconst 0, 1) := by decide +kernel
theorem dL_types_268 : decode cL_types 268 = .ok (.istore 8, 2) := by decide +kernel
theorem dL_types_270 : decode cL_types 270 = .ok (.iload 8, 2) := by decide +kernel
theorem dL_types_272 : decode cL_types 272 = .ok (.iload 7, 2) := by decide +kernel
theorem dL_types_274 : decode cL_types 274 = .ok (.if_icmp .ge 112, 3) := by decide +kernel
theorem dL_types_277 : decode cL_types 277 = .ok (.iload 6, 2) := by decide +kernel
theorem dL_types_279 : decode cL_types 279 = .ok (.bipush 7, 2) := by decide +kernel
theorem dL_types_281 : decode cL_types 281 = .ok (.if_icmp .ne 8, 3) := by decide +kernel
theorem dL_types_284 : decode cL_types 284 = .ok (.bipush 20, 2) := by decide +kernel
theorem dL_types_286 : decode cL_types 286 = .ok (.goto 52, 3) := by decide +kernel
theorem dL_types_289 : decode cL_types 289 = .ok (.iload 6, 2) := by decide +kernel
theorem dL_types_291 : decode cL_types 291 = .ok (.iconst 4, 1) := by decide +kernel
theorem dL_types_292 : decode cL_types 292 = .ok (.if_icmp .ne 9, 3) := by decide +kernel
theorem dL_types_295 : decode cL_types 295 = .ok (.iload 8, 2) := by decide +kernel
theorem dL_types_297 : decode cL_types 297 = .ok (.iconst 1, 1) := by decide +kernel
theorem dL_types_298 : decode cL_types 298 = .ok (.if_icmp .eq 16, 3) := by decide +kernel
theorem dL_types_301 : decode cL_types 301 = .ok (.iload 6, 2) := by decide +kernel
theorem dL_types_303 : decode cL_types 303 = .ok (.bipush 6, 2) := by decide +kernel
theorem dL_types_305 : decode cL_types 305 = .ok (.if_icmp .ne 15, 3) := by decide +kernel
theorem dL_types_308 : decode cL_types 308 = .ok (.iload 8, 2) := by decide +kernel
theorem dL_types_310 : decode cL_types 310 = .ok (.iconst 3, 1) := by decide +kernel
theorem dL_types_311 : decode cL_types 311 = .ok (.if_icmp .ne 9, 3) := by decide +kernel
theorem dL_types_314 : decode cL_types 314 = .ok (.sipush 3000, 3) := by decide +kernel
theorem dL_types_317 : decode cL_types 317 = .ok (.goto 21, 3) := by decide +kernel
theorem dL_types_320 : decode cL_types 320 = .ok (.iload 6, 2) := by decide +kernel
theorem dL_types_322 : decode cL_types 322 = .ok (.iconst 2, 1) := by decide +kernel
theorem dL_types_323 : decode cL_types 323 = .ok (.if_icmp .ge 13, 3) := by decide +kernel
theorem dL_types_326 : decode cL_types 326 = .ok (.iload 8, 2) := by decide +kernel
theorem dL_types_328 : decode cL_types 328 = .ok (.iconst 2, 1) := by decide +kernel
theorem dL_types_329 : decode cL_types 329 = .ok (.if_icmp .ge 7, 3) := by decide +kernel
theorem dL_types_332 : decode cL_types 332 = .ok (.iconst 3, 1) := by decide +kernel
theorem dL_types_333 : decode cL_types 333 = .ok (.goto 5, 3) := by decide +kernel
theorem dL_types_336 : decode cL_types 336 = .ok (.bipush 6, 2) := by decide +kernel
theorem dL_types_338 : decode cL_types 338 = .ok (.istore 9, 2) := by decide +kernel
theorem dL_types_340 : decode cL_types 340 = .ok (.iload_n 3, 1) := by decide +kernel
theorem dL_types_341 : decode cL_types 341 = .ok (.ifCond .eq 37, 3) := by decide +kernel
theorem dL_types_344 : decode cL_types 344 = .ok (.aload_n 0, 1) := by decide +kernel
theorem dL_types_345 : decode cL_types 345 = .ok (.bipush 32, 2) := by decide +kernel
theorem dL_types_347 : decode cL_types 347 = .ok (.invokevirtual 42, 3) := by decide +kernel
theorem dL_types_350 : decode cL_types 350 = .ok (.ifCond .le 28, 3) := by decide +kernel
theorem dL_types_353 : decode cL_types 353 = .ok (.aload_n 0, 1) := by decide +kernel
theorem dL_types_354 : decode cL_types 354 = .ok (.iload 5, 2) := by decide +kernel
theorem dL_types_356 : decode cL_types 356 = .ok (.iconst 3, 1) := by decide +kernel
theorem dL_types_357 : decode cL_types 357 = .ok (.iconst 2, 1) := by decide +kernel
theorem dL_types_358 : decode cL_types 358 = .ok (.iload 8, 2) := by decide +kernel
theorem dL_types_360 : decode cL_types 360 = .ok (.imul, 1) := by decide +kernel
theorem dL_types_361 : decode cL_types 361 = .ok (.iadd, 1) := by decide +kernel
theorem dL_types_362 : decode cL_types 362 = .ok (.ishr, 1) := by decide +kernel
theorem dL_types_363 : decode cL_types 363 = .ok (.iload 9, 2) := by decide +kernel
theorem dL_types_365 : decode cL_types 365 = .ok (.invokestatic 33, 3) := by decide +kernel
theorem dL_types_368 : decode cL_types 368 = .ok (.invokestatic 53, 3) := by decide +kernel
theorem dL_types_371 : decode cL_types 371 = .ok (.ifCond .eq 7, 3) := by decide +kernel
theorem dL_types_374 : decode cL_types 374 = .ok (.iconst 1, 1) := by decide +kernel
theorem dL_types_375 : decode cL_types 375 = .ok (.goto 4, 3) := by decide +kernel
theorem dL_types_378 : decode cL_types 378 = .ok (.iconst 0, 1) := by decide +kernel
theorem dL_types_379 : decode cL_types 379 = .ok (.istore_n 3, 1) := by decide +kernel
theorem dL_types_380 : decode cL_types 380 = .ok (.iinc 8 1, 3) := by decide +kernel
theorem dL_types_383 : decode cL_types 383 = .ok (.goto (-113), 3) := by decide +kernel
theorem dL_types_386 : decode cL_types 386 = .ok (.iload_n 3, 1) := by decide +kernel
theorem dL_types_387 : decode cL_types 387 = .ok (.ifCond .eq 53, 3) := by decide +kernel
theorem dL_types_390 : decode cL_types 390 = .ok (.iload_n 1, 1) := by decide +kernel
theorem dL_types_391 : decode cL_types 391 = .ok (.bipush 25, 2) := by decide +kernel
theorem dL_types_393 : decode cL_types 393 = .ok (.ishr, 1) := by decide +kernel
theorem dL_types_394 : decode cL_types 394 = .ok (.bipush 6, 2) := by decide +kernel
theorem dL_types_396 : decode cL_types 396 = .ok (.invokestatic 33, 3) := by decide +kernel
theorem dL_types_399 : decode cL_types 399 = .ok (.ifCond .ne 11, 3) := by decide +kernel
theorem dL_types_402 : decode cL_types 402 = .ok (.iload 4, 2) := by decide +kernel
theorem dL_types_404 : decode cL_types 404 = .ok (.iload_n 2, 1) := by decide +kernel
theorem dL_types_405 : decode cL_types 405 = .ok (.iconst 1, 1) := by decide +kernel
theorem dL_types_406 : decode cL_types 406 = .ok (.isub, 1) := by decide +kernel
theorem dL_types_407 : decode cL_types 407 = .ok (.if_icmp .eq 29, 3) := by decide +kernel
theorem dL_types_410 : decode cL_types 410 = .ok (.aload_n 0, 1) := by decide +kernel
theorem dL_types_411 : decode cL_types 411 = .ok (.iload_n 1, 1) := by decide +kernel
theorem dL_types_412 : decode cL_types 412 = .ok (.bipush 22, 2) := by decide +kernel
theorem dL_types_414 : decode cL_types 414 = .ok (.ishr, 1) := by decide +kernel
theorem dL_types_415 : decode cL_types 415 = .ok (.bipush 9, 2) := by decide +kernel
theorem dL_types_417 : decode cL_types 417 = .ok (.invokestatic 33, 3) := by decide +kernel
theorem dL_types_420 : decode cL_types 420 = .ok (.ifCond .ne 8, 3) := by decide +kernel
theorem dL_types_423 : decode cL_types 423 = .ok (.bipush 32, 2) := by decide +kernel
theorem dL_types_425 : decode cL_types 425 = .ok (.goto 5, 3) := by decide +kernel
theorem dL_types_428 : decode cL_types 428 = .ok (.bipush 59, 2) := by decide +kernel
theorem dL_types_430 : decode cL_types 430 = .ok (.invokevirtual 42, 3) := by decide +kernel
theorem dL_types_433 : decode cL_types 433 = .ok (.ifCond .le 7, 3) := by decide +kernel
theorem dL_types_436 : decode cL_types 436 = .ok (.iconst 1, 1) := by decide +kernel
theorem dL_types_437 : decode cL_types 437 = .ok (.goto 4, 3) := by decide +kernel
theorem dL_types_440 : decode cL_types 440 = .ok (.iconst 0, 1) := by decide +kernel
theorem dL_types_441 : decode cL_types 441 = .ok (.istore_n 3, 1) := by decide +kernel
theorem dL_types_442 : decode cL_types 442 = .ok (.iinc 4 1, 3) := by decide +kernel
theorem dL_types_445 : decode cL_types 445 = .ok (.goto (-423), 3) := by decide +kernel
theorem dL_types_448 : decode cL_types 448 = .ok (.iload_n 3, 1) := by decide +kernel
theorem dL_types_449 : decode cL_types 449 = .ok (.ireturn, 1) := by decide +kernel
set_option maxRecDepth 20000 in
theorem ggL_reads_X6_fault : GoodIn wsL_reads wsX6_fault := goodIn_r _ [8, 9, 10, 11, 12, 13, 14, 15, 16, 17, 18, 19, 20, 21, 22, 23, 24, 25, 26, 27, 28, 29, 30, 31, 32, 33, 34, 35, 36, 37, 38, 39, 40, 41, 42, 43, 44, 45, 46, 47, 48, 49, 50, 51, 52, 53, 54, 55, 56, 57, 58, 59, 60, 61, 62, 63, 64, 65, 66, 67, 68, 69, 70, 71, 72, 73, 74, 75, 76, 77, 78, 79, 80, 81, 82, 83, 84, 85, 86, 87, 88, 89, 90, 91, 92, 93, 94, 95, 96, 97, 98, 99, 100, 101, 102, 103, 104, 105, 106, 107, 108, 109, 110, 111, 112, 113, 114, 115, 116, 117, 118, 119, 120, 121, 122, 123, 124, 125, 126, 127, 128, 129, 130, 131, 132, 133, 134, 135, 136, 137, 138, 139, 140, 141, 142, 143, 144, 145, 146, 147, 148, 149, 150, 151, 152, 153, 154, 155, 156, 157, 158, 159, 160, 161, 162, 163, 164, 165, 166, 167, 168, 169, 170, 171, 172, 173, 174, 175, 176, 177, 178, 179, 180, 181, 182, 183, 184, 185, 186, 187, 188, 189, 190, 191, 192, 193, 194, 195, 196, 197, 198, 199, 200, 201, 202, 203, 204, 205, 206, 207, 208, 209, 210, 211, 212, 213, 214, 215, 216, 217, 218, 219, 220, 221, 222, 223, 224, 225, 226, 227, 228, 229, 230, 231, 232, 233, 234, 235, 236, 237, 238, 239, 240, 241, 242, 243, 244, 245, 246, 247, 248, 249, 250, 251, 252, 253, 7, 254, 255, 256, 257, 258, 259, 260, 261, 262, 263, 264, 265, 266, 267, 268, 269, 270, 271, 272, 273, 274, 275, 276, 277, 278, 279, 280, 281, 282, 283, 284, 285, 286, 287, 288, 289, 352, 353, 354, 355, 356, 357, 358, 359, 360, 361, 362, 363, 364, 365, 366, 367, 368, 369, 370, 371, 372, 373, 374, 375, 376, 377, 378, 379, 380, 381, 382, 383, 384, 385, 386, 387, 388, 389, 390, 391, 392, 393, 394, 395] (by decide +kernel) (by decide +kernel)
set_option maxRecDepth 20000 in
theorem gL_reads_X6_fault : GoodIn wsL_reads (wsV RL 57 RX6 yX6_fault wsX6_fault) := goodIn_app (goodIn_of _ (by decide +kernel)) ggL_reads_X6_fault
set_option maxRecDepth 20000 in
theorem ggL_reads_X6_count : GoodIn wsL_reads wsX6_count := goodIn_r _ [293, 294, 12, 295, 11, 296, 297, 298, 16, 299, 26, 19, 20, 18, 27, 244, 30, 28, 29, 181, 300, 301, 302, 44, 303, 46, 304, 246, 247, 248, 55, 305, 306, 307, 308, 309, 214, 215, 216, 53, 310, 311, 312, 313, 314, 315, 316, 317, 217, 218, 219, 220, 318, 319, 320, 34, 321, 40, 322, 323, 324, 325, 21, 326, 327, 328, 329, 352, 353, 354, 355, 356, 357, 358, 396, 397, 398, 388, 389, 390, 391, 392, 393, 394, 395, 359, 360, 361, 362, 363, 364, 365, 366, 367, 372, 373, 374, 375, 376, 377, 378, 379, 380, 381, 382, 383, 384, 385, 386, 387, 368, 369, 370, 371] (by decide +kernel) (by decide +kernel)
set_option maxRecDepth 20000 in
theorem gL_reads_X6_count : GoodIn wsL_reads (wsV RL 13 RX6 yX6_count wsX6_count) := goodIn_app (goodIn_of _ (by decide +kernel)) ggL_reads_X6_count
set_option maxRecDepth 20000 in
theorem ggL_reads_X6_play : GoodIn wsL_reads wsX6_play := goodIn_r _ [333, 10, 11, 12, 334, 294, 13, 14, 15, 16, 17, 18, 19, 20, 21, 22, 23, 24, 25, 26, 27, 28, 29, 30, 31, 32, 33, 34, 35, 36, 37, 38, 39, 40, 41, 42, 43, 44, 45, 46, 47, 48, 49, 50, 51, 52, 53, 54, 55, 56, 57, 58, 59, 60, 61, 62, 63, 64, 65, 66, 67, 68, 69, 70, 71, 72, 73, 74, 75, 76, 77, 78, 79, 80, 81, 82, 83, 84, 85, 86, 87, 88, 89, 90, 91, 92, 93, 94, 95, 96, 97, 98, 99, 100, 101, 102, 103, 104, 105, 106, 107, 108, 109, 110, 111, 112, 113, 114, 115, 116, 117, 118, 119, 120, 121, 122, 123, 124, 125, 126, 127, 128, 129, 130, 131, 132, 133, 134, 135, 136, 137, 138, 139, 140, 141, 142, 143, 144, 145, 146, 147, 148, 149, 150, 151, 152, 153, 154, 155, 156, 157, 158, 159, 160, 161, 162, 163, 164, 165, 166, 167, 168, 169, 170, 171, 172, 173, 174, 175, 176, 177, 178, 179, 180, 181, 182, 183, 184, 185, 186, 187, 188, 189, 190, 191, 192, 193, 194, 195, 196, 197, 198, 199, 200, 201, 202, 203, 204, 205, 206, 207, 208, 209, 210, 211, 212, 213, 214, 215, 216, 217, 218, 219, 220, 221, 222, 223, 224, 225, 226, 227, 228, 229, 230, 231, 232, 233, 234, 235, 236, 237, 238, 239, 240, 241, 242, 243, 244, 245, 246, 247, 248, 249, 250, 251, 252, 253, 7, 254, 255, 256, 257, 258, 259, 260, 261, 262, 263, 264, 265, 266, 267, 268, 269, 270, 271, 272, 273, 274, 275, 276, 277, 278, 279, 280, 281, 282, 283, 284, 285, 335, 336, 337, 338, 339, 340, 341, 342, 343, 344, 345, 346, 347, 348, 349, 350, 351, 352, 353, 354, 355, 356, 357, 358, 359, 360, 361, 362, 363, 364, 365, 366, 367, 368, 369, 370, 371, 372, 373, 374, 375, 376, 377, 378, 379, 380, 381, 382, 383, 384, 385, 386, 387, 388, 389, 390, 391, 392, 393, 394, 395, 396, 397, 398] (by decide +kernel) (by decide +kernel)
set_option maxRecDepth 20000 in
theorem gL_reads_X6_play : GoodIn wsL_reads (wsV RL 60 RX6 yX6_play wsX6_play) := goodIn_app (goodIn_of _ (by decide +kernel)) ggL_reads_X6_play
theorem dL_reads_0 : decode cL_reads 0 = .ok (.aload_n 0, 1) := by decide +kernel
theorem dL_reads_1 : decode cL_reads 1 = .ok (.iconst 0, 1) := by decide +kernel
theorem dL_reads_2 : decode cL_reads 2 = .ok (.invokevirtual 57, 3) := by decide +kernel
theorem dL_reads_5 : decode cL_reads 5 = .ok (.istore_n 1, 1) := by decide +kernel
theorem dL_reads_6 : decode cL_reads 6 = .ok (.aload_n 0, 1) := by decide +kernel
theorem dL_reads_7 : decode cL_reads 7 = .ok (.iconst 1, 1) := by decide +kernel
theorem dL_reads_8 : decode cL_reads 8 = .ok (.invokevirtual 57, 3) := by decide +kernel
theorem dL_reads_11 : decode cL_reads 11 = .ok (.istore_n 2, 1) := by decide +kernel
theorem dL_reads_12 : decode cL_reads 12 = .ok (.aload_n 0, 1) := by decide +kernel
theorem dL_reads_13 : decode cL_reads 13 = .ok (.iconst 2, 1) := by decide +kernel
theorem dL_reads_14 : decode cL_reads 14 = .ok (.invokevirtual 57, 3) := by decide +kernel
theorem dL_reads_17 : decode cL_reads 17 = .ok (.istore_n 3, 1) := by decide +kernel
theorem dL_reads_18 : decode cL_reads 18 = .ok (.aload_n 0, 1) := by decide +kernel
theorem dL_reads_19 : decode cL_reads 19 = .ok (.bipush 12, 2) := by decide +kernel
theorem dL_reads_21 : decode cL_reads 21 = .ok (.invokevirtual 13, 3) := by decide +kernel
theorem dL_reads_24 : decode cL_reads 24 = .ok (.istore 4, 2) := by decide +kernel
theorem dL_reads_26 : decode cL_reads 26 = .ok (.aload_n 0, 1) := by decide +kernel
theorem dL_reads_27 : decode cL_reads 27 = .ok (.invokevirtual 60, 3) := by decide +kernel
theorem dL_reads_30 : decode cL_reads 30 = .ok (.istore 5, 2) := by decide +kernel
theorem dL_reads_32 : decode cL_reads 32 = .ok (.iload_n 1, 1) := by decide +kernel
theorem dL_reads_33 : decode cL_reads 33 = .ok (.ldc 63, 2) := by decide +kernel
theorem dL_reads_35 : decode cL_reads 35 = .ok (.if_icmp .ne 34, 3) := by decide +kernel
theorem dL_reads_38 : decode cL_reads 38 = .ok (.iload_n 2, 1) := by decide +kernel
theorem dL_reads_39 : decode cL_reads 39 = .ok (.ldc 63, 2) := by decide +kernel
theorem dL_reads_41 : decode cL_reads 41 = .ok (.if_icmp .ne 28, 3) := by decide +kernel
theorem dL_reads_44 : decode cL_reads 44 = .ok (.iload_n 3, 1) := by decide +kernel
theorem dL_reads_45 : decode cL_reads 45 = .ok (.ldc 63, 2) := by decide +kernel
theorem dL_reads_47 : decode cL_reads 47 = .ok (.if_icmp .ne 22, 3) := by decide +kernel
theorem dL_reads_50 : decode cL_reads 50 = .ok (.iload 5, 2) := by decide +kernel
theorem dL_reads_52 : decode cL_reads 52 = .ok (.ifCond .lt 17, 3) := by decide +kernel
theorem dL_reads_55 : decode cL_reads 55 = .ok (.bipush 7, 2) := by decide +kernel
theorem dL_reads_57 : decode cL_reads 57 = .ok (.iload 5, 2) := by decide +kernel
theorem dL_reads_59 : decode cL_reads 59 = .ok (.imul, 1) := by decide +kernel
theorem dL_reads_60 : decode cL_reads 60 = .ok (.iload 4, 2) := by decide +kernel
theorem dL_reads_62 : decode cL_reads 62 = .ok (.if_icmp .gt 7, 3) := by decide +kernel
theorem dL_reads_65 : decode cL_reads 65 = .ok (.iconst 1, 1) := by decide +kernel
theorem dL_reads_66 : decode cL_reads 66 = .ok (.goto 4, 3) := by decide +kernel
theorem dL_reads_69 : decode cL_reads 69 = .ok (.iconst 0, 1) := by decide +kernel
theorem dL_reads_70 : decode cL_reads 70 = .ok (.istore 6, 2) := by decide +kernel
theorem dL_reads_72 : decode cL_reads 72 = .ok (.iload_n 1, 1) := by decide +kernel
theorem dL_reads_73 : decode cL_reads 73 = .ok (.ifCond .lt 48, 3) := by decide +kernel
theorem dL_reads_76 : decode cL_reads 76 = .ok (.iload_n 1, 1) := by decide +kernel
theorem dL_reads_77 : decode cL_reads 77 = .ok (.iload 4, 2) := by decide +kernel
theorem dL_reads_79 : decode cL_reads 79 = .ok (.if_icmp .ge 42, 3) := by decide +kernel
theorem dL_reads_82 : decode cL_reads 82 = .ok (.iload 5, 2) := by decide +kernel
theorem dL_reads_84 : decode cL_reads 84 = .ok (.ldc 64, 2) := by decide +kernel
theorem dL_reads_86 : decode cL_reads 86 = .ok (.if_icmp .ne 35, 3) := by decide +kernel
theorem dL_reads_89 : decode cL_reads 89 = .ok (.iload_n 2, 1) := by decide +kernel
theorem dL_reads_90 : decode cL_reads 90 = .ok (.iconst 1, 1) := by decide +kernel
theorem dL_reads_91 : decode cL_reads 91 = .ok (.if_icmp .ne 9, 3) := by decide +kernel
theorem dL_reads_94 : decode cL_reads 94 = .ok (.iload_n 3, 1) := by decide +kernel
theorem dL_reads_95 : decode cL_reads 95 = .ok (.ldc 63, 2) := by decide +kernel
theorem dL_reads_97 : decode cL_reads 97 = .ok (.if_icmp .eq 20, 3) := by decide +kernel
theorem dL_reads_100 : decode cL_reads 100 = .ok (.iload_n 2, 1) := by decide +kernel
theorem dL_reads_101 : decode cL_reads 101 = .ok (.iconst 2, 1) := by decide +kernel
theorem dL_reads_102 : decode cL_reads 102 = .ok (.if_icmp .ne 19, 3) := by decide +kernel
theorem dL_reads_105 : decode cL_reads 105 = .ok (.iload_n 3, 1) := by decide +kernel
theorem dL_reads_106 : decode cL_reads 106 = .ok (.ldc 65, 2) := by decide +kernel
theorem dL_reads_108 : decode cL_reads 108 = .ok (.if_icmp .gt 13, 3) := by decide +kernel
theorem dL_reads_111 : decode cL_reads 111 = .ok (.iload_n 3, 1) := by decide +kernel
theorem dL_reads_112 : decode cL_reads 112 = .ok (.ldc 63, 2) := by decide +kernel
theorem dL_reads_114 : decode cL_reads 114 = .ok (.if_icmp .le 7, 3) := by decide +kernel
theorem dL_reads_117 : decode cL_reads 117 = .ok (.iconst 1, 1) := by decide +kernel
theorem dL_reads_118 : decode cL_reads 118 = .ok (.goto 4, 3) := by decide +kernel
theorem dL_reads_121 : decode cL_reads 121 = .ok (.iconst 0, 1) := by decide +kernel
theorem dL_reads_122 : decode cL_reads 122 = .ok (.istore 7, 2) := by decide +kernel
theorem dL_reads_124 : decode cL_reads 124 = .ok (.iload 6, 2) := by decide +kernel
theorem dL_reads_126 : decode cL_reads 126 = .ok (.ifCond .ne 8, 3) := by decide +kernel
theorem dL_reads_129 : decode cL_reads 129 = .ok (.iload 7, 2) := by decide +kernel
theorem dL_reads_131 : decode cL_reads 131 = .ok (.ifCond .eq 18, 3) := by decide +kernel
theorem dL_reads_134 : decode cL_reads 134 = .ok (.aload_n 0, 1) := by decide +kernel
theorem dL_reads_135 : decode cL_reads 135 = .ok (.bipush 12, 2) := by decide +kernel
theorem dL_reads_137 : decode cL_reads 137 = .ok (.invokevirtual 13, 3) := by decide +kernel
theorem dL_reads_140 : decode cL_reads 140 = .ok (.iload 4, 2) := by decide +kernel
theorem dL_reads_142 : decode cL_reads 142 = .ok (.if_icmp .ne 7, 3) := by decide +kernel
theorem dL_reads_145 : decode cL_reads 145 = .ok (.iconst 1, 1) := by decide +kernel
theorem dL_reads_146 : decode cL_reads 146 = .ok (.goto 4, 3) := by decide +kernel
theorem dL_reads_149 : decode cL_reads 149 = .ok (.iconst 0, 1) := by decide +kernel
theorem dL_reads_150 : decode cL_reads 150 = .ok (.ireturn, 1) := by decide +kernel
set_option maxRecDepth 20000 in
theorem ggL_acts_L_low : GoodIn wsL_acts wsL_low := goodIn_r _ [7, 8] (by decide +kernel) (by decide +kernel)
set_option maxRecDepth 20000 in
theorem gL_acts_L_low : GoodIn wsL_acts (va_wsS RL 33 yL_low wsL_low) := goodIn_app (goodIn_of _ (by decide +kernel)) ggL_acts_L_low
set_option maxRecDepth 20000 in
theorem ggL_acts_X6_count : GoodIn wsL_acts wsX6_count := goodIn_r _ [13, 14, 15, 16, 17, 18, 19, 20, 21, 22, 23, 24, 25, 26, 27, 28, 29, 30, 31, 32, 33, 34, 35, 36, 37, 38, 39, 40, 41, 42, 43, 44, 45, 46, 47, 48, 49, 50, 51, 52, 53, 54, 55, 56, 57, 58, 59, 60, 61, 62, 63, 64, 65, 66, 67, 68, 69, 70, 71, 72, 73, 74, 75, 76, 77, 78, 79, 516, 517, 518, 519, 520, 521, 522, 523, 524, 525, 526, 527, 528, 529, 530, 531, 532, 533, 534, 535, 536, 537, 538, 539, 540, 541, 542, 543, 544, 545, 546, 547, 548, 549, 550, 551, 552, 553, 554, 555, 556, 557, 558, 559, 560, 561, 562] (by decide +kernel) (by decide +kernel)
set_option maxRecDepth 20000 in
theorem gL_acts_X6_count : GoodIn wsL_acts (wsV RL 13 RX6 yX6_count wsX6_count) := goodIn_app (goodIn_of _ (by decide +kernel)) ggL_acts_X6_count
