set_option maxRecDepth 20000 in
theorem ggL_acts_L_reads_5 : GoodIn wsL_acts (wsL_reads_r5) := goodIn_r _ [421, 422, 423, 424, 425, 426, 427, 428, 429, 382, 430, 431, 432, 433, 434, 435, 436, 437, 438, 439, 440, 441, 442, 443] (by decide +kernel) (by decide +kernel)
set_option maxRecDepth 20000 in
theorem ggL_acts_L_reads_6 : GoodIn wsL_acts (wsL_reads_r6) := goodIn_r _ [444, 445, 446, 447, 448, 449, 450, 451, 452, 453, 454, 455, 456, 457, 458, 459, 460, 461, 462, 463, 464, 465, 466, 467] (by decide +kernel) (by decide +kernel)
set_option maxRecDepth 20000 in
theorem ggL_acts_L_reads_7 : GoodIn wsL_acts (wsL_reads_r7) := goodIn_r _ [468, 469, 470, 471, 472, 473, 474, 475, 476, 477, 478, 479, 480, 481, 482, 483, 484, 485, 486, 487, 488, 489, 490, 491] (by decide +kernel) (by decide +kernel)
set_option maxRecDepth 20000 in
theorem ggL_acts_L_reads_8 : GoodIn wsL_acts (wsL_reads_r8) := goodIn_r _ [492, 493, 494, 495, 496, 86, 87, 88, 497, 242, 243, 244, 32, 219, 157, 158, 159, 160, 161, 245, 246, 247, 248, 100] (by decide +kernel) (by decide +kernel)
set_option maxRecDepth 20000 in
theorem ggL_acts_L_reads_9 : GoodIn wsL_acts (wsL_reads_r9) := goodIn_r _ [101, 102, 103, 94, 95, 96, 97, 104, 105, 106, 107, 249, 250, 251, 252, 498, 274, 275, 276, 277, 111, 49, 50, 51] (by decide +kernel) (by decide +kernel)
set_option maxRecDepth 20000 in
theorem ggL_acts_L_reads_10 : GoodIn wsL_acts (wsL_reads_r10) := goodIn_r _ [61, 62, 63, 64, 278, 279, 280, 281, 282, 283, 284, 499, 290, 291, 292, 293, 294, 295, 296, 297, 258, 259, 260, 500] (by decide +kernel) (by decide +kernel)
set_option maxRecDepth 20000 in
theorem ggL_acts_L_reads_11 : GoodIn wsL_acts (wsL_reads_r11) := goodIn_r _ [320, 321, 322, 28, 99, 40, 41, 42, 501, 328, 329, 330, 162, 163, 502, 230, 231, 232, 199, 200, 201, 220, 203, 204] (by decide +kernel) (by decide +kernel)
set_option maxRecDepth 20000 in
theorem ggL_acts_L_reads_12 : GoodIn wsL_acts (wsL_reads_r12) := goodIn_r _ [205, 206, 207, 208, 209, 221, 222, 223, 224, 233, 234, 235, 236, 503, 336, 337, 338, 339, 340, 341, 342, 504, 505, 506] (by decide +kernel) (by decide +kernel)
set_option maxRecDepth 20000 in
theorem ggL_acts_L_reads_13 : GoodIn wsL_acts (wsL_reads_r13) := goodIn_r _ [507, 9, 10, 11, 13, 14, 16, 18, 19, 20, 22, 33, 34, 35, 37, 39, 44, 45, 46, 47, 48, 53, 54, 55] (by decide +kernel) (by decide +kernel)
set_option maxRecDepth 20000 in
theorem ggL_acts_L_reads_14 : GoodIn wsL_acts (wsL_reads_r14) := goodIn_r _ [56, 57, 58, 59, 60, 65, 66, 67, 69, 71, 72, 73, 74, 76, 77, 78, 79, 508, 509, 510, 511, 360, 512, 513] (by decide +kernel) (by decide +kernel)
set_option maxRecDepth 20000 in
theorem ggL_acts_L_reads_15 : GoodIn wsL_acts (wsL_reads_r15) := goodIn_r _ [514, 515, 172, 173, 174, 175, 176, 177, 178, 179, 180, 181, 182, 183, 184] (by decide +kernel) (by decide +kernel)
set_option maxRecDepth 20000 in
theorem ggL_acts_L_reads_16 : GoodIn wsL_acts (wsX60) := goodIn_r _ [516, 517, 518, 519, 520, 521, 522] (by decide +kernel) (by decide +kernel)
set_option maxRecDepth 20000 in
theorem ggL_acts_L_reads_17 : GoodIn wsL_acts (wsX10) := goodIn_r _ [534, 535, 536, 537, 538, 539, 540, 541, 542] (by decide +kernel) (by decide +kernel)
set_option maxRecDepth 20000 in
theorem ggL_acts_L_reads_18 : GoodIn wsL_acts (wsX30) := goodIn_r _ [559, 560, 561, 562] (by decide +kernel) (by decide +kernel)
set_option maxRecDepth 20000 in
theorem ggL_acts_L_reads_19 : GoodIn wsL_acts (wsX50) := goodIn_r _ [543, 544, 545, 546, 547, 548, 549, 550, 551, 552] (by decide +kernel) (by decide +kernel)
set_option maxRecDepth 20000 in
theorem ggL_acts_L_reads_20 : GoodIn wsL_acts (wsX20) := goodIn_r _ [553, 554, 555, 556, 557, 558] (by decide +kernel) (by decide +kernel)
set_option maxRecDepth 20000 in
theorem ggL_acts_L_reads_21 : GoodIn wsL_acts (wsX40) := goodIn_r _ [526, 527, 528, 529, 530, 531, 532, 533] (by decide +kernel) (by decide +kernel)
set_option maxRecDepth 20000 in
theorem ggL_acts_L_reads_22 : GoodIn wsL_acts (wsX00) := goodIn_r _ [523, 524, 525] (by decide +kernel) (by decide +kernel)
set_option maxRecDepth 20000 in
theorem ggL_acts_L_reads_h : GoodIn wsL_acts [.code yL_reads cL_reads 8 (some .boolean)] := goodIn_r _ [388] (by decide +kernel) (by decide +kernel)
theorem ggL_acts_L_reads : GoodIn wsL_acts wsL_reads := goodIn_cons ggL_acts_L_reads_h (goodIn_app (goodIn_app (goodIn_app (goodIn_app (goodIn_app (goodIn_app (goodIn_app (goodIn_app (ggL_acts_L_reads_1) (goodIn_app (ggL_acts_L_reads_2) (goodIn_app (ggL_acts_L_reads_3) (goodIn_app (ggL_acts_L_reads_4) (goodIn_app (ggL_acts_L_reads_5) (goodIn_app (ggL_acts_L_reads_6) (goodIn_app (ggL_acts_L_reads_7) (goodIn_app (ggL_acts_L_reads_8) (goodIn_app (ggL_acts_L_reads_9) (goodIn_app (ggL_acts_L_reads_10) (goodIn_app (ggL_acts_L_reads_11) (goodIn_app (ggL_acts_L_reads_12) (goodIn_app (ggL_acts_L_reads_13) (goodIn_app (ggL_acts_L_reads_14) (ggL_acts_L_reads_15))))))))))))))) (ggL_acts_L_reads_16)) (ggL_acts_L_reads_17)) (ggL_acts_L_reads_18)) (ggL_acts_L_reads_19)) (ggL_acts_L_reads_20)) (ggL_acts_L_reads_21)) (ggL_acts_L_reads_22))
set_option maxRecDepth 20000 in
theorem gL_acts_L_reads : GoodIn wsL_acts (va_wsS RL 110 yL_reads wsL_reads) := goodIn_app (goodIn_of _ (by decide +kernel)) ggL_acts_L_reads
theorem dL_acts_0 : decode cL_acts 0 = .ok (.iload_n 1, 1) := by decide +kernel
theorem dL_acts_1 : decode cL_acts 1 = .ok (.bipush 20, 2) := by decide +kernel
theorem dL_acts_3 : decode cL_acts 3 = .ok (.invokestatic 33, 3) := by decide +kernel
theorem dL_acts_6 : decode cL_acts 6 = .ok (.istore_n 3, 1) := by decide +kernel
theorem dL_acts_7 : decode cL_acts 7 = .ok (.aload_n 0, 1) := by decide +kernel
theorem dL_acts_8 : decode cL_acts 8 = .ok (.iconst 0, 1) := by decide +kernel
theorem dL_acts_9 : decode cL_acts 9 = .ok (.invokevirtual 13, 3) := by decide +kernel
theorem dL_acts_12 : decode cL_acts 12 = .ok (.istore 4, 2) := by decide +kernel
theorem dL_acts_14 : decode cL_acts 14 = .ok (.aload_n 0, 1) := by decide +kernel
theorem dL_acts_15 : decode cL_acts 15 = .ok (.iconst 1, 1) := by decide +kernel
theorem dL_acts_16 : decode cL_acts 16 = .ok (.invokevirtual 13, 3) := by decide +kernel
theorem dL_acts_19 : decode cL_acts 19 = .ok (.istore 5, 2) := by decide +kernel
theorem dL_acts_21 : decode cL_acts 21 = .ok (.iload_n 1, 1) := by decide +kernel
theorem dL_acts_22 : decode cL_acts 22 = .ok (.iconst 5, 1) := by decide +kernel
theorem dL_acts_23 : decode cL_acts 23 = .ok (.ishr, 1) := by decide +kernel
theorem dL_acts_24 : decode cL_acts 24 = .ok (.iload 4, 2) := by decide +kernel
theorem dL_acts_26 : decode cL_acts 26 = .ok (.iconst 1, 1) := by decide +kernel
theorem dL_acts_27 : decode cL_acts 27 = .ok (.iadd, 1) := by decide +kernel
theorem dL_acts_28 : decode cL_acts 28 = .ok (.invokestatic 33, 3) := by decide +kernel
theorem dL_acts_31 : decode cL_acts 31 = .ok (.istore 6, 2) := by decide +kernel
theorem dL_acts_33 : decode cL_acts 33 = .ok (.iload_n 1, 1) := by decide +kernel
theorem dL_acts_34 : decode cL_acts 34 = .ok (.bipush 8, 2) := by decide +kernel
theorem dL_acts_36 : decode cL_acts 36 = .ok (.ishr, 1) := by decide +kernel
theorem dL_acts_37 : decode cL_acts 37 = .ok (.iload 5, 2) := by decide +kernel
theorem dL_acts_39 : decode cL_acts 39 = .ok (.iconst 1, 1) := by decide +kernel
theorem dL_acts_40 : decode cL_acts 40 = .ok (.iadd, 1) := by decide +kernel
theorem dL_acts_41 : decode cL_acts 41 = .ok (.invokestatic 33, 3) := by decide +kernel
theorem dL_acts_44 : decode cL_acts 44 = .ok (.istore 7, 2) := by decide +kernel
theorem dL_acts_46 : decode cL_acts 46 = .ok (.iload 7, 2) := by decide +kernel
theorem dL_acts_48 : decode cL_acts 48 = .ok (.iload 5, 2) := by decide +kernel
theorem dL_acts_50 : decode cL_acts 50 = .ok (.if_icmp .ge 7, 3) := by decide +kernel
theorem dL_acts_53 : decode cL_acts 53 = .ok (.iconst 1, 1) := by decide +kernel
theorem dL_acts_54 : decode cL_acts 54 = .ok (.goto 4, 3) := by decide +kernel
theorem dL_acts_57 : decode cL_acts 57 = .ok (.iconst 0, 1) := by decide +kernel
theorem dL_acts_58 : decode cL_acts 58 = .ok (.istore 8, 2) := by decide +kernel
theorem dL_acts_60 : decode cL_acts 60 = .ok (.iload 8, 2) := by decide +kernel
theorem dL_acts_62 : decode cL_acts 62 = .ok (.ifCond .eq 18, 3) := by decide +kernel
theorem dL_acts_65 : decode cL_acts 65 = .ok (.aload_n 0, 1) := by decide +kernel
theorem dL_acts_66 : decode cL_acts 66 = .ok (.iload 7, 2) := by decide +kernel
theorem dL_acts_68 : decode cL_acts 68 = .ok (.bipush 7, 2) := by decide +kernel
theorem dL_acts_70 : decode cL_acts 70 = .ok (.invokevirtual 19, 3) := by decide +kernel
theorem dL_acts_73 : decode cL_acts 73 = .ok (.ifCond .lt 7, 3) := by decide +kernel
theorem dL_acts_76 : decode cL_acts 76 = .ok (.iconst 1, 1) := by decide +kernel
theorem dL_acts_77 : decode cL_acts 77 = .ok (.goto 4, 3) := by decide +kernel
theorem dL_acts_80 : decode cL_acts 80 = .ok (.iconst 0, 1) := by decide +kernel
theorem dL_acts_81 : decode cL_acts 81 = .ok (.istore 9, 2) := by decide +kernel
theorem dL_acts_83 : decode cL_acts 83 = .ok (.iload 8, 2) := by decide +kernel
theorem dL_acts_85 : decode cL_acts 85 = .ok (.ifCond .eq 18, 3) := by decide +kernel
theorem dL_acts_88 : decode cL_acts 88 = .ok (.aload_n 0, 1) := by decide +kernel
theorem dL_acts_89 : decode cL_acts 89 = .ok (.iload 7, 2) := by decide +kernel
theorem dL_acts_91 : decode cL_acts 91 = .ok (.bipush 9, 2) := by decide +kernel
theorem dL_acts_93 : decode cL_acts 93 = .ok (.invokevirtual 19, 3) := by decide +kernel
theorem dL_acts_96 : decode cL_acts 96 = .ok (.ifCond .le 7, 3) := by decide +kernel
theorem dL_acts_99 : decode cL_acts 99 = .ok (.iconst 1, 1) := by decide +kernel
theorem dL_acts_100 : decode cL_acts 100 = .ok (.goto 4, 3) := by decide +kernel
theorem dL_acts_103 : decode cL_acts 103 = .ok (.iconst 0, 1) := by decide +kernel
theorem dL_acts_104 : decode cL_acts 104 = .ok (.istore 10, 2) := by decide +kernel
theorem dL_acts_106 : decode cL_acts 106 = .ok (.iload_n 3, 1) := by decide +kernel
theorem dL_acts_107 : decode cL_acts 107 = .ok (.iconst 3, 1) := by decide +kernel
theorem dL_acts_108 : decode cL_acts 108 = .ok (.if_icmp .ge 76, 3) := by decide +kernel
theorem dL_acts_111 : decode cL_acts 111 = .ok (.iload_n 2, 1) := by decide +kernel
theorem dL_acts_112 : decode cL_acts 112 = .ok (.sipush 1000, 3) := by decide +kernel
theorem dL_acts_115 : decode cL_acts 115 = .ok (.invokestatic 33, 3) := by decide +kernel
theorem dL_acts_118 : decode cL_acts 118 = .ok (.istore 11, 2) := by decide +kernel
theorem dL_acts_120 : decode cL_acts 120 = .ok (.aload_n 0, 1) := by decide +kernel
theorem dL_acts_121 : decode cL_acts 121 = .ok (.iload 6, 2) := by decide +kernel
theorem dL_acts_123 : decode cL_acts 123 = .ok (.iload 11, 2) := by decide +kernel
theorem dL_acts_125 : decode cL_acts 125 = .ok (.iload_n 2, 1) := by decide +kernel
theorem dL_acts_126 : decode cL_acts 126 = .ok (.bipush 10, 2) := by decide +kernel
theorem dL_acts_128 : decode cL_acts 128 = .ok (.ishr, 1) := by decide +kernel
theorem dL_acts_129 : decode cL_acts 129 = .ok (.iconst 5, 1) := by decide +kernel
theorem dL_acts_130 : decode cL_acts 130 = .ok (.invokestatic 33, 3) := by decide +kernel
theorem dL_acts_133 : decode cL_acts 133 = .ok (.iload_n 2, 1) := by decide +kernel
theorem dL_acts_134 : decode cL_acts 134 = .ok (.bipush 13, 2) := by decide +kernel
theorem dL_acts_136 : decode cL_acts 136 = .ok (.ishr, 1) := by decide +kernel
theorem dL_acts_137 : decode cL_acts 137 = .ok (.iconst 4, 1) := by decide +kernel
theorem dL_acts_138 : decode cL_acts 138 = .ok (.invokestatic 33, 3) := by decide +kernel
theorem dL_acts_141 : decode cL_acts 141 = .ok (.invokevirtual 66, 3) := by decide +kernel
theorem dL_acts_144 : decode cL_acts 144 = .ok (.iload 6, 2) := by decide +kernel
theorem dL_acts_146 : decode cL_acts 146 = .ok (.iload 4, 2) := by decide +kernel
theorem dL_acts_148 : decode cL_acts 148 = .ok (.if_icmp .eq 8, 3) := by decide +kernel
theorem dL_acts_151 : decode cL_acts 151 = .ok (.iload 11, 2) := by decide +kernel
theorem dL_acts_153 : decode cL_acts 153 = .ok (.ifCond .ne 8, 3) := by decide +kernel
theorem dL_acts_156 : decode cL_acts 156 = .ok (.ldc 65, 2) := by decide +kernel
theorem dL_acts_158 : decode cL_acts 158 = .ok (.goto 17, 3) := by decide +kernel
theorem dL_acts_161 : decode cL_acts 161 = .ok (.iload 5, 2) := by decide +kernel
theorem dL_acts_163 : decode cL_acts 163 = .ok (.bipush 20, 2) := by decide +kernel
theorem dL_acts_165 : decode cL_acts 165 = .ok (.if_icmp .ne 8, 3) := by decide +kernel
theorem dL_acts_168 : decode cL_acts 168 = .ok (.ldc 69, 2) := by decide +kernel
theorem dL_acts_170 : decode cL_acts 170 = .ok (.goto 5, 3) := by decide +kernel
theorem dL_acts_173 : decode cL_acts 173 = .ok (.iload 5, 2) := by decide +kernel
theorem dL_acts_175 : decode cL_acts 175 = .ok (.if_icmp .ne 7, 3) := by decide +kernel
theorem dL_acts_178 : decode cL_acts 178 = .ok (.iconst 1, 1) := by decide +kernel
theorem dL_acts_179 : decode cL_acts 179 = .ok (.goto 4, 3) := by decide +kernel
theorem dL_acts_182 : decode cL_acts 182 = .ok (.iconst 0, 1) := by decide +kernel
theorem dL_acts_183 : decode cL_acts 183 = .ok (.ireturn, 1) := by decide +kernel
theorem dL_acts_184 : decode cL_acts 184 = .ok (.iload_n 3, 1) := by decide +kernel
theorem dL_acts_185 : decode cL_acts 185 = .ok (.iconst 3, 1) := by decide +kernel
theorem dL_acts_186 : decode cL_acts 186 = .ok (.if_icmp .ne 38, 3) := by decide +kernel
theorem dL_acts_189 : decode cL_acts 189 = .ok (.iload_n 2, 1) := by decide +kernel
theorem dL_acts_190 : decode cL_acts 190 = .ok (.iconst 3, 1) := by decide +kernel
theorem dL_acts_191 : decode cL_acts 191 = .ok (.invokestatic 33, 3) := by decide +kernel
theorem dL_acts_194 : decode cL_acts 194 = .ok (.ifCond .gt 24, 3) := by decide +kernel
theorem dL_acts_197 : decode cL_acts 197 = .ok (.aload_n 0, 1) := by decide +kernel
theorem dL_acts_198 : decode cL_acts 198 = .ok (.invokevirtual 70, 3) := by decide +kernel
theorem dL_acts_201 : decode cL_acts 201 = .ok (.iload 4, 2) := by decide +kernel
theorem dL_acts_203 : decode cL_acts 203 = .ok (.bipush 6, 2) := by decide +kernel
theorem dL_acts_205 : decode cL_acts 205 = .ok (.if_icmp .ne 8, 3) := by decide +kernel
theorem dL_acts_208 : decode cL_acts 208 = .ok (.ldc 69, 2) := by decide +kernel
theorem dL_acts_210 : decode cL_acts 210 = .ok (.goto 5, 3) := by decide +kernel
theorem dL_acts_213 : decode cL_acts 213 = .ok (.iload 4, 2) := by decide +kernel
theorem dL_acts_215 : decode cL_acts 215 = .ok (.if_icmp .ne 7, 3) := by decide +kernel
theorem dL_acts_218 : decode cL_acts 218 = .ok (.iconst 1, 1) := by decide +kernel
theorem dL_acts_219 : decode cL_acts 219 = .ok (.goto 4, 3) := by decide +kernel
theorem dL_acts_222 : decode cL_acts 222 = .ok (.iconst 0, 1) := by decide +kernel
theorem dL_acts_223 : decode cL_acts 223 = .ok (.ireturn, 1) := by decide +kernel
theorem dL_acts_224 : decode cL_acts 224 = .ok (.iload_n 3, 1) := by decide +kernel
theorem dL_acts_225 : decode cL_acts 225 = .ok (.bipush 7, 2) := by decide +kernel
theorem dL_acts_227 : decode cL_acts 227 = .ok (.if_icmp .ge 225, 3) := by decide +kernel
theorem dL_acts_230 : decode cL_acts 230 = .ok (.iload_n 2, 1) := by decide +kernel
theorem dL_acts_231 : decode cL_acts 231 = .ok (.bipush 6, 2) := by decide +kernel
theorem dL_acts_233 : decode cL_acts 233 = .ok (.invokestatic 33, 3) := by decide +kernel
theorem dL_acts_236 : decode cL_acts 236 = .ok (.istore 11, 2) := by decide +kernel
theorem dL_acts_238 : decode cL_acts 238 = .ok (.iload_n 2, 1) := by decide +kernel
theorem dL_acts_239 : decode cL_acts 239 = .ok (.iconst 3, 1) := by decide +kernel
theorem dL_acts_240 : decode cL_acts 240 = .ok (.ishr, 1) := by decide +kernel
theorem dL_acts_241 : decode cL_acts 241 = .ok (.bipush 10, 2) := by decide +kernel
theorem dL_acts_243 : decode cL_acts 243 = .ok (.invokestatic 33, 3) := by decide +kernel
theorem dL_acts_246 : decode cL_acts 246 = .ok (.istore 12, 2) := by decide +kernel
theorem dL_acts_248 : decode cL_acts 248 = .ok (.iload_n 2, 1) := by decide +kernel
theorem dL_acts_249 : decode cL_acts 249 = .ok (.bipush 7, 2) := by decide +kernel
theorem dL_acts_251 : decode cL_acts 251 = .ok (.ishr, 1) := by decide +kernel
theorem dL_acts_252 : decode cL_acts 252 = .ok (.bipush 8, 2) := by decide +kernel
theorem dL_acts_254 : decode cL_acts 254 = .ok (.invokestatic 33, 3) := by decide +kernel
theorem dL_acts_257 : decode cL_acts 257 = .ok (.istore 13, 2) := by decide +kernel
theorem dL_acts_259 : decode cL_acts 259 = .ok (.iload_n 2, 1) := by decide +kernel
theorem dL_acts_260 : decode cL_acts 260 = .ok (.bipush 11, 2) := by decide +kernel
theorem dL_acts_262 : decode cL_acts 262 = .ok (.ishr, 1) := by decide +kernel
theorem dL_acts_263 : decode cL_acts 263 = .ok (.bipush 6, 2) := by decide +kernel
theorem dL_acts_265 : decode cL_acts 265 = .ok (.invokestatic 33, 3) := by decide +kernel
theorem dL_acts_268 : decode cL_acts 268 = .ok (.ifCond .ne 7, 3) := by decide +kernel
theorem dL_acts_271 : decode cL_acts 271 = .ok (.iconst 0, 1) := by decide +kernel
theorem dL_acts_272 : decode cL_acts 272 = .ok (.goto 15, 3) := by decide +kernel
theorem dL_acts_275 : decode cL_acts 275 = .ok (.iconst 1, 1) := by decide +kernel
theorem dL_acts_276 : decode cL_acts 276 = .ok (.iload_n 2, 1) := by decide +kernel
theorem dL_acts_277 : decode cL_acts 277 = .ok (.bipush 12, 2) := by decide +kernel
theorem dL_acts_279 : decode cL_acts 279 = .ok (.ishr, 1) := by decide +kernel
theorem dL_acts_280 : decode cL_acts 280 = .ok (.sipush 5000, 3) := by decide +kernel
theorem dL_acts_283 : decode cL_acts 283 = .ok (.invokestatic 33, 3) := by decide +kernel
theorem dL_acts_286 : decode cL_acts 286 = .ok (.iadd, 1) := by decide +kernel
theorem dL_acts_287 : decode cL_acts 287 = .ok (.istore 14, 2) := by decide +kernel
theorem dL_acts_289 : decode cL_acts 289 = .ok (.iload 11, 2) := by decide +kernel
theorem dL_acts_291 : decode cL_acts 291 = .ok (.iconst 5, 1) := by decide +kernel
theorem dL_acts_292 : decode cL_acts 292 = .ok (.if_icmp .ne 7, 3) := by decide +kernel
theorem dL_acts_295 : decode cL_acts 295 = .ok (.iconst 0, 1) := by decide +kernel
theorem dL_acts_296 : decode cL_acts 296 = .ok (.goto 14, 3) := by decide +kernel
theorem dL_acts_299 : decode cL_acts 299 = .ok (.aload_n 0, 1) := by decide +kernel
theorem dL_acts_300 : decode cL_acts 300 = .ok (.iload 11, 2) := by decide +kernel
theorem dL_acts_302 : decode cL_acts 302 = .ok (.iload 12, 2) := by decide +kernel
theorem dL_acts_304 : decode cL_acts 304 = .ok (.iload 13, 2) := by decide +kernel
theorem dL_acts_306 : decode cL_acts 306 = .ok (.iconst 1, 1) := by decide +kernel
theorem dL_acts_307 : decode cL_acts 307 = .ok (.invokevirtual 29, 3) := by decide +kernel
theorem dL_acts_310 : decode cL_acts 310 = .ok (.istore 15, 2) := by decide +kernel
theorem dL_acts_312 : decode cL_acts 312 = .ok (.iload 15, 2) := by decide +kernel
theorem dL_acts_314 : decode cL_acts 314 = .ok (.ifCond .ge 18, 3) := by decide +kernel
theorem dL_acts_317 : decode cL_acts 317 = .ok (.aload_n 0, 1) := by decide +kernel
theorem dL_acts_318 : decode cL_acts 318 = .ok (.bipush 6, 2) := by decide +kernel
theorem dL_acts_320 : decode cL_acts 320 = .ok (.invokevirtual 13, 3) := by decide +kernel
theorem dL_acts_323 : decode cL_acts 323 = .ok (.bipush 24, 2) := by decide +kernel
theorem dL_acts_325 : decode cL_acts 325 = .ok (.if_icmp .ne 7, 3) := by decide +kernel
theorem dL_acts_328 : decode cL_acts 328 = .ok (.iconst 1, 1) := by decide +kernel
theorem dL_acts_329 : decode cL_acts 329 = .ok (.goto 4, 3) := by decide +kernel
theorem dL_acts_332 : decode cL_acts 332 = .ok (.iconst 0, 1) := by decide +kernel
theorem dL_acts_333 : decode cL_acts 333 = .ok (.istore 16, 2) := by decide +kernel
theorem dL_acts_335 : decode cL_acts 335 = .ok (.iload_n 3, 1) := by decide +kernel
theorem dL_acts_336 : decode cL_acts 336 = .ok (.bipush 6, 2) := by decide +kernel
theorem dL_acts_338 : decode cL_acts 338 = .ok (.if_icmp .ne 56, 3) := by decide +kernel
theorem dL_acts_341 : decode cL_acts 341 = .ok (.iload_n 2, 1) := by decide +kernel
theorem dL_acts_342 : decode cL_acts 342 = .ok (.bipush 20, 2) := by decide +kernel
theorem dL_acts_344 : decode cL_acts 344 = .ok (.ishr, 1) := by decide +kernel
theorem dL_acts_345 : decode cL_acts 345 = .ok (.iconst 3, 1) := by decide +kernel
theorem dL_acts_346 : decode cL_acts 346 = .ok (.invokestatic 33, 3) := by decide +kernel
theorem dL_acts_349 : decode cL_acts 349 = .ok (.ifCond .ne 45, 3) := by decide +kernel
theorem dL_acts_352 : decode cL_acts 352 = .ok (.aload_n 0, 1) := by decide +kernel
theorem dL_acts_353 : decode cL_acts 353 = .ok (.iload 11, 2) := by decide +kernel
theorem dL_acts_355 : decode cL_acts 355 = .ok (.iload 12, 2) := by decide +kernel
theorem dL_acts_357 : decode cL_acts 357 = .ok (.iload 13, 2) := by decide +kernel
theorem dL_acts_359 : decode cL_acts 359 = .ok (.invokevirtual 73, 3) := by decide +kernel
theorem dL_acts_362 : decode cL_acts 362 = .ok (.iload 11, 2) := by decide +kernel
theorem dL_acts_364 : decode cL_acts 364 = .ok (.iconst 5, 1) := by decide +kernel
theorem dL_acts_365 : decode cL_acts 365 = .ok (.if_icmp .ne 8, 3) := by decide +kernel
theorem dL_acts_368 : decode cL_acts 368 = .ok (.ldc 65, 2) := by decide +kernel
theorem dL_acts_370 : decode cL_acts 370 = .ok (.goto 15, 3) := by decide +kernel
theorem dL_acts_373 : decode cL_acts 373 = .ok (.iload 15, 2) := by decide +kernel
theorem dL_acts_375 : decode cL_acts 375 = .ok (.ifCond .ge 8, 3) := by decide +kernel
theorem dL_acts_378 : decode cL_acts 378 = .ok (.ldc 64, 2) := by decide +kernel
theorem dL_acts_380 : decode cL_acts 380 = .ok (.goto 5, 3) := by decide +kernel
theorem dL_acts_383 : decode cL_acts 383 = .ok (.iload 15, 2) := by decide +kernel
theorem dL_acts_385 : decode cL_acts 385 = .ok (.if_icmp .ne 7, 3) := by decide +kernel
theorem dL_acts_388 : decode cL_acts 388 = .ok (.iconst 1, 1) := by decide +kernel
theorem dL_acts_389 : decode cL_acts 389 = .ok (.goto 4, 3) := by decide +kernel
theorem dL_acts_392 : decode cL_acts 392 = .ok (.iconst 0, 1) := by decide +kernel
theorem dL_acts_393 : decode cL_acts 393 = .ok (.ireturn, 1) := by decide +kernel
theorem dL_acts_394 : decode cL_acts 394 = .ok (.aload_n 0, 1) := by decide +kernel
theorem dL_acts_395 : decode cL_acts 395 = .ok (.iload 11, 2) := by decide +kernel
theorem dL_acts_397 : decode cL_acts 397 = .ok (.iload 12, 2) := by decide +kernel
theorem dL_acts_399 : decode cL_acts 399 = .ok (.iload 13, 2) := by decide +kernel
theorem dL_acts_401 : decode cL_acts 401 = .ok (.iload 14, 2) := by decide +kernel
theorem dL_acts_403 : decode cL_acts 403 = .ok (.invokevirtual 77, 3) := by decide +kernel
theorem dL_acts_406 : decode cL_acts 406 = .ok (.iload 11, 2) := by decide +kernel
theorem dL_acts_408 : decode cL_acts 408 = .ok (.iconst 5, 1) := by decide +kernel
theorem dL_acts_409 : decode cL_acts 409 = .ok (.if_icmp .eq 8, 3) := by decide +kernel
theorem dL_acts_412 : decode cL_acts 412 = .ok (.iload 14, 2) := by decide +kernel
theorem dL_acts_414 : decode cL_acts 414 = .ok (.ifCond .ne 8, 3) := by decide +kernel
theorem dL_acts_417 : decode cL_acts 417 = .ok (.ldc 65, 2) := by decide +kernel
theorem dL_acts_419 : decode cL_acts 419 = .ok (.goto 24, 3) := by decide +kernel
theorem dL_acts_422 : decode cL_acts 422 = .ok (.iload 16, 2) := by decide +kernel
theorem dL_acts_424 : decode cL_acts 424 = .ok (.ifCond .eq 8, 3) := by decide +kernel
theorem dL_acts_427 : decode cL_acts 427 = .ok (.ldc 69, 2) := by decide +kernel
theorem dL_acts_429 : decode cL_acts 429 = .ok (.goto 14, 3) := by decide +kernel
theorem dL_acts_432 : decode cL_acts 432 = .ok (.iload 15, 2) := by decide +kernel
theorem dL_acts_434 : decode cL_acts 434 = .ok (.ifCond .ge 7, 3) := by decide +kernel
theorem dL_acts_437 : decode cL_acts 437 = .ok (.iconst 0, 1) := by decide +kernel
theorem dL_acts_438 : decode cL_acts 438 = .ok (.goto 5, 3) := by decide +kernel
theorem dL_acts_441 : decode cL_acts 441 = .ok (.iload 15, 2) := by decide +kernel
theorem dL_acts_443 : decode cL_acts 443 = .ok (.if_icmp .ne 7, 3) := by decide +kernel
theorem dL_acts_446 : decode cL_acts 446 = .ok (.iconst 1, 1) := by decide +kernel
theorem dL_acts_447 : decode cL_acts 447 = .ok (.goto 4, 3) := by decide +kernel
theorem dL_acts_450 : decode cL_acts 450 = .ok (.iconst 0, 1) := by decide +kernel
theorem dL_acts_451 : decode cL_acts 451 = .ok (.ireturn, 1) := by decide +kernel
theorem dL_acts_452 : decode cL_acts 452 = .ok (.iload_n 3, 1) := by decide +kernel
theorem dL_acts_453 : decode cL_acts 453 = .ok (.bipush 11, 2) := by decide +kernel
theorem dL_acts_455 : decode cL_acts 455 = .ok (.if_icmp .ge 212, 3) := by decide +kernel
theorem dL_acts_458 : decode cL_acts 458 = .ok (.iload_n 2, 1) := by decide +kernel
theorem dL_acts_459 : decode cL_acts 459 = .ok (.iload 4, 2) := by decide +kernel
theorem dL_acts_461 : decode cL_acts 461 = .ok (.iconst 1, 1) := by decide +kernel
theorem dL_acts_462 : decode cL_acts 462 = .ok (.iadd, 1) := by decide +kernel
theorem dL_acts_463 : decode cL_acts 463 = .ok (.invokestatic 33, 3) := by decide +kernel
theorem dL_acts_466 : decode cL_acts 466 = .ok (.istore 11, 2) := by decide +kernel
theorem dL_acts_468 : decode cL_acts 468 = .ok (.iload_n 2, 1) := by decide +kernel
theorem dL_acts_469 : decode cL_acts 469 = .ok (.iconst 3, 1) := by decide +kernel
theorem dL_acts_470 : decode cL_acts 470 = .ok (.ishr, 1) := by decide +kernel
theorem dL_acts_471 : decode cL_acts 471 = .ok (.bipush 30, 2) := by decide +kernel
theorem dL_acts_473 : decode cL_acts 473 = .ok (.invokestatic 33, 3) := by decide +kernel
theorem dL_acts_476 : decode cL_acts 476 = .ok (.istore 12, 2) := by decide +kernel
theorem dL_acts_478 : decode cL_acts 478 = .ok (.iload 6, 2) := by decide +kernel
theorem dL_acts_480 : decode cL_acts 480 = .ok (.iload 4, 2) := by decide +kernel
theorem dL_acts_482 : decode cL_acts 482 = .ok (.if_icmp .ge 31, 3) := by decide +kernel
theorem dL_acts_485 : decode cL_acts 485 = .ok (.iload 11, 2) := by decide +kernel
theorem dL_acts_487 : decode cL_acts 487 = .ok (.iload 4, 2) := by decide +kernel
theorem dL_acts_489 : decode cL_acts 489 = .ok (.if_icmp .ge 24, 3) := by decide +kernel
theorem dL_acts_492 : decode cL_acts 492 = .ok (.iload 6, 2) := by decide +kernel
theorem dL_acts_494 : decode cL_acts 494 = .ok (.iload 11, 2) := by decide +kernel
theorem dL_acts_496 : decode cL_acts 496 = .ok (.if_icmp .eq 17, 3) := by decide +kernel
theorem dL_acts_499 : decode cL_acts 499 = .ok (.iload 8, 2) := by decide +kernel
theorem dL_acts_501 : decode cL_acts 501 = .ok (.ifCond .eq 12, 3) := by decide +kernel
theorem dL_acts_504 : decode cL_acts 504 = .ok (.iload 12, 2) := by decide +kernel
theorem dL_acts_506 : decode cL_acts 506 = .ok (.ifCond .le 7, 3) := by decide +kernel
theorem dL_acts_509 : decode cL_acts 509 = .ok (.iconst 1, 1) := by decide +kernel
theorem dL_acts_510 : decode cL_acts 510 = .ok (.goto 4, 3) := by decide +kernel
theorem dL_acts_513 : decode cL_acts 513 = .ok (.iconst 0, 1) := by decide +kernel
theorem dL_acts_514 : decode cL_acts 514 = .ok (.istore 13, 2) := by decide +kernel
theorem dL_acts_516 : decode cL_acts 516 = .ok (.iload 13, 2) := by decide +kernel
theorem dL_acts_518 : decode cL_acts 518 = .ok (.ifCond .eq 42, 3) := by decide +kernel
theorem dL_acts_521 : decode cL_acts 521 = .ok (.aload_n 0, 1) := by decide +kernel
theorem dL_acts_522 : decode cL_acts 522 = .ok (.iload 7, 2) := by decide +kernel
theorem dL_acts_524 : decode cL_acts 524 = .ok (.iconst 4, 1) := by decide +kernel
theorem dL_acts_525 : decode cL_acts 525 = .ok (.invokevirtual 19, 3) := by decide +kernel
theorem dL_acts_528 : decode cL_acts 528 = .ok (.iload 6, 2) := by decide +kernel
theorem dL_acts_530 : decode cL_acts 530 = .ok (.if_icmp .ne 30, 3) := by decide +kernel
theorem dL_acts_533 : decode cL_acts 533 = .ok (.aload_n 0, 1) := by decide +kernel
theorem dL_acts_534 : decode cL_acts 534 = .ok (.iload 7, 2) := by decide +kernel
theorem dL_acts_536 : decode cL_acts 536 = .ok (.iconst 5, 1) := by decide +kernel
theorem dL_acts_537 : decode cL_acts 537 = .ok (.invokevirtual 19, 3) := by decide +kernel
theorem dL_acts_540 : decode cL_acts 540 = .ok (.iload 6, 2) := by decide +kernel
theorem dL_acts_542 : decode cL_acts 542 = .ok (.if_icmp .ne 18, 3) := by decide +kernel
theorem dL_acts_545 : decode cL_acts 545 = .ok (.aload_n 0, 1) := by decide +kernel
theorem dL_acts_546 : decode cL_acts 546 = .ok (.iload 7, 2) := by decide +kernel
theorem dL_acts_548 : decode cL_acts 548 = .ok (.bipush 6, 2) := by decide +kernel
theorem dL_acts_550 : decode cL_acts 550 = .ok (.invokevirtual 19, 3) := by decide +kernel
theorem dL_acts_553 : decode cL_acts 553 = .ok (.ifCond .lt 7, 3) := by decide +kernel
theorem dL_acts_556 : decode cL_acts 556 = .ok (.iconst 1, 1) := by decide +kernel
theorem dL_acts_557 : decode cL_acts 557 = .ok (.goto 4, 3) := by decide +kernel
theorem dL_acts_560 : decode cL_acts 560 = .ok (.iconst 0, 1) := by decide +kernel
theorem dL_acts_561 : decode cL_acts 561 = .ok (.istore 14, 2) := by decide +kernel
theorem dL_acts_563 : decode cL_acts 563 = .ok (.aload_n 0, 1) := by decide +kernel
theorem dL_acts_564 : decode cL_acts 564 = .ok (.iconst 4, 1) := by decide +kernel
theorem dL_acts_565 : decode cL_acts 565 = .ok (.invokevirtual 13, 3) := by decide +kernel
theorem dL_acts_568 : decode cL_acts 568 = .ok (.istore 15, 2) := by decide +kernel
theorem dL_acts_570 : decode cL_acts 570 = .ok (.aload_n 0, 1) := by decide +kernel
theorem dL_acts_571 : decode cL_acts 571 = .ok (.iload 6, 2) := by decide +kernel
theorem dL_acts_573 : decode cL_acts 573 = .ok (.iload 11, 2) := by decide +kernel
theorem dL_acts_575 : decode cL_acts 575 = .ok (.iload 12, 2) := by decide +kernel
theorem dL_acts_577 : decode cL_acts 577 = .ok (.iconst 1, 1) := by decide +kernel
theorem dL_acts_578 : decode cL_acts 578 = .ok (.iload 7, 2) := by decide +kernel
theorem dL_acts_580 : decode cL_acts 580 = .ok (.ishl, 1) := by decide +kernel
theorem dL_acts_581 : decode cL_acts 581 = .ok (.invokevirtual 80, 3) := by decide +kernel
theorem dL_acts_584 : decode cL_acts 584 = .ok (.istore 16, 2) := by decide +kernel
theorem dL_acts_586 : decode cL_acts 586 = .ok (.iload 16, 2) := by decide +kernel
theorem dL_acts_588 : decode cL_acts 588 = .ok (.iload 13, 2) := by decide +kernel
theorem dL_acts_590 : decode cL_acts 590 = .ok (.ifCond .ne 8, 3) := by decide +kernel
theorem dL_acts_593 : decode cL_acts 593 = .ok (.ldc 65, 2) := by decide +kernel
theorem dL_acts_595 : decode cL_acts 595 = .ok (.goto 27, 3) := by decide +kernel
theorem dL_acts_598 : decode cL_acts 598 = .ok (.iload 14, 2) := by decide +kernel
theorem dL_acts_600 : decode cL_acts 600 = .ok (.ifCond .ne 8, 3) := by decide +kernel
theorem dL_acts_603 : decode cL_acts 603 = .ok (.ldc 64, 2) := by decide +kernel
theorem dL_acts_605 : decode cL_acts 605 = .ok (.goto 17, 3) := by decide +kernel
theorem dL_acts_608 : decode cL_acts 608 = .ok (.iload 15, 2) := by decide +kernel
theorem dL_acts_610 : decode cL_acts 610 = .ok (.bipush 10, 2) := by decide +kernel
theorem dL_acts_612 : decode cL_acts 612 = .ok (.if_icmp .ne 8, 3) := by decide +kernel
theorem dL_acts_615 : decode cL_acts 615 = .ok (.ldc 69, 2) := by decide +kernel
theorem dL_acts_617 : decode cL_acts 617 = .ok (.goto 5, 3) := by decide +kernel
theorem dL_acts_620 : decode cL_acts 620 = .ok (.iload 15, 2) := by decide +kernel
theorem dL_acts_622 : decode cL_acts 622 = .ok (.if_icmp .ne 43, 3) := by decide +kernel
theorem dL_acts_625 : decode cL_acts 625 = .ok (.iload 16, 2) := by decide +kernel
theorem dL_acts_627 : decode cL_acts 627 = .ok (.ifCond .lt 34, 3) := by decide +kernel
theorem dL_acts_630 : decode cL_acts 630 = .ok (.aload_n 0, 1) := by decide +kernel
theorem dL_acts_631 : decode cL_acts 631 = .ok (.iload 16, 2) := by decide +kernel
theorem dL_acts_633 : decode cL_acts 633 = .ok (.iconst 2, 1) := by decide +kernel
theorem dL_acts_634 : decode cL_acts 634 = .ok (.invokevirtual 26, 3) := by decide +kernel
theorem dL_acts_637 : decode cL_acts 637 = .ok (.aload_n 0, 1) := by decide +kernel
theorem dL_acts_638 : decode cL_acts 638 = .ok (.bipush 7, 2) := by decide +kernel
theorem dL_acts_640 : decode cL_acts 640 = .ok (.invokevirtual 13, 3) := by decide +kernel
theorem dL_acts_643 : decode cL_acts 643 = .ok (.iload 12, 2) := by decide +kernel
theorem dL_acts_645 : decode cL_acts 645 = .ok (.iadd, 1) := by decide +kernel
theorem dL_acts_646 : decode cL_acts 646 = .ok (.if_icmp .ne 19, 3) := by decide +kernel
theorem dL_acts_649 : decode cL_acts 649 = .ok (.aload_n 0, 1) := by decide +kernel
theorem dL_acts_650 : decode cL_acts 650 = .ok (.iload 7, 2) := by decide +kernel
theorem dL_acts_652 : decode cL_acts 652 = .ok (.iconst 5, 1) := by decide +kernel
theorem dL_acts_653 : decode cL_acts 653 = .ok (.invokevirtual 19, 3) := by decide +kernel
theorem dL_acts_656 : decode cL_acts 656 = .ok (.iload 11, 2) := by decide +kernel
theorem dL_acts_658 : decode cL_acts 658 = .ok (.if_icmp .ne 7, 3) := by decide +kernel
theorem dL_acts_661 : decode cL_acts 661 = .ok (.iconst 1, 1) := by decide +kernel
theorem dL_acts_662 : decode cL_acts 662 = .ok (.goto 4, 3) := by decide +kernel
theorem dL_acts_665 : decode cL_acts 665 = .ok (.iconst 0, 1) := by decide +kernel
theorem dL_acts_666 : decode cL_acts 666 = .ok (.ireturn, 1) := by decide +kernel
theorem dL_acts_667 : decode cL_acts 667 = .ok (.iload_n 3, 1) := by decide +kernel
theorem dL_acts_668 : decode cL_acts 668 = .ok (.bipush 13, 2) := by decide +kernel
theorem dL_acts_670 : decode cL_acts 670 = .ok (.if_icmp .ge 111, 3) := by decide +kernel
theorem dL_acts_673 : decode cL_acts 673 = .ok (.iload 9, 2) := by decide +kernel
theorem dL_acts_675 : decode cL_acts 675 = .ok (.ifCond .eq 14, 3) := by decide +kernel
theorem dL_acts_678 : decode cL_acts 678 = .ok (.aload_n 0, 1) := by decide +kernel
theorem dL_acts_679 : decode cL_acts 679 = .ok (.iload 7, 2) := by decide +kernel
theorem dL_acts_681 : decode cL_acts 681 = .ok (.bipush 7, 2) := by decide +kernel
theorem dL_acts_683 : decode cL_acts 683 = .ok (.invokevirtual 19, 3) := by decide +kernel
theorem dL_acts_686 : decode cL_acts 686 = .ok (.goto 4, 3) := by decide +kernel
theorem dL_acts_689 : decode cL_acts 689 = .ok (.iconst 0, 1) := by decide +kernel
theorem dL_acts_690 : decode cL_acts 690 = .ok (.istore 11, 2) := by decide +kernel
theorem dL_acts_692 : decode cL_acts 692 = .ok (.aload_n 0, 1) := by decide +kernel
theorem dL_acts_693 : decode cL_acts 693 = .ok (.iload 7, 2) := by decide +kernel
theorem dL_acts_695 : decode cL_acts 695 = .ok (.invokevirtual 83, 3) := by decide +kernel
theorem dL_acts_698 : decode cL_acts 698 = .ok (.istore 12, 2) := by decide +kernel
theorem dL_acts_700 : decode cL_acts 700 = .ok (.iload 8, 2) := by decide +kernel
theorem dL_acts_702 : decode cL_acts 702 = .ok (.ifCond .ne 18, 3) := by decide +kernel
theorem dL_acts_705 : decode cL_acts 705 = .ok (.iload 12, 2) := by decide +kernel
theorem dL_acts_707 : decode cL_acts 707 = .ok (.ldc 65, 2) := by decide +kernel
theorem dL_acts_709 : decode cL_acts 709 = .ok (.if_icmp .ne 7, 3) := by decide +kernel
theorem dL_acts_712 : decode cL_acts 712 = .ok (.iconst 1, 1) := by decide +kernel
theorem dL_acts_713 : decode cL_acts 713 = .ok (.goto 67, 3) := by decide +kernel
theorem dL_acts_716 : decode cL_acts 716 = .ok (.iconst 0, 1) := by decide +kernel
theorem dL_acts_717 : decode cL_acts 717 = .ok (.goto 63, 3) := by decide +kernel
theorem dL_acts_720 : decode cL_acts 720 = .ok (.iload 9, 2) := by decide +kernel
theorem dL_acts_722 : decode cL_acts 722 = .ok (.ifCond .ne 18, 3) := by decide +kernel
theorem dL_acts_725 : decode cL_acts 725 = .ok (.iload 12, 2) := by decide +kernel
theorem dL_acts_727 : decode cL_acts 727 = .ok (.ldc 64, 2) := by decide +kernel
theorem dL_acts_729 : decode cL_acts 729 = .ok (.if_icmp .ne 7, 3) := by decide +kernel
theorem dL_acts_732 : decode cL_acts 732 = .ok (.iconst 1, 1) := by decide +kernel
theorem dL_acts_733 : decode cL_acts 733 = .ok (.goto 47, 3) := by decide +kernel
theorem dL_acts_736 : decode cL_acts 736 = .ok (.iconst 0, 1) := by decide +kernel
theorem dL_acts_737 : decode cL_acts 737 = .ok (.goto 43, 3) := by decide +kernel
theorem dL_acts_740 : decode cL_acts 740 = .ok (.iload 12, 2) := by decide +kernel
theorem dL_acts_742 : decode cL_acts 742 = .ok (.ifCond .lt 37, 3) := by decide +kernel
theorem dL_acts_745 : decode cL_acts 745 = .ok (.iload 12, 2) := by decide +kernel
theorem dL_acts_747 : decode cL_acts 747 = .ok (.ifCond .le 7, 3) := by decide +kernel
theorem dL_acts_750 : decode cL_acts 750 = .ok (.iconst 1, 1) := by decide +kernel
theorem dL_acts_751 : decode cL_acts 751 = .ok (.goto 4, 3) := by decide +kernel
theorem dL_acts_754 : decode cL_acts 754 = .ok (.iconst 0, 1) := by decide +kernel
theorem dL_acts_755 : decode cL_acts 755 = .ok (.aload_n 0, 1) := by decide +kernel
theorem dL_acts_756 : decode cL_acts 756 = .ok (.iload 11, 2) := by decide +kernel
theorem dL_acts_758 : decode cL_acts 758 = .ok (.bipush 6, 2) := by decide +kernel
theorem dL_acts_760 : decode cL_acts 760 = .ok (.invokevirtual 26, 3) := by decide +kernel
theorem dL_acts_763 : decode cL_acts 763 = .ok (.iconst 1, 1) := by decide +kernel
theorem dL_acts_764 : decode cL_acts 764 = .ok (.if_icmp .ne 7, 3) := by decide +kernel
theorem dL_acts_767 : decode cL_acts 767 = .ok (.iconst 1, 1) := by decide +kernel
theorem dL_acts_768 : decode cL_acts 768 = .ok (.goto 4, 3) := by decide +kernel
theorem dL_acts_771 : decode cL_acts 771 = .ok (.iconst 0, 1) := by decide +kernel
theorem dL_acts_772 : decode cL_acts 772 = .ok (.if_icmp .ne 7, 3) := by decide +kernel
theorem dL_acts_775 : decode cL_acts 775 = .ok (.iconst 1, 1) := by decide +kernel
theorem dL_acts_776 : decode cL_acts 776 = .ok (.goto 4, 3) := by decide +kernel
theorem dL_acts_779 : decode cL_acts 779 = .ok (.iconst 0, 1) := by decide +kernel
theorem dL_acts_780 : decode cL_acts 780 = .ok (.ireturn, 1) := by decide +kernel
theorem dL_acts_781 : decode cL_acts 781 = .ok (.iload_n 3, 1) := by decide +kernel
theorem dL_acts_782 : decode cL_acts 782 = .ok (.bipush 13, 2) := by decide +kernel
theorem dL_acts_784 : decode cL_acts 784 = .ok (.if_icmp .ne 94, 3) := by decide +kernel
theorem dL_acts_787 : decode cL_acts 787 = .ok (.iload 9, 2) := by decide +kernel
theorem dL_acts_789 : decode cL_acts 789 = .ok (.ifCond .eq 14, 3) := by decide +kernel
theorem dL_acts_792 : decode cL_acts 792 = .ok (.aload_n 0, 1) := by decide +kernel
theorem dL_acts_793 : decode cL_acts 793 = .ok (.iload 7, 2) := by decide +kernel
theorem dL_acts_795 : decode cL_acts 795 = .ok (.bipush 8, 2) := by decide +kernel
theorem dL_acts_797 : decode cL_acts 797 = .ok (.invokevirtual 19, 3) := by decide +kernel
theorem dL_acts_800 : decode cL_acts 800 = .ok (.goto 4, 3) := by decide +kernel
theorem dL_acts_803 : decode cL_acts 803 = .ok (.iconst 0, 1) := by decide +kernel
theorem dL_acts_804 : decode cL_acts 804 = .ok (.istore 11, 2) := by decide +kernel
theorem dL_acts_806 : decode cL_acts 806 = .ok (.iload 9, 2) := by decide +kernel
theorem dL_acts_808 : decode cL_acts 808 = .ok (.ifCond .eq 13, 3) := by decide +kernel
theorem dL_acts_811 : decode cL_acts 811 = .ok (.aload_n 0, 1) := by decide +kernel
theorem dL_acts_812 : decode cL_acts 812 = .ok (.iload 7, 2) := by decide +kernel
theorem dL_acts_814 : decode cL_acts 814 = .ok (.iconst 5, 1) := by decide +kernel
theorem dL_acts_815 : decode cL_acts 815 = .ok (.invokevirtual 19, 3) := by decide +kernel
theorem dL_acts_818 : decode cL_acts 818 = .ok (.goto 4, 3) := by decide +kernel
theorem dL_acts_821 : decode cL_acts 821 = .ok (.iconst 0, 1) := by decide +kernel
theorem dL_acts_822 : decode cL_acts 822 = .ok (.istore 12, 2) := by decide +kernel
theorem dL_acts_824 : decode cL_acts 824 = .ok (.aload_n 0, 1) := by decide +kernel
theorem dL_acts_825 : decode cL_acts 825 = .ok (.iload 7, 2) := by decide +kernel
theorem dL_acts_827 : decode cL_acts 827 = .ok (.invokevirtual 86, 3) := by decide +kernel
theorem dL_acts_830 : decode cL_acts 830 = .ok (.iload 8, 2) := by decide +kernel
theorem dL_acts_832 : decode cL_acts 832 = .ok (.ifCond .ne 8, 3) := by decide +kernel
theorem dL_acts_835 : decode cL_acts 835 = .ok (.ldc 65, 2) := by decide +kernel
theorem dL_acts_837 : decode cL_acts 837 = .ok (.goto 15, 3) := by decide +kernel
theorem dL_acts_840 : decode cL_acts 840 = .ok (.iload 9, 2) := by decide +kernel
theorem dL_acts_842 : decode cL_acts 842 = .ok (.ifCond .ne 8, 3) := by decide +kernel
theorem dL_acts_845 : decode cL_acts 845 = .ok (.ldc 64, 2) := by decide +kernel
theorem dL_acts_847 : decode cL_acts 847 = .ok (.goto 5, 3) := by decide +kernel
theorem dL_acts_850 : decode cL_acts 850 = .ok (.iload 11, 2) := by decide +kernel
theorem dL_acts_852 : decode cL_acts 852 = .ok (.if_icmp .ne 24, 3) := by decide +kernel
theorem dL_acts_855 : decode cL_acts 855 = .ok (.iload 9, 2) := by decide +kernel
theorem dL_acts_857 : decode cL_acts 857 = .ok (.ifCond .eq 15, 3) := by decide +kernel
theorem dL_acts_860 : decode cL_acts 860 = .ok (.aload_n 0, 1) := by decide +kernel
theorem dL_acts_861 : decode cL_acts 861 = .ok (.iload 7, 2) := by decide +kernel
theorem dL_acts_863 : decode cL_acts 863 = .ok (.iconst 4, 1) := by decide +kernel
theorem dL_acts_864 : decode cL_acts 864 = .ok (.invokevirtual 19, 3) := by decide +kernel
theorem dL_acts_867 : decode cL_acts 867 = .ok (.iload 12, 2) := by decide +kernel
theorem dL_acts_869 : decode cL_acts 869 = .ok (.if_icmp .ne 7, 3) := by decide +kernel
theorem dL_acts_872 : decode cL_acts 872 = .ok (.iconst 1, 1) := by decide +kernel
theorem dL_acts_873 : decode cL_acts 873 = .ok (.goto 4, 3) := by decide +kernel
theorem dL_acts_876 : decode cL_acts 876 = .ok (.iconst 0, 1) := by decide +kernel
theorem dL_acts_877 : decode cL_acts 877 = .ok (.ireturn, 1) := by decide +kernel
theorem dL_acts_878 : decode cL_acts 878 = .ok (.iload_n 3, 1) := by decide +kernel
theorem dL_acts_879 : decode cL_acts 879 = .ok (.bipush 14, 2) := by decide +kernel
theorem dL_acts_881 : decode cL_acts 881 = .ok (.if_icmp .ne 111, 3) := by decide +kernel
theorem dL_acts_884 : decode cL_acts 884 = .ok (.iload_n 2, 1) := by decide +kernel
theorem dL_acts_885 : decode cL_acts 885 = .ok (.sipush 10001, 3) := by decide +kernel
theorem dL_acts_888 : decode cL_acts 888 = .ok (.invokestatic 33, 3) := by decide +kernel
theorem dL_acts_891 : decode cL_acts 891 = .ok (.istore 11, 2) := by decide +kernel
theorem dL_acts_893 : decode cL_acts 893 = .ok (.iload 8, 2) := by decide +kernel
theorem dL_acts_895 : decode cL_acts 895 = .ok (.ifCond .eq 23, 3) := by decide +kernel
theorem dL_acts_898 : decode cL_acts 898 = .ok (.iload 10, 2) := by decide +kernel
theorem dL_acts_900 : decode cL_acts 900 = .ok (.ifCond .ne 18, 3) := by decide +kernel
theorem dL_acts_903 : decode cL_acts 903 = .ok (.aload_n 0, 1) := by decide +kernel
theorem dL_acts_904 : decode cL_acts 904 = .ok (.aload_n 0, 1) := by decide +kernel
theorem dL_acts_905 : decode cL_acts 905 = .ok (.iload 7, 2) := by decide +kernel
theorem dL_acts_907 : decode cL_acts 907 = .ok (.iconst 4, 1) := by decide +kernel
theorem dL_acts_908 : decode cL_acts 908 = .ok (.invokevirtual 19, 3) := by decide +kernel
theorem dL_acts_911 : decode cL_acts 911 = .ok (.iconst 0, 1) := by decide +kernel
theorem dL_acts_912 : decode cL_acts 912 = .ok (.invokevirtual 23, 3) := by decide +kernel
theorem dL_acts_915 : decode cL_acts 915 = .ok (.goto 4, 3) := by decide +kernel
theorem dL_acts_918 : decode cL_acts 918 = .ok (.iconst 0, 1) := by decide +kernel
theorem dL_acts_919 : decode cL_acts 919 = .ok (.istore 12, 2) := by decide +kernel
theorem dL_acts_921 : decode cL_acts 921 = .ok (.iload_n 2, 1) := by decide +kernel
theorem dL_acts_922 : decode cL_acts 922 = .ok (.bipush 15, 2) := by decide +kernel
theorem dL_acts_924 : decode cL_acts 924 = .ok (.ishr, 1) := by decide +kernel
theorem dL_acts_925 : decode cL_acts 925 = .ok (.iconst 3, 1) := by decide +kernel
theorem dL_acts_926 : decode cL_acts 926 = .ok (.invokestatic 33, 3) := by decide +kernel
theorem dL_acts_929 : decode cL_acts 929 = .ok (.ifCond .gt 57, 3) := by decide +kernel
theorem dL_acts_932 : decode cL_acts 932 = .ok (.aload_n 0, 1) := by decide +kernel
theorem dL_acts_933 : decode cL_acts 933 = .ok (.iload 7, 2) := by decide +kernel
theorem dL_acts_935 : decode cL_acts 935 = .ok (.iload 11, 2) := by decide +kernel
theorem dL_acts_937 : decode cL_acts 937 = .ok (.invokevirtual 89, 3) := by decide +kernel
theorem dL_acts_940 : decode cL_acts 940 = .ok (.iload 8, 2) := by decide +kernel
theorem dL_acts_942 : decode cL_acts 942 = .ok (.ifCond .eq 16, 3) := by decide +kernel
theorem dL_acts_945 : decode cL_acts 945 = .ok (.iload 11, 2) := by decide +kernel
theorem dL_acts_947 : decode cL_acts 947 = .ok (.ifCond .eq 11, 3) := by decide +kernel
theorem dL_acts_950 : decode cL_acts 950 = .ok (.iload 11, 2) := by decide +kernel
theorem dL_acts_952 : decode cL_acts 952 = .ok (.sipush 10000, 3) := by decide +kernel
theorem dL_acts_955 : decode cL_acts 955 = .ok (.if_icmp .ne 8, 3) := by decide +kernel
theorem dL_acts_958 : decode cL_acts 958 = .ok (.ldc 65, 2) := by decide +kernel
theorem dL_acts_960 : decode cL_acts 960 = .ok (.goto 23, 3) := by decide +kernel
theorem dL_acts_963 : decode cL_acts 963 = .ok (.iload 9, 2) := by decide +kernel
theorem dL_acts_965 : decode cL_acts 965 = .ok (.ifCond .ne 8, 3) := by decide +kernel
theorem dL_acts_968 : decode cL_acts 968 = .ok (.iload 10, 2) := by decide +kernel
theorem dL_acts_970 : decode cL_acts 970 = .ok (.ifCond .eq 8, 3) := by decide +kernel
theorem dL_acts_973 : decode cL_acts 973 = .ok (.ldc 64, 2) := by decide +kernel
theorem dL_acts_975 : decode cL_acts 975 = .ok (.goto 8, 3) := by decide +kernel
theorem dL_acts_978 : decode cL_acts 978 = .ok (.iload 12, 2) := by decide +kernel
theorem dL_acts_980 : decode cL_acts 980 = .ok (.iload 11, 2) := by decide +kernel
theorem dL_acts_982 : decode cL_acts 982 = .ok (.iadd, 1) := by decide +kernel
theorem dL_acts_983 : decode cL_acts 983 = .ok (.if_icmp .ne 7, 3) := by decide +kernel
theorem dL_acts_986 : decode cL_acts 986 = .ok (.iconst 1, 1) := by decide +kernel
theorem dL_acts_987 : decode cL_acts 987 = .ok (.goto 4, 3) := by decide +kernel
theorem dL_acts_990 : decode cL_acts 990 = .ok (.iconst 0, 1) := by decide +kernel
theorem dL_acts_991 : decode cL_acts 991 = .ok (.ireturn, 1) := by decide +kernel
theorem dL_acts_992 : decode cL_acts 992 = .ok (.iload_n 3, 1) := by decide +kernel
theorem dL_acts_993 : decode cL_acts 993 = .ok (.bipush 15, 2) := by decide +kernel
theorem dL_acts_995 : decode cL_acts 995 = .ok (.if_icmp .ne 94, 3) := by decide +kernel
theorem dL_acts_998 : decode cL_acts 998 = .ok (.iload_n 2, 1) := by decide +kernel
theorem dL_acts_999 : decode cL_acts 999 = .ok (.bipush 11, 2) := by decide +kernel
theorem dL_acts_1001 : decode cL_acts 1001 = .ok (.invokestatic 33, 3) := by decide +kernel
theorem dL_acts_1004 : decode cL_acts 1004 = .ok (.istore 11, 2) := by decide +kernel
theorem dL_acts_1006 : decode cL_acts 1006 = .ok (.iload 8, 2) := by decide +kernel
theorem dL_acts_1008 : decode cL_acts 1008 = .ok (.ifCond .eq 24, 3) := by decide +kernel
theorem dL_acts_1011 : decode cL_acts 1011 = .ok (.bipush 10, 2) := by decide +kernel
theorem dL_acts_1013 : decode cL_acts 1013 = .ok (.aload_n 0, 1) := by decide +kernel
theorem dL_acts_1014 : decode cL_acts 1014 = .ok (.iload 7, 2) := by decide +kernel
theorem dL_acts_1016 : decode cL_acts 1016 = .ok (.iconst 1, 1) := by decide +kernel
theorem dL_acts_1017 : decode cL_acts 1017 = .ok (.invokevirtual 19, 3) := by decide +kernel
theorem dL_acts_1020 : decode cL_acts 1020 = .ok (.imul, 1) := by decide +kernel
theorem dL_acts_1021 : decode cL_acts 1021 = .ok (.aload_n 0, 1) := by decide +kernel
theorem dL_acts_1022 : decode cL_acts 1022 = .ok (.iload 7, 2) := by decide +kernel
theorem dL_acts_1024 : decode cL_acts 1024 = .ok (.iconst 2, 1) := by decide +kernel
theorem dL_acts_1025 : decode cL_acts 1025 = .ok (.invokevirtual 19, 3) := by decide +kernel
theorem dL_acts_1028 : decode cL_acts 1028 = .ok (.iadd, 1) := by decide +kernel
theorem dL_acts_1029 : decode cL_acts 1029 = .ok (.goto 4, 3) := by decide +kernel
theorem dL_acts_1032 : decode cL_acts 1032 = .ok (.iconst 0, 1) := by decide +kernel
theorem dL_acts_1033 : decode cL_acts 1033 = .ok (.istore 12, 2) := by decide +kernel
theorem dL_acts_1035 : decode cL_acts 1035 = .ok (.aload_n 0, 1) := by decide +kernel
theorem dL_acts_1036 : decode cL_acts 1036 = .ok (.iload 7, 2) := by decide +kernel
theorem dL_acts_1038 : decode cL_acts 1038 = .ok (.iload 11, 2) := by decide +kernel
theorem dL_acts_1040 : decode cL_acts 1040 = .ok (.iload_n 2, 1) := by decide +kernel
theorem dL_acts_1041 : decode cL_acts 1041 = .ok (.iconst 4, 1) := by decide +kernel
theorem dL_acts_1042 : decode cL_acts 1042 = .ok (.ishr, 1) := by decide +kernel
theorem dL_acts_1043 : decode cL_acts 1043 = .ok (.bipush 8, 2) := by decide +kernel
theorem dL_acts_1045 : decode cL_acts 1045 = .ok (.invokestatic 33, 3) := by decide +kernel
theorem dL_acts_1048 : decode cL_acts 1048 = .ok (.invokevirtual 92, 3) := by decide +kernel
theorem dL_acts_1051 : decode cL_acts 1051 = .ok (.iload 8, 2) := by decide +kernel
theorem dL_acts_1053 : decode cL_acts 1053 = .ok (.ifCond .eq 10, 3) := by decide +kernel
theorem dL_acts_1056 : decode cL_acts 1056 = .ok (.iload 11, 2) := by decide +kernel
theorem dL_acts_1058 : decode cL_acts 1058 = .ok (.bipush 10, 2) := by decide +kernel
theorem dL_acts_1060 : decode cL_acts 1060 = .ok (.if_icmp .ne 8, 3) := by decide +kernel
theorem dL_acts_1063 : decode cL_acts 1063 = .ok (.ldc 65, 2) := by decide +kernel
theorem dL_acts_1065 : decode cL_acts 1065 = .ok (.goto 15, 3) := by decide +kernel
theorem dL_acts_1068 : decode cL_acts 1068 = .ok (.iload 10, 2) := by decide +kernel
theorem dL_acts_1070 : decode cL_acts 1070 = .ok (.ifCond .eq 8, 3) := by decide +kernel
theorem dL_acts_1073 : decode cL_acts 1073 = .ok (.ldc 64, 2) := by decide +kernel
theorem dL_acts_1075 : decode cL_acts 1075 = .ok (.goto 5, 3) := by decide +kernel
theorem dL_acts_1078 : decode cL_acts 1078 = .ok (.iload 12, 2) := by decide +kernel
theorem dL_acts_1080 : decode cL_acts 1080 = .ok (.if_icmp .ne 7, 3) := by decide +kernel
theorem dL_acts_1083 : decode cL_acts 1083 = .ok (.iconst 1, 1) := by decide +kernel
theorem dL_acts_1084 : decode cL_acts 1084 = .ok (.goto 4, 3) := by decide +kernel
theorem dL_acts_1087 : decode cL_acts 1087 = .ok (.iconst 0, 1) := by decide +kernel
theorem dL_acts_1088 : decode cL_acts 1088 = .ok (.ireturn, 1) := by decide +kernel
theorem dL_acts_1089 : decode cL_acts 1089 = .ok (.iload_n 3, 1) := by decide +kernel
theorem dL_acts_1090 : decode cL_acts 1090 = .ok (.bipush 16, 2) := by decide +kernel
theorem dL_acts_1092 : decode cL_acts 1092 = .ok (.if_icmp .ne 128, 3) := by decide +kernel
theorem dL_acts_1095 : decode cL_acts 1095 = .ok (.iload_n 2, 1) := by decide +kernel
theorem dL_acts_1096 : decode cL_acts 1096 = .ok (.iconst 4, 1) := by decide +kernel
theorem dL_acts_1097 : decode cL_acts 1097 = .ok (.invokestatic 33, 3) := by decide +kernel
theorem dL_acts_1100 : decode cL_acts 1100 = .ok (.ifCond .ne 14, 3) := by decide +kernel
theorem dL_acts_1103 : decode cL_acts 1103 = .ok (.iload_n 2, 1) := by decide +kernel
theorem dL_acts_1104 : decode cL_acts 1104 = .ok (.iconst 2, 1) := by decide +kernel
theorem dL_acts_1105 : decode cL_acts 1105 = .ok (.ishr, 1) := by decide +kernel
theorem dL_acts_1106 : decode cL_acts 1106 = .ok (.bipush 101, 2) := by decide +kernel
theorem dL_acts_1108 : decode cL_acts 1108 = .ok (.invokestatic 33, 3) := by decide +kernel
theorem dL_acts_1111 : decode cL_acts 1111 = .ok (.goto 13, 3) := by decide +kernel
theorem dL_acts_1114 : decode cL_acts 1114 = .ok (.iconst 1, 1) := by decide +kernel
theorem dL_acts_1115 : decode cL_acts 1115 = .ok (.iload_n 2, 1) := by decide +kernel
theorem dL_acts_1116 : decode cL_acts 1116 = .ok (.iconst 2, 1) := by decide +kernel
theorem dL_acts_1117 : decode cL_acts 1117 = .ok (.ishr, 1) := by decide +kernel
theorem dL_acts_1118 : decode cL_acts 1118 = .ok (.bipush 6, 2) := by decide +kernel
theorem dL_acts_1120 : decode cL_acts 1120 = .ok (.invokestatic 33, 3) := by decide +kernel
theorem dL_acts_1123 : decode cL_acts 1123 = .ok (.iadd, 1) := by decide +kernel
theorem dL_acts_1124 : decode cL_acts 1124 = .ok (.istore 11, 2) := by decide +kernel
theorem dL_acts_1126 : decode cL_acts 1126 = .ok (.aload_n 0, 1) := by decide +kernel
theorem dL_acts_1127 : decode cL_acts 1127 = .ok (.bipush 7, 2) := by decide +kernel
theorem dL_acts_1129 : decode cL_acts 1129 = .ok (.invokevirtual 13, 3) := by decide +kernel
theorem dL_acts_1132 : decode cL_acts 1132 = .ok (.istore 12, 2) := by decide +kernel
theorem dL_acts_1134 : decode cL_acts 1134 = .ok (.aload_n 0, 1) := by decide +kernel
theorem dL_acts_1135 : decode cL_acts 1135 = .ok (.iload 11, 2) := by decide +kernel
theorem dL_acts_1137 : decode cL_acts 1137 = .ok (.invokevirtual 95, 3) := by decide +kernel
theorem dL_acts_1140 : decode cL_acts 1140 = .ok (.istore 13, 2) := by decide +kernel
theorem dL_acts_1142 : decode cL_acts 1142 = .ok (.iload 11, 2) := by decide +kernel
theorem dL_acts_1144 : decode cL_acts 1144 = .ok (.ifCond .eq 10, 3) := by decide +kernel
theorem dL_acts_1147 : decode cL_acts 1147 = .ok (.iload 11, 2) := by decide +kernel
theorem dL_acts_1149 : decode cL_acts 1149 = .ok (.bipush 100, 2) := by decide +kernel
theorem dL_acts_1151 : decode cL_acts 1151 = .ok (.if_icmp .ne 18, 3) := by decide +kernel
theorem dL_acts_1154 : decode cL_acts 1154 = .ok (.iload 13, 2) := by decide +kernel
theorem dL_acts_1156 : decode cL_acts 1156 = .ok (.ldc 65, 2) := by decide +kernel
theorem dL_acts_1158 : decode cL_acts 1158 = .ok (.if_icmp .ne 7, 3) := by decide +kernel
theorem dL_acts_1161 : decode cL_acts 1161 = .ok (.iconst 1, 1) := by decide +kernel
theorem dL_acts_1162 : decode cL_acts 1162 = .ok (.goto 57, 3) := by decide +kernel
theorem dL_acts_1165 : decode cL_acts 1165 = .ok (.iconst 0, 1) := by decide +kernel
theorem dL_acts_1166 : decode cL_acts 1166 = .ok (.goto 53, 3) := by decide +kernel
theorem dL_acts_1169 : decode cL_acts 1169 = .ok (.iload 13, 2) := by decide +kernel
theorem dL_acts_1171 : decode cL_acts 1171 = .ok (.ldc 69, 2) := by decide +kernel
theorem dL_acts_1173 : decode cL_acts 1173 = .ok (.if_icmp .ne 22, 3) := by decide +kernel
theorem dL_acts_1176 : decode cL_acts 1176 = .ok (.iload 12, 2) := by decide +kernel
theorem dL_acts_1178 : decode cL_acts 1178 = .ok (.iload 11, 2) := by decide +kernel
theorem dL_acts_1180 : decode cL_acts 1180 = .ok (.iadd, 1) := by decide +kernel
theorem dL_acts_1181 : decode cL_acts 1181 = .ok (.sipush 2000, 3) := by decide +kernel
theorem dL_acts_1184 : decode cL_acts 1184 = .ok (.if_icmp .le 7, 3) := by decide +kernel
theorem dL_acts_1187 : decode cL_acts 1187 = .ok (.iconst 1, 1) := by decide +kernel
theorem dL_acts_1188 : decode cL_acts 1188 = .ok (.goto 31, 3) := by decide +kernel
theorem dL_acts_1191 : decode cL_acts 1191 = .ok (.iconst 0, 1) := by decide +kernel
theorem dL_acts_1192 : decode cL_acts 1192 = .ok (.goto 27, 3) := by decide +kernel
theorem dL_acts_1195 : decode cL_acts 1195 = .ok (.iload 13, 2) := by decide +kernel
theorem dL_acts_1197 : decode cL_acts 1197 = .ok (.ifCond .lt 21, 3) := by decide +kernel
theorem dL_acts_1200 : decode cL_acts 1200 = .ok (.aload_n 0, 1) := by decide +kernel
theorem dL_acts_1201 : decode cL_acts 1201 = .ok (.bipush 7, 2) := by decide +kernel
theorem dL_acts_1203 : decode cL_acts 1203 = .ok (.invokevirtual 13, 3) := by decide +kernel
theorem dL_acts_1206 : decode cL_acts 1206 = .ok (.iload 12, 2) := by decide +kernel
theorem dL_acts_1208 : decode cL_acts 1208 = .ok (.iload 11, 2) := by decide +kernel
theorem dL_acts_1210 : decode cL_acts 1210 = .ok (.iadd, 1) := by decide +kernel
theorem dL_acts_1211 : decode cL_acts 1211 = .ok (.if_icmp .ne 7, 3) := by decide +kernel
theorem dL_acts_1214 : decode cL_acts 1214 = .ok (.iconst 1, 1) := by decide +kernel
theorem dL_acts_1215 : decode cL_acts 1215 = .ok (.goto 4, 3) := by decide +kernel
theorem dL_acts_1218 : decode cL_acts 1218 = .ok (.iconst 0, 1) := by decide +kernel
theorem dL_acts_1219 : decode cL_acts 1219 = .ok (.ireturn, 1) := by decide +kernel
theorem dL_acts_1220 : decode cL_acts 1220 = .ok (.iload_n 3, 1) := by decide +kernel
theorem dL_acts_1221 : decode cL_acts 1221 = .ok (.bipush 17, 2) := by decide +kernel
theorem dL_acts_1223 : decode cL_acts 1223 = .ok (.if_icmp .ne 83, 3) := by decide +kernel
theorem dL_acts_1226 : decode cL_acts 1226 = .ok (.iload_n 2, 1) := by decide +kernel
theorem dL_acts_1227 : decode cL_acts 1227 = .ok (.iconst 3, 1) := by decide +kernel
theorem dL_acts_1228 : decode cL_acts 1228 = .ok (.invokestatic 33, 3) := by decide +kernel
theorem dL_acts_1231 : decode cL_acts 1231 = .ok (.istore 11, 2) := by decide +kernel
theorem dL_acts_1233 : decode cL_acts 1233 = .ok (.iload_n 2, 1) := by decide +kernel
theorem dL_acts_1234 : decode cL_acts 1234 = .ok (.iconst 2, 1) := by decide +kernel
theorem dL_acts_1235 : decode cL_acts 1235 = .ok (.ishr, 1) := by decide +kernel
theorem dL_acts_1236 : decode cL_acts 1236 = .ok (.bipush 40, 2) := by decide +kernel
theorem dL_acts_1238 : decode cL_acts 1238 = .ok (.invokestatic 33, 3) := by decide +kernel
theorem dL_acts_1241 : decode cL_acts 1241 = .ok (.istore 12, 2) := by decide +kernel
theorem dL_acts_1243 : decode cL_acts 1243 = .ok (.iload 11, 2) := by decide +kernel
theorem dL_acts_1245 : decode cL_acts 1245 = .ok (.iconst 2, 1) := by decide +kernel
theorem dL_acts_1246 : decode cL_acts 1246 = .ok (.if_icmp .ne 7, 3) := by decide +kernel
theorem dL_acts_1249 : decode cL_acts 1249 = .ok (.iconst 0, 1) := by decide +kernel
theorem dL_acts_1250 : decode cL_acts 1250 = .ok (.goto 12, 3) := by decide +kernel
theorem dL_acts_1253 : decode cL_acts 1253 = .ok (.aload_n 0, 1) := by decide +kernel
theorem dL_acts_1254 : decode cL_acts 1254 = .ok (.bipush 14, 2) := by decide +kernel
theorem dL_acts_1256 : decode cL_acts 1256 = .ok (.iload 11, 2) := by decide +kernel
theorem dL_acts_1258 : decode cL_acts 1258 = .ok (.iadd, 1) := by decide +kernel
theorem dL_acts_1259 : decode cL_acts 1259 = .ok (.invokevirtual 13, 3) := by decide +kernel
theorem dL_acts_1262 : decode cL_acts 1262 = .ok (.istore 13, 2) := by decide +kernel
theorem dL_acts_1264 : decode cL_acts 1264 = .ok (.aload_n 0, 1) := by decide +kernel
theorem dL_acts_1265 : decode cL_acts 1265 = .ok (.iload 11, 2) := by decide +kernel
theorem dL_acts_1267 : decode cL_acts 1267 = .ok (.iload 12, 2) := by decide +kernel
theorem dL_acts_1269 : decode cL_acts 1269 = .ok (.invokevirtual 98, 3) := by decide +kernel
theorem dL_acts_1272 : decode cL_acts 1272 = .ok (.iload 11, 2) := by decide +kernel
theorem dL_acts_1274 : decode cL_acts 1274 = .ok (.iconst 2, 1) := by decide +kernel
theorem dL_acts_1275 : decode cL_acts 1275 = .ok (.if_icmp .eq 15, 3) := by decide +kernel
theorem dL_acts_1278 : decode cL_acts 1278 = .ok (.iload 11, 2) := by decide +kernel
theorem dL_acts_1280 : decode cL_acts 1280 = .ok (.ifCond .ne 15, 3) := by decide +kernel
theorem dL_acts_1283 : decode cL_acts 1283 = .ok (.iload 12, 2) := by decide +kernel
theorem dL_acts_1285 : decode cL_acts 1285 = .ok (.bipush 30, 2) := by decide +kernel
theorem dL_acts_1287 : decode cL_acts 1287 = .ok (.if_icmp .le 8, 3) := by decide +kernel
theorem dL_acts_1290 : decode cL_acts 1290 = .ok (.ldc 65, 2) := by decide +kernel
theorem dL_acts_1292 : decode cL_acts 1292 = .ok (.goto 5, 3) := by decide +kernel
theorem dL_acts_1295 : decode cL_acts 1295 = .ok (.iload 13, 2) := by decide +kernel
theorem dL_acts_1297 : decode cL_acts 1297 = .ok (.if_icmp .ne 7, 3) := by decide +kernel
theorem dL_acts_1300 : decode cL_acts 1300 = .ok (.iconst 1, 1) := by decide +kernel
theorem dL_acts_1301 : decode cL_acts 1301 = .ok (.goto 4, 3) := by decide +kernel
theorem dL_acts_1304 : decode cL_acts 1304 = .ok (.iconst 0, 1) := by decide +kernel
theorem dL_acts_1305 : decode cL_acts 1305 = .ok (.ireturn, 1) := by decide +kernel
theorem dL_acts_1306 : decode cL_acts 1306 = .ok (.iload_n 3, 1) := by decide +kernel
theorem dL_acts_1307 : decode cL_acts 1307 = .ok (.bipush 18, 2) := by decide +kernel
theorem dL_acts_1309 : decode cL_acts 1309 = .ok (.if_icmp .ne 70, 3) := by decide +kernel
theorem dL_acts_1312 : decode cL_acts 1312 = .ok (.aload_n 0, 1) := by decide +kernel
theorem dL_acts_1313 : decode cL_acts 1313 = .ok (.bipush 13, 2) := by decide +kernel
theorem dL_acts_1315 : decode cL_acts 1315 = .ok (.invokevirtual 13, 3) := by decide +kernel
theorem dL_acts_1318 : decode cL_acts 1318 = .ok (.iconst 1, 1) := by decide +kernel
theorem dL_acts_1319 : decode cL_acts 1319 = .ok (.if_icmp .ne 7, 3) := by decide +kernel
theorem dL_acts_1322 : decode cL_acts 1322 = .ok (.iconst 1, 1) := by decide +kernel
