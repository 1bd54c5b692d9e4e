theorem dL_acts_1323 : decode cL_acts 1323 = .ok (.goto 4, 3) := by decide +kernel
theorem dL_acts_1326 : decode cL_acts 1326 = .ok (.iconst 0, 1) := by decide +kernel
theorem dL_acts_1327 : decode cL_acts 1327 = .ok (.istore 11, 2) := by decide +kernel
theorem dL_acts_1329 : decode cL_acts 1329 = .ok (.iload_n 2, 1) := by decide +kernel
theorem dL_acts_1330 : decode cL_acts 1330 = .ok (.iconst 2, 1) := by decide +kernel
theorem dL_acts_1331 : decode cL_acts 1331 = .ok (.invokestatic 33, 3) := by decide +kernel
theorem dL_acts_1334 : decode cL_acts 1334 = .ok (.ifCond .ne 10, 3) := by decide +kernel
theorem dL_acts_1337 : decode cL_acts 1337 = .ok (.aload_n 0, 1) := by decide +kernel
theorem dL_acts_1338 : decode cL_acts 1338 = .ok (.invokevirtual 101, 3) := by decide +kernel
theorem dL_acts_1341 : decode cL_acts 1341 = .ok (.goto 7, 3) := by decide +kernel
theorem dL_acts_1344 : decode cL_acts 1344 = .ok (.aload_n 0, 1) := by decide +kernel
theorem dL_acts_1345 : decode cL_acts 1345 = .ok (.invokevirtual 104, 3) := by decide +kernel
theorem dL_acts_1348 : decode cL_acts 1348 = .ok (.istore 12, 2) := by decide +kernel
theorem dL_acts_1350 : decode cL_acts 1350 = .ok (.iload 12, 2) := by decide +kernel
theorem dL_acts_1352 : decode cL_acts 1352 = .ok (.aload_n 0, 1) := by decide +kernel
theorem dL_acts_1353 : decode cL_acts 1353 = .ok (.bipush 7, 2) := by decide +kernel
theorem dL_acts_1355 : decode cL_acts 1355 = .ok (.invokevirtual 13, 3) := by decide +kernel
theorem dL_acts_1358 : decode cL_acts 1358 = .ok (.if_icmp .eq 15, 3) := by decide +kernel
theorem dL_acts_1361 : decode cL_acts 1361 = .ok (.iload 11, 2) := by decide +kernel
theorem dL_acts_1363 : decode cL_acts 1363 = .ok (.ifCond .ne 14, 3) := by decide +kernel
theorem dL_acts_1366 : decode cL_acts 1366 = .ok (.iload 12, 2) := by decide +kernel
theorem dL_acts_1368 : decode cL_acts 1368 = .ok (.ldc 64, 2) := by decide +kernel
theorem dL_acts_1370 : decode cL_acts 1370 = .ok (.if_icmp .ne 7, 3) := by decide +kernel
theorem dL_acts_1373 : decode cL_acts 1373 = .ok (.iconst 1, 1) := by decide +kernel
theorem dL_acts_1374 : decode cL_acts 1374 = .ok (.goto 4, 3) := by decide +kernel
theorem dL_acts_1377 : decode cL_acts 1377 = .ok (.iconst 0, 1) := by decide +kernel
theorem dL_acts_1378 : decode cL_acts 1378 = .ok (.ireturn, 1) := by decide +kernel
theorem dL_acts_1379 : decode cL_acts 1379 = .ok (.aload_n 0, 1) := by decide +kernel
theorem dL_acts_1380 : decode cL_acts 1380 = .ok (.iload_n 2, 1) := by decide +kernel
theorem dL_acts_1381 : decode cL_acts 1381 = .ok (.invokestatic 107, 3) := by decide +kernel
theorem dL_acts_1384 : decode cL_acts 1384 = .ok (.ifCond .eq 14, 3) := by decide +kernel
theorem dL_acts_1387 : decode cL_acts 1387 = .ok (.aload_n 0, 1) := by decide +kernel
theorem dL_acts_1388 : decode cL_acts 1388 = .ok (.invokestatic 110, 3) := by decide +kernel
theorem dL_acts_1391 : decode cL_acts 1391 = .ok (.ifCond .eq 7, 3) := by decide +kernel
theorem dL_acts_1394 : decode cL_acts 1394 = .ok (.iconst 1, 1) := by decide +kernel
theorem dL_acts_1395 : decode cL_acts 1395 = .ok (.goto 4, 3) := by decide +kernel
theorem dL_acts_1398 : decode cL_acts 1398 = .ok (.iconst 0, 1) := by decide +kernel
theorem dL_acts_1399 : decode cL_acts 1399 = .ok (.ireturn, 1) := by decide +kernel
set_option maxRecDepth 20000 in
theorem ggL_law_X6_init : GoodIn wsL_law wsX6_init := goodIn_r _ [6, 7, 8, 9, 10, 11, 12, 13, 14, 15, 16, 17, 18, 19, 20, 21, 22, 23, 24, 25, 26, 27, 28, 29, 30, 31, 32, 33, 34, 35, 36, 37, 38, 39, 40, 41, 42, 43, 44, 45, 46, 47, 48, 49, 50, 51, 52, 53, 54, 55, 56, 57, 58, 59, 60, 61, 62, 63, 64, 65, 66, 67, 68, 69, 70, 71, 72, 73, 74, 75, 76, 77, 78, 79, 80, 81, 82, 83, 84, 85, 86, 87, 88, 89, 90, 91, 92, 93, 94, 95, 96, 605, 606, 607, 608, 609, 610, 611, 612, 613, 598, 599, 600, 601, 602, 603, 604, 614, 615, 616, 617, 618, 619, 620, 621, 622, 623, 624, 625, 626, 627, 628, 629, 630, 631, 632, 633, 634, 635, 636, 637, 638, 639, 640, 641, 642, 643, 644] (by decide +kernel) (by decide +kernel)
set_option maxRecDepth 20000 in
theorem gL_law_X6_init : GoodIn wsL_law (wsX6_init) := ggL_law_X6_init
set_option maxRecDepth 20000 in
theorem ggL_law_L_holds : GoodIn wsL_law wsL_holds := goodIn_r _ [100, 101, 102, 103, 104, 2, 105, 106, 13, 107, 108, 109, 110, 111, 112, 113, 114, 115, 116, 31, 117, 54, 118, 119, 120, 121, 51, 52, 53, 122, 123, 124, 125, 126, 127, 128, 129, 20, 24, 25, 130, 131, 132, 12, 133, 43, 36, 40, 32, 44, 134, 47, 45, 46, 135, 136, 137, 138, 35, 139, 58, 140, 141, 142, 143, 66, 144, 145, 146, 147, 148, 149, 150, 151, 64, 152, 153, 154, 155, 156, 157, 158, 159, 160, 161, 162, 163, 164, 165, 166, 167, 168, 169, 170, 171, 42, 172, 173, 174, 175, 176, 177, 178, 179, 180, 181, 182, 39, 183, 71, 184, 185, 186, 187, 188, 189, 190, 191, 192, 193, 194, 195, 196, 197, 198, 199, 200, 201, 202, 203, 204, 205, 206, 207, 208, 59, 209, 210, 211, 212, 213, 214, 215, 216, 217, 99, 218, 219, 220, 221, 222, 223, 224, 225, 226, 227, 228, 229, 230, 231, 63, 232, 233, 234, 235, 236, 237, 238, 239, 60, 61, 240, 598, 599, 600, 601, 602, 603, 604, 605, 606, 607, 608, 609, 610, 611, 612, 613, 625, 626, 627, 628, 614, 615, 616, 617, 618, 619, 620, 621, 622, 623, 624, 629, 630, 631, 632, 633, 634, 635, 636, 637, 638, 639, 640, 641, 642, 643, 644] (by decide +kernel) (by decide +kernel)
set_option maxRecDepth 20000 in
theorem gL_law_L_holds : GoodIn wsL_law (va_wsS RL 115 yL_holds wsL_holds) := goodIn_app (goodIn_of _ (by decide +kernel)) ggL_law_L_holds
set_option maxRecDepth 20000 in
theorem ggL_law_X6_undo : GoodIn wsL_law wsX6_undo := goodIn_r _ [244, 20, 245, 13, 246, 247, 248, 19, 249, 84, 82, 83, 250, 251, 252, 253, 254, 255, 256, 12, 257, 32, 36, 40, 42, 258, 259, 260, 261, 43, 44, 45, 46, 47, 262, 263, 264, 31, 265, 51, 266, 52, 53, 54, 267, 268, 269, 35, 270, 58, 59, 271, 60, 61, 62, 63, 64, 65, 66, 67, 272, 273, 274, 39, 275, 71, 72, 276, 73, 74, 75, 76, 598, 599, 600, 601, 602, 603, 604, 614, 615, 616, 605, 606, 607, 608, 609, 610, 611, 612, 613, 625, 626, 627, 628, 629, 630, 631, 632, 633, 634, 635, 636, 637, 638, 639, 640, 641, 642, 643, 644] (by decide +kernel) (by decide +kernel)
set_option maxRecDepth 20000 in
theorem gL_law_X6_undo : GoodIn wsL_law (wsV RL 118 RX6 yX6_undo wsX6_undo) := goodIn_app (goodIn_of _ (by decide +kernel)) ggL_law_X6_undo
set_option maxRecDepth 20000 in
theorem ggL_law_X6_dealer : GoodIn wsL_law wsX6_dealer := goodIn_r _ [280, 14, 13, 281, 255, 256, 12, 257, 32, 36, 40, 42, 258, 259, 260, 261, 43, 44, 45, 46, 47, 262, 263, 264, 31, 265, 51, 266, 52, 53, 54, 267, 268, 269, 35, 270, 58, 59, 271, 60, 61, 62, 63, 64, 65, 66, 67, 272, 273, 274, 39, 275, 71, 72, 276, 73, 74, 75, 76, 282, 283, 284, 285, 286, 287, 288, 289, 2, 290, 20, 291, 292, 293, 19, 294, 84, 83, 82, 250, 251, 252, 253, 254, 598, 599, 600, 601, 602, 603, 604, 605, 606, 607, 608, 609, 610, 611, 612, 613, 625, 626, 627, 628, 629, 630, 631, 632, 633, 634, 635, 636, 637, 638, 639, 640, 641, 642, 643, 644, 614, 615, 616] (by decide +kernel) (by decide +kernel)
set_option maxRecDepth 20000 in
theorem gL_law_X6_dealer : GoodIn wsL_law (wsV RL 70 RX6 yX6_dealer wsX6_dealer) := goodIn_app (goodIn_of _ (by decide +kernel)) ggL_law_X6_dealer
