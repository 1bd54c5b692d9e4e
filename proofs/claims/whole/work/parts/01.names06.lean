theorem dX6_mark_0 : decode cX6_mark 0 = .ok (.aload_n 0, 1) := by decide +kernel
theorem dX6_mark_1 : decode cX6_mark 1 = .ok (.getfield 22, 3) := by decide +kernel
theorem dX6_mark_4 : decode cX6_mark 4 = .ok (.aload_n 0, 1) := by decide +kernel
theorem dX6_mark_5 : decode cX6_mark 5 = .ok (.getfield 10, 3) := by decide +kernel
theorem dX6_mark_8 : decode cX6_mark 8 = .ok (.invokevirtual 43, 3) := by decide +kernel
theorem dX6_mark_11 : decode cX6_mark 11 = .ok (.aload_n 0, 1) := by decide +kernel
theorem dX6_mark_12 : decode cX6_mark 12 = .ok (.iconst 1, 1) := by decide +kernel
theorem dX6_mark_13 : decode cX6_mark 13 = .ok (.putfield 39, 3) := by decide +kernel
theorem dX6_mark_16 : decode cX6_mark 16 = .ok (.aload_n 0, 1) := by decide +kernel
theorem dX6_mark_17 : decode cX6_mark 17 = .ok (.getfield 10, 3) := by decide +kernel
theorem dX6_mark_20 : decode cX6_mark 20 = .ok (.getfield 155, 3) := by decide +kernel
theorem dX6_mark_23 : decode cX6_mark 23 = .ok (.ireturn, 1) := by decide +kernel
set_option maxRecDepth 20000 in
theorem ggX6_restore_X0_push : GoodIn wsX6_restore wsX0_push := goodIn_r _ [10, 11, 12, 13, 14, 15, 16, 17, 18, 19, 20, 21, 22, 23, 24, 25, 26, 27, 28, 29, 30, 31, 32, 33, 34, 35, 36, 37, 38, 39, 40, 41, 42, 43, 44, 45, 46, 47, 48, 49, 50, 51, 52, 53, 54, 55, 56, 57, 58, 59, 60, 61, 62, 63, 64, 65, 66, 67, 68, 69, 70, 71, 72, 73, 91, 92, 93, 82, 83, 84, 85, 86, 87, 88, 89, 90, 94, 95, 96, 97, 98, 99, 100, 101, 102, 103, 104, 105, 106, 107, 108, 109, 110, 111, 112, 113] (by decide +kernel) (by decide +kernel)
set_option maxRecDepth 20000 in
theorem gX6_restore_X0_push : GoodIn wsX6_restore (wsV RX6 159 RX0 yX0_push wsX0_push) := goodIn_app (goodIn_of _ (by decide +kernel)) ggX6_restore_X0_push
set_option maxRecDepth 20000 in
theorem ggX6_restore_X1_copyFrom : GoodIn wsX6_restore wsX1_copyFrom := goodIn_r _ [22, 23, 24, 25, 26, 27, 28, 29, 30, 31, 32, 33, 34, 35, 36, 37, 38, 39, 40, 41, 42, 43, 44, 45, 46, 47, 48, 49, 50, 51, 52, 53, 54, 55, 56, 57, 58, 59, 60, 61, 62, 63, 64, 65, 66, 67, 68, 69, 70, 71, 72, 73, 82, 83, 84, 85, 86, 87, 88, 89, 90, 94, 95, 96, 97, 98, 99, 100, 101, 102, 103, 104, 105, 106, 107, 108, 109, 110, 111, 112, 113] (by decide +kernel) (by decide +kernel)
set_option maxRecDepth 20000 in
theorem gX6_restore_X1_copyFrom : GoodIn wsX6_restore (wsV RX6 43 RX1 yX1_copyFrom wsX1_copyFrom) := goodIn_app (goodIn_of _ (by decide +kernel)) ggX6_restore_X1_copyFrom
theorem dX6_restore_0 : decode cX6_restore 0 = .ok (.aload_n 0, 1) := by decide +kernel
theorem dX6_restore_1 : decode cX6_restore 1 = .ok (.getfield 39, 3) := by decide +kernel
theorem dX6_restore_4 : decode cX6_restore 4 = .ok (.ifCond .ne 6, 3) := by decide +kernel
theorem dX6_restore_7 : decode cX6_restore 7 = .ok (.ldc 158, 2) := by decide +kernel
theorem dX6_restore_9 : decode cX6_restore 9 = .ok (.ireturn, 1) := by decide +kernel
theorem dX6_restore_10 : decode cX6_restore 10 = .ok (.aload_n 0, 1) := by decide +kernel
theorem dX6_restore_11 : decode cX6_restore 11 = .ok (.getfield 28, 3) := by decide +kernel
theorem dX6_restore_14 : decode cX6_restore 14 = .ok (.aload_n 0, 1) := by decide +kernel
theorem dX6_restore_15 : decode cX6_restore 15 = .ok (.getfield 10, 3) := by decide +kernel
theorem dX6_restore_18 : decode cX6_restore 18 = .ok (.invokevirtual 159, 3) := by decide +kernel
theorem dX6_restore_21 : decode cX6_restore 21 = .ok (.aload_n 0, 1) := by decide +kernel
theorem dX6_restore_22 : decode cX6_restore 22 = .ok (.getfield 10, 3) := by decide +kernel
theorem dX6_restore_25 : decode cX6_restore 25 = .ok (.aload_n 0, 1) := by decide +kernel
theorem dX6_restore_26 : decode cX6_restore 26 = .ok (.getfield 22, 3) := by decide +kernel
theorem dX6_restore_29 : decode cX6_restore 29 = .ok (.invokevirtual 43, 3) := by decide +kernel
theorem dX6_restore_32 : decode cX6_restore 32 = .ok (.aload_n 0, 1) := by decide +kernel
theorem dX6_restore_33 : decode cX6_restore 33 = .ok (.getfield 10, 3) := by decide +kernel
theorem dX6_restore_36 : decode cX6_restore 36 = .ok (.getfield 155, 3) := by decide +kernel
theorem dX6_restore_39 : decode cX6_restore 39 = .ok (.ireturn, 1) := by decide +kernel
set_option maxRecDepth 20000 in
theorem ggX6_undo_X0_popInto : GoodIn wsX6_undo wsX0_popInto := goodIn_r _ [8, 9, 10, 11, 12, 13, 14, 15, 16, 17, 18, 19, 20, 21, 22, 23, 24, 25, 26, 27, 28, 29, 30, 31, 32, 33, 34, 35, 36, 37, 38, 39, 40, 41, 42, 43, 44, 45, 46, 47, 48, 49, 50, 51, 52, 53, 54, 55, 56, 57, 58, 59, 60, 61, 62, 63, 64, 65, 66, 67, 68, 69, 70, 71, 79, 80, 81, 82, 83, 84, 85, 86, 87, 88, 89, 90, 91, 92, 93, 94, 95, 96, 97, 98, 99, 100, 101, 102, 103, 104, 105, 106, 107, 108, 109, 110] (by decide +kernel) (by decide +kernel)
set_option maxRecDepth 20000 in
theorem gX6_undo_X0_popInto : GoodIn wsX6_undo (wsV RX6 162 RX0 yX0_popInto wsX0_popInto) := goodIn_app (goodIn_of _ (by decide +kernel)) ggX6_undo_X0_popInto
theorem dX6_undo_0 : decode cX6_undo 0 = .ok (.aload_n 0, 1) := by decide +kernel
theorem dX6_undo_1 : decode cX6_undo 1 = .ok (.getfield 28, 3) := by decide +kernel
theorem dX6_undo_4 : decode cX6_undo 4 = .ok (.getfield 135, 3) := by decide +kernel
theorem dX6_undo_7 : decode cX6_undo 7 = .ok (.ifCond .ne 6, 3) := by decide +kernel
theorem dX6_undo_10 : decode cX6_undo 10 = .ok (.ldc 158, 2) := by decide +kernel
theorem dX6_undo_12 : decode cX6_undo 12 = .ok (.ireturn, 1) := by decide +kernel
theorem dX6_undo_13 : decode cX6_undo 13 = .ok (.aload_n 0, 1) := by decide +kernel
theorem dX6_undo_14 : decode cX6_undo 14 = .ok (.getfield 28, 3) := by decide +kernel
theorem dX6_undo_17 : decode cX6_undo 17 = .ok (.aload_n 0, 1) := by decide +kernel
theorem dX6_undo_18 : decode cX6_undo 18 = .ok (.getfield 10, 3) := by decide +kernel
theorem dX6_undo_21 : decode cX6_undo 21 = .ok (.invokevirtual 162, 3) := by decide +kernel
theorem dX6_undo_24 : decode cX6_undo 24 = .ok (.aload_n 0, 1) := by decide +kernel
theorem dX6_undo_25 : decode cX6_undo 25 = .ok (.getfield 28, 3) := by decide +kernel
theorem dX6_undo_28 : decode cX6_undo 28 = .ok (.getfield 135, 3) := by decide +kernel
theorem dX6_undo_31 : decode cX6_undo 31 = .ok (.ireturn, 1) := by decide +kernel
set_option maxRecDepth 20000 in
theorem ggX6_type_X4_append : GoodIn wsX6_type wsX4_append := goodIn_r _ [7, 8, 9, 10, 18, 19, 20, 21, 22, 23, 24, 25] (by decide +kernel) (by decide +kernel)
set_option maxRecDepth 20000 in
theorem gX6_type_X4_append : GoodIn wsX6_type (wsV RX6 165 RX4 yX4_append wsX4_append) := goodIn_app (goodIn_of _ (by decide +kernel)) ggX6_type_X4_append
theorem dX6_type_0 : decode cX6_type 0 = .ok (.iload_n 1, 1) := by decide +kernel
theorem dX6_type_1 : decode cX6_type 1 = .ok (.bipush 32, 2) := by decide +kernel
theorem dX6_type_3 : decode cX6_type 3 = .ok (.if_icmp .lt 9, 3) := by decide +kernel
theorem dX6_type_6 : decode cX6_type 6 = .ok (.iload_n 1, 1) := by decide +kernel
theorem dX6_type_7 : decode cX6_type 7 = .ok (.bipush 126, 2) := by decide +kernel
theorem dX6_type_9 : decode cX6_type 9 = .ok (.if_icmp .le 6, 3) := by decide +kernel
theorem dX6_type_12 : decode cX6_type 12 = .ok (.ldc 98, 2) := by decide +kernel
theorem dX6_type_14 : decode cX6_type 14 = .ok (.ireturn, 1) := by decide +kernel
theorem dX6_type_15 : decode cX6_type 15 = .ok (.aload_n 0, 1) := by decide +kernel
theorem dX6_type_16 : decode cX6_type 16 = .ok (.getfield 35, 3) := by decide +kernel
theorem dX6_type_19 : decode cX6_type 19 = .ok (.iload_n 1, 1) := by decide +kernel
theorem dX6_type_20 : decode cX6_type 20 = .ok (.i2c, 1) := by decide +kernel
theorem dX6_type_21 : decode cX6_type 21 = .ok (.invokevirtual 165, 3) := by decide +kernel
theorem dX6_type_24 : decode cX6_type 24 = .ok (.ireturn, 1) := by decide +kernel
theorem dX6_clearText_0 : decode cX6_clearText 0 = .ok (.aload_n 0, 1) := by decide +kernel
theorem dX6_clearText_1 : decode cX6_clearText 1 = .ok (.getfield 35, 3) := by decide +kernel
theorem dX6_clearText_4 : decode cX6_clearText 4 = .ok (.getfield 139, 3) := by decide +kernel
theorem dX6_clearText_7 : decode cX6_clearText 7 = .ok (.istore_n 1, 1) := by decide +kernel
theorem dX6_clearText_8 : decode cX6_clearText 8 = .ok (.aload_n 0, 1) := by decide +kernel
theorem dX6_clearText_9 : decode cX6_clearText 9 = .ok (.getfield 35, 3) := by decide +kernel
theorem dX6_clearText_12 : decode cX6_clearText 12 = .ok (.iconst 0, 1) := by decide +kernel
theorem dX6_clearText_13 : decode cX6_clearText 13 = .ok (.putfield 139, 3) := by decide +kernel
theorem dX6_clearText_16 : decode cX6_clearText 16 = .ok (.iload_n 1, 1) := by decide +kernel
theorem dX6_clearText_17 : decode cX6_clearText 17 = .ok (.ireturn, 1) := by decide +kernel
set_option maxRecDepth 20000 in
theorem ggX6_fault_X1_copyFrom : GoodIn wsX6_fault wsX1_copyFrom := goodIn_r _ [9, 10, 11, 12, 13, 14, 15, 16, 17, 18, 19, 20, 21, 22, 23, 24, 25, 26, 27, 28, 29, 30, 31, 32, 33, 34, 35, 36, 37, 38, 39, 40, 41, 42, 43, 44, 45, 46, 47, 48, 49, 50, 51, 52, 53, 54, 55, 56, 57, 58, 59, 60, 290, 291, 292, 293, 294, 295, 296, 297, 298, 299, 300, 301, 302, 303, 304, 305, 306, 307, 308, 309, 310, 311, 312, 313, 314, 315, 316, 317, 318] (by decide +kernel) (by decide +kernel)
set_option maxRecDepth 20000 in
theorem gX6_fault_X1_copyFrom : GoodIn wsX6_fault (wsV RX6 43 RX1 yX1_copyFrom wsX1_copyFrom) := goodIn_app (goodIn_of _ (by decide +kernel)) ggX6_fault_X1_copyFrom
set_option maxRecDepth 20000 in
theorem ggX6_fault_X4_runOn : GoodIn wsX6_fault wsX4_runOn := goodIn_r _ [65, 66, 67, 68, 69, 70, 71, 72, 64, 73, 74, 75, 76, 77, 78, 79, 80, 81, 82, 83, 84, 85, 86, 87, 88, 89, 90, 91, 92, 93, 94, 95, 96, 97, 98, 99, 100, 101, 102, 103, 104, 105, 106, 107, 108, 109, 110, 111, 112, 113, 114, 115, 116, 117, 118, 119, 120, 121, 122, 123, 124, 125, 126, 127, 128, 129, 130, 131, 132, 133, 134, 135, 136, 137, 138, 139, 140, 141, 142, 143, 144, 145, 146, 147, 148, 149, 150, 151, 152, 153, 154, 155, 156, 157, 158, 159, 160, 161, 162, 163, 164, 165, 166, 167, 36, 168, 38, 169, 170, 171, 8, 172, 11, 173, 174, 12, 19, 175, 176, 177, 178, 179, 18, 180, 181, 182, 183, 184, 185, 186, 187, 10, 188, 189, 190, 191, 39, 192, 193, 194, 26, 195, 32, 28, 30, 31, 196, 197, 198, 52, 199, 54, 55, 57, 58, 59, 60, 200, 201, 202, 203, 204, 205, 206, 207, 208, 45, 209, 210, 211, 212, 213, 214, 215, 216, 217, 218, 219, 220, 221, 222, 223, 224, 225, 226, 227, 13, 228, 229, 230, 231, 232, 233, 234, 235, 236, 237, 238, 239, 240, 47, 241, 242, 243, 244, 245, 246, 247, 248, 249, 250, 251, 252, 253, 254, 255, 256, 257, 258, 259, 260, 261, 262, 263, 264, 265, 266, 267, 268, 269, 270, 271, 272, 273, 274, 22, 275, 276, 277, 278, 20, 21, 319, 320, 321, 322, 323, 324, 325, 326, 290, 291, 292, 293, 294, 295, 296, 297, 298, 303, 304, 305, 306, 307, 308, 309, 310, 311, 312, 299, 300, 301, 302, 313, 314, 315, 316, 317, 318] (by decide +kernel) (by decide +kernel)
set_option maxRecDepth 20000 in
theorem gX6_fault_X4_runOn : GoodIn wsX6_fault (wsV RX6 169 RX4 yX4_runOn wsX4_runOn) := goodIn_app (goodIn_of _ (by decide +kernel)) ggX6_fault_X4_runOn
set_option maxRecDepth 20000 in
theorem ggX6_fault_X4_tellFault : GoodIn wsX6_fault wsX4_tellFault := goodIn_r _ [282, 66, 68, 159, 160, 319, 320, 321, 322, 323, 324, 325, 326] (by decide +kernel) (by decide +kernel)
set_option maxRecDepth 20000 in
theorem gX6_fault_X4_tellFault : GoodIn wsX6_fault (wsV RX6 173 RX4 yX4_tellFault wsX4_tellFault) := goodIn_app (goodIn_of _ (by decide +kernel)) ggX6_fault_X4_tellFault
theorem dX6_fault_0 : decode cX6_fault 0 = .ok (.iload_n 1, 1) := by decide +kernel
theorem dX6_fault_1 : decode cX6_fault 1 = .ok (.ifCond .lt 8, 3) := by decide +kernel
theorem dX6_fault_4 : decode cX6_fault 4 = .ok (.iload_n 1, 1) := by decide +kernel
theorem dX6_fault_5 : decode cX6_fault 5 = .ok (.iconst 2, 1) := by decide +kernel
theorem dX6_fault_6 : decode cX6_fault 6 = .ok (.if_icmp .le 6, 3) := by decide +kernel
theorem dX6_fault_9 : decode cX6_fault 9 = .ok (.ldc 98, 2) := by decide +kernel
theorem dX6_fault_11 : decode cX6_fault 11 = .ok (.ireturn, 1) := by decide +kernel
theorem dX6_fault_12 : decode cX6_fault 12 = .ok (.aload_n 0, 1) := by decide +kernel
theorem dX6_fault_13 : decode cX6_fault 13 = .ok (.getfield 19, 3) := by decide +kernel
theorem dX6_fault_16 : decode cX6_fault 16 = .ok (.aload_n 0, 1) := by decide +kernel
theorem dX6_fault_17 : decode cX6_fault 17 = .ok (.getfield 10, 3) := by decide +kernel
theorem dX6_fault_20 : decode cX6_fault 20 = .ok (.invokevirtual 43, 3) := by decide +kernel
theorem dX6_fault_23 : decode cX6_fault 23 = .ok (.aload_n 0, 1) := by decide +kernel
theorem dX6_fault_24 : decode cX6_fault 24 = .ok (.getfield 35, 3) := by decide +kernel
theorem dX6_fault_27 : decode cX6_fault 27 = .ok (.aload_n 0, 1) := by decide +kernel
theorem dX6_fault_28 : decode cX6_fault 28 = .ok (.getfield 19, 3) := by decide +kernel
theorem dX6_fault_31 : decode cX6_fault 31 = .ok (.invokevirtual 169, 3) := by decide +kernel
theorem dX6_fault_34 : decode cX6_fault 34 = .ok (.pop, 1) := by decide +kernel
theorem dX6_fault_35 : decode cX6_fault 35 = .ok (.aload_n 0, 1) := by decide +kernel
theorem dX6_fault_36 : decode cX6_fault 36 = .ok (.getfield 35, 3) := by decide +kernel
theorem dX6_fault_39 : decode cX6_fault 39 = .ok (.iload_n 1, 1) := by decide +kernel
theorem dX6_fault_40 : decode cX6_fault 40 = .ok (.invokevirtual 173, 3) := by decide +kernel
theorem dX6_fault_43 : decode cX6_fault 43 = .ok (.ireturn, 1) := by decide +kernel
set_option maxRecDepth 20000 in
theorem ggX6_play_X1_copyFrom : GoodIn wsX6_play wsX1_copyFrom := goodIn_r _ [10, 11, 12, 13, 14, 15, 16, 17, 18, 19, 20, 21, 22, 23, 24, 25, 26, 27, 28, 29, 30, 31, 32, 33, 34, 35, 36, 37, 38, 39, 40, 41, 42, 43, 44, 45, 46, 47, 48, 49, 50, 51, 52, 53, 54, 55, 56, 57, 58, 59, 60, 61, 304, 305, 306, 307, 308, 309, 310, 311, 312, 313, 314, 315, 316, 317, 318, 319, 320, 321, 322, 323, 324, 325, 326, 327, 328, 329, 330, 331, 332] (by decide +kernel) (by decide +kernel)
set_option maxRecDepth 20000 in
theorem gX6_play_X1_copyFrom : GoodIn wsX6_play (wsV RX6 43 RX1 yX1_copyFrom wsX1_copyFrom) := goodIn_app (goodIn_of _ (by decide +kernel)) ggX6_play_X1_copyFrom
set_option maxRecDepth 20000 in
theorem ggX6_play_X4_runOn : GoodIn wsX6_play wsX4_runOn := goodIn_r _ [66, 67, 68, 69, 70, 71, 72, 73, 65, 74, 75, 76, 77, 78, 79, 80, 81, 82, 83, 84, 85, 86, 87, 88, 89, 90, 91, 92, 93, 94, 95, 96, 97, 98, 99, 100, 101, 102, 103, 104, 105, 106, 107, 108, 109, 110, 111, 112, 113, 114, 115, 116, 117, 118, 119, 120, 121, 122, 123, 124, 125, 126, 127, 128, 129, 130, 131, 132, 133, 134, 135, 136, 137, 138, 139, 140, 141, 142, 143, 144, 145, 146, 147, 148, 149, 150, 151, 152, 153, 154, 155, 156, 157, 158, 159, 160, 161, 162, 163, 164, 165, 166, 167, 168, 37, 169, 39, 170, 171, 172, 9, 173, 12, 174, 175, 13, 20, 176, 177, 178, 179, 180, 19, 181, 182, 183, 184, 185, 186, 187, 188, 11, 189, 190, 191, 192, 40, 193, 194, 195, 27, 196, 33, 29, 31, 32, 197, 198, 199, 53, 200, 55, 56, 58, 59, 60, 61, 201, 202, 203, 204, 205, 206, 207, 208, 209, 46, 210, 211, 212, 213, 214, 215, 216, 217, 218, 219, 220, 221, 222, 223, 224, 225, 226, 227, 228, 14, 229, 230, 231, 232, 233, 234, 235, 236, 237, 238, 239, 240, 241, 48, 242, 243, 244, 245, 246, 247, 248, 249, 250, 251, 252, 253, 254, 255, 256, 257, 258, 259, 260, 261, 262, 263, 264, 265, 266, 267, 268, 269, 270, 271, 272, 273, 274, 275, 23, 276, 277, 278, 279, 21, 22, 333, 334, 335, 336, 337, 338, 339, 340, 304, 305, 306, 307, 308, 309, 310, 311, 312, 317, 318, 319, 320, 321, 322, 323, 324, 325, 326, 313, 314, 315, 316, 327, 328, 329, 330, 331, 332] (by decide +kernel) (by decide +kernel)
set_option maxRecDepth 20000 in
theorem gX6_play_X4_runOn : GoodIn wsX6_play (wsV RX6 169 RX4 yX4_runOn wsX4_runOn) := goodIn_app (goodIn_of _ (by decide +kernel)) ggX6_play_X4_runOn
set_option maxRecDepth 20000 in
theorem ggX6_play_X4_hasFault : GoodIn wsX6_play wsX4_hasFault := goodIn_r _ [283, 67, 333, 334, 335, 336, 337, 338, 339, 340] (by decide +kernel) (by decide +kernel)
set_option maxRecDepth 20000 in
theorem gX6_play_X4_hasFault : GoodIn wsX6_play (wsV RX6 176 RX4 yX4_hasFault wsX4_hasFault) := goodIn_app (goodIn_of _ (by decide +kernel)) ggX6_play_X4_hasFault
set_option maxRecDepth 20000 in
theorem ggX6_play_X0_push : GoodIn wsX6_play wsX0_push := goodIn_r _ [288, 289, 290, 291, 292, 293, 294, 295, 296, 7, 8, 9, 10, 11, 12, 13, 14, 15, 16, 17, 18, 19, 20, 21, 22, 23, 24, 25, 26, 27, 28, 29, 30, 31, 32, 33, 34, 35, 36, 37, 38, 39, 40, 41, 42, 43, 44, 45, 46, 47, 48, 49, 50, 51, 52, 53, 54, 55, 56, 57, 58, 59, 60, 61, 341, 342, 343, 304, 305, 306, 307, 308, 309, 310, 311, 312, 313, 314, 315, 316, 317, 318, 319, 320, 321, 322, 323, 324, 325, 326, 327, 328, 329, 330, 331, 332] (by decide +kernel) (by decide +kernel)
set_option maxRecDepth 20000 in
theorem gX6_play_X0_push : GoodIn wsX6_play (wsV RX6 159 RX0 yX0_push wsX0_push) := goodIn_app (goodIn_of _ (by decide +kernel)) ggX6_play_X0_push
theorem dX6_play_0 : decode cX6_play 0 = .ok (.aload_n 0, 1) := by decide +kernel
theorem dX6_play_1 : decode cX6_play 1 = .ok (.getfield 19, 3) := by decide +kernel
theorem dX6_play_4 : decode cX6_play 4 = .ok (.aload_n 0, 1) := by decide +kernel
theorem dX6_play_5 : decode cX6_play 5 = .ok (.getfield 10, 3) := by decide +kernel
theorem dX6_play_8 : decode cX6_play 8 = .ok (.invokevirtual 43, 3) := by decide +kernel
theorem dX6_play_11 : decode cX6_play 11 = .ok (.aload_n 0, 1) := by decide +kernel
theorem dX6_play_12 : decode cX6_play 12 = .ok (.getfield 35, 3) := by decide +kernel
theorem dX6_play_15 : decode cX6_play 15 = .ok (.aload_n 0, 1) := by decide +kernel
theorem dX6_play_16 : decode cX6_play 16 = .ok (.getfield 19, 3) := by decide +kernel
theorem dX6_play_19 : decode cX6_play 19 = .ok (.invokevirtual 169, 3) := by decide +kernel
theorem dX6_play_22 : decode cX6_play 22 = .ok (.istore_n 1, 1) := by decide +kernel
theorem dX6_play_23 : decode cX6_play 23 = .ok (.aload_n 0, 1) := by decide +kernel
theorem dX6_play_24 : decode cX6_play 24 = .ok (.getfield 35, 3) := by decide +kernel
theorem dX6_play_27 : decode cX6_play 27 = .ok (.invokevirtual 176, 3) := by decide +kernel
theorem dX6_play_30 : decode cX6_play 30 = .ok (.ifCond .eq 6, 3) := by decide +kernel
theorem dX6_play_33 : decode cX6_play 33 = .ok (.ldc 158, 2) := by decide +kernel
theorem dX6_play_35 : decode cX6_play 35 = .ok (.ireturn, 1) := by decide +kernel
theorem dX6_play_36 : decode cX6_play 36 = .ok (.aload_n 0, 1) := by decide +kernel
theorem dX6_play_37 : decode cX6_play 37 = .ok (.getfield 28, 3) := by decide +kernel
theorem dX6_play_40 : decode cX6_play 40 = .ok (.aload_n 0, 1) := by decide +kernel
theorem dX6_play_41 : decode cX6_play 41 = .ok (.getfield 10, 3) := by decide +kernel
theorem dX6_play_44 : decode cX6_play 44 = .ok (.invokevirtual 159, 3) := by decide +kernel
theorem dX6_play_47 : decode cX6_play 47 = .ok (.aload_n 0, 1) := by decide +kernel
theorem dX6_play_48 : decode cX6_play 48 = .ok (.getfield 10, 3) := by decide +kernel
theorem dX6_play_51 : decode cX6_play 51 = .ok (.aload_n 0, 1) := by decide +kernel
theorem dX6_play_52 : decode cX6_play 52 = .ok (.getfield 19, 3) := by decide +kernel
theorem dX6_play_55 : decode cX6_play 55 = .ok (.invokevirtual 43, 3) := by decide +kernel
theorem dX6_play_58 : decode cX6_play 58 = .ok (.iload_n 1, 1) := by decide +kernel
theorem dX6_play_59 : decode cX6_play 59 = .ok (.ireturn, 1) := by decide +kernel
set_option maxRecDepth 20000 in
theorem ggX6_recorded_X0_push : GoodIn wsX6_recorded wsX0_push := goodIn_r _ [7, 8, 9, 10, 11, 12, 13, 14, 15, 16, 17, 18, 19, 20, 21, 22, 23, 24, 25, 26, 27, 28, 29, 30, 31, 32, 33, 34, 35, 36, 37, 38, 39, 40, 41, 42, 43, 44, 45, 46, 47, 48, 49, 50, 51, 52, 53, 54, 55, 56, 57, 58, 59, 60, 61, 62, 63, 64, 65, 66, 67, 68, 69, 70, 78, 79, 80, 81, 82, 83, 84, 85, 86, 87, 88, 89, 90, 91, 92, 93, 94, 95, 96, 97, 98, 99, 100, 101, 102, 103, 104, 105, 106, 107, 108, 109] (by decide +kernel) (by decide +kernel)
set_option maxRecDepth 20000 in
theorem gX6_recorded_X0_push : GoodIn wsX6_recorded (wsV RX6 159 RX0 yX0_push wsX0_push) := goodIn_app (goodIn_of _ (by decide +kernel)) ggX6_recorded_X0_push
theorem dX6_recorded_0 : decode cX6_recorded 0 = .ok (.iload_n 1, 1) := by decide +kernel
theorem dX6_recorded_1 : decode cX6_recorded 1 = .ok (.ifCond .lt 14, 3) := by decide +kernel
theorem dX6_recorded_4 : decode cX6_recorded 4 = .ok (.aload_n 0, 1) := by decide +kernel
theorem dX6_recorded_5 : decode cX6_recorded 5 = .ok (.getfield 28, 3) := by decide +kernel
theorem dX6_recorded_8 : decode cX6_recorded 8 = .ok (.aload_n 0, 1) := by decide +kernel
theorem dX6_recorded_9 : decode cX6_recorded 9 = .ok (.getfield 16, 3) := by decide +kernel
theorem dX6_recorded_12 : decode cX6_recorded 12 = .ok (.invokevirtual 159, 3) := by decide +kernel
theorem dX6_recorded_15 : decode cX6_recorded 15 = .ok (.iload_n 1, 1) := by decide +kernel
theorem dX6_recorded_16 : decode cX6_recorded 16 = .ok (.ireturn, 1) := by decide +kernel
set_option maxRecDepth 20000 in
theorem ggX6_isGrade_X6_isLook : GoodIn wsX6_isGrade wsX6_isLook := goodIn_r _ [4] (by decide +kernel) (by decide +kernel)
set_option maxRecDepth 20000 in
theorem gX6_isGrade_X6_isLook : GoodIn wsX6_isGrade (va_wsS RX6 180 yX6_isLook wsX6_isLook) := goodIn_app (goodIn_of _ (by decide +kernel)) ggX6_isGrade_X6_isLook
theorem dX6_isGrade_0 : decode cX6_isGrade 0 = .ok (.iload_n 0, 1) := by decide +kernel
theorem dX6_isGrade_1 : decode cX6_isGrade 1 = .ok (.ifCond .lt 20, 3) := by decide +kernel
theorem dX6_isGrade_4 : decode cX6_isGrade 4 = .ok (.iload_n 0, 1) := by decide +kernel
theorem dX6_isGrade_5 : decode cX6_isGrade 5 = .ok (.iconst 5, 1) := by decide +kernel
theorem dX6_isGrade_6 : decode cX6_isGrade 6 = .ok (.if_icmp .ge 15, 3) := by decide +kernel
theorem dX6_isGrade_9 : decode cX6_isGrade 9 = .ok (.iload_n 1, 1) := by decide +kernel
theorem dX6_isGrade_10 : decode cX6_isGrade 10 = .ok (.iload_n 2, 1) := by decide +kernel
theorem dX6_isGrade_11 : decode cX6_isGrade 11 = .ok (.invokestatic 180, 3) := by decide +kernel
theorem dX6_isGrade_14 : decode cX6_isGrade 14 = .ok (.ifCond .eq 7, 3) := by decide +kernel
theorem dX6_isGrade_17 : decode cX6_isGrade 17 = .ok (.iconst 1, 1) := by decide +kernel
theorem dX6_isGrade_18 : decode cX6_isGrade 18 = .ok (.goto 4, 3) := by decide +kernel
theorem dX6_isGrade_21 : decode cX6_isGrade 21 = .ok (.iconst 0, 1) := by decide +kernel
theorem dX6_isGrade_22 : decode cX6_isGrade 22 = .ok (.ireturn, 1) := by decide +kernel
theorem dX6_isLook_0 : decode cX6_isLook 0 = .ok (.iload_n 0, 1) := by decide +kernel
theorem dX6_isLook_1 : decode cX6_isLook 1 = .ok (.ifCond .lt 23, 3) := by decide +kernel
theorem dX6_isLook_4 : decode cX6_isLook 4 = .ok (.iload_n 0, 1) := by decide +kernel
theorem dX6_isLook_5 : decode cX6_isLook 5 = .ok (.bipush 10, 2) := by decide +kernel
theorem dX6_isLook_7 : decode cX6_isLook 7 = .ok (.if_icmp .ge 17, 3) := by decide +kernel
theorem dX6_isLook_10 : decode cX6_isLook 10 = .ok (.iload_n 1, 1) := by decide +kernel
theorem dX6_isLook_11 : decode cX6_isLook 11 = .ok (.ifCond .lt 13, 3) := by decide +kernel
theorem dX6_isLook_14 : decode cX6_isLook 14 = .ok (.iload_n 1, 1) := by decide +kernel
theorem dX6_isLook_15 : decode cX6_isLook 15 = .ok (.bipush 8, 2) := by decide +kernel
theorem dX6_isLook_17 : decode cX6_isLook 17 = .ok (.if_icmp .ge 7, 3) := by decide +kernel
theorem dX6_isLook_20 : decode cX6_isLook 20 = .ok (.iconst 1, 1) := by decide +kernel
theorem dX6_isLook_21 : decode cX6_isLook 21 = .ok (.goto 4, 3) := by decide +kernel
theorem dX6_isLook_24 : decode cX6_isLook 24 = .ok (.iconst 0, 1) := by decide +kernel
theorem dX6_isLook_25 : decode cX6_isLook 25 = .ok (.ireturn, 1) := by decide +kernel
theorem dX7_init_0 : decode cX7_init 0 = .ok (.aload_n 0, 1) := by decide +kernel
theorem dX7_init_1 : decode cX7_init 1 = .ok (.invokespecial 1, 3) := by decide +kernel
theorem dX7_init_4 : decode cX7_init 4 = .ok (.aload_n 0, 1) := by decide +kernel
theorem dX7_init_5 : decode cX7_init 5 = .ok (.sipush 664, 3) := by decide +kernel
theorem dX7_init_8 : decode cX7_init 8 = .ok (.newarray .int, 2) := by decide +kernel
theorem dX7_init_10 : decode cX7_init 10 = .ok (.putfield 7, 3) := by decide +kernel
theorem dX7_init_13 : decode cX7_init 13 = .ok (.aload_n 0, 1) := by decide +kernel
theorem dX7_init_14 : decode cX7_init 14 = .ok (.sipush 664, 3) := by decide +kernel
theorem dX7_init_17 : decode cX7_init 17 = .ok (.newarray .int, 2) := by decide +kernel
theorem dX7_init_19 : decode cX7_init 19 = .ok (.putfield 13, 3) := by decide +kernel
theorem dX7_init_22 : decode cX7_init 22 = .ok (.aload_n 0, 1) := by decide +kernel
theorem dX7_init_23 : decode cX7_init 23 = .ok (.sipush 664, 3) := by decide +kernel
theorem dX7_init_26 : decode cX7_init 26 = .ok (.newarray .int, 2) := by decide +kernel
theorem dX7_init_28 : decode cX7_init 28 = .ok (.putfield 16, 3) := by decide +kernel
theorem dX7_init_31 : decode cX7_init 31 = .ok (.aload_n 0, 1) := by decide +kernel
theorem dX7_init_32 : decode cX7_init 32 = .ok (.sipush 2656, 3) := by decide +kernel
theorem dX7_init_35 : decode cX7_init 35 = .ok (.newarray .int, 2) := by decide +kernel
theorem dX7_init_37 : decode cX7_init 37 = .ok (.putfield 19, 3) := by decide +kernel
theorem dX7_init_40 : decode cX7_init 40 = .ok (.aload_n 0, 1) := by decide +kernel
theorem dX7_init_41 : decode cX7_init 41 = .ok (.bipush 60, 2) := by decide +kernel
theorem dX7_init_43 : decode cX7_init 43 = .ok (.newarray .int, 2) := by decide +kernel
theorem dX7_init_45 : decode cX7_init 45 = .ok (.putfield 22, 3) := by decide +kernel
theorem dX7_init_48 : decode cX7_init 48 = .ok (.aload_n 0, 1) := by decide +kernel
theorem dX7_init_49 : decode cX7_init 49 = .ok (.iconst 4, 1) := by decide +kernel
theorem dX7_init_50 : decode cX7_init 50 = .ok (.newarray .int, 2) := by decide +kernel
theorem dX7_init_52 : decode cX7_init 52 = .ok (.putfield 25, 3) := by decide +kernel
theorem dX7_init_55 : decode cX7_init 55 = .ok (.aload_n 0, 1) := by decide +kernel
theorem dX7_init_56 : decode cX7_init 56 = .ok (.getfield 7, 3) := by decide +kernel
theorem dX7_init_59 : decode cX7_init 59 = .ok (.bipush 6, 2) := by decide +kernel
theorem dX7_init_61 : decode cX7_init 61 = .ok (.iconst 3, 1) := by decide +kernel
theorem dX7_init_62 : decode cX7_init 62 = .ok (.iastore, 1) := by decide +kernel
theorem dX7_init_63 : decode cX7_init 63 = .ok (.aload_n 0, 1) := by decide +kernel
theorem dX7_init_64 : decode cX7_init 64 = .ok (.getfield 7, 3) := by decide +kernel
theorem dX7_init_67 : decode cX7_init 67 = .ok (.bipush 7, 2) := by decide +kernel
theorem dX7_init_69 : decode cX7_init 69 = .ok (.bipush 10, 2) := by decide +kernel
theorem dX7_init_71 : decode cX7_init 71 = .ok (.iastore, 1) := by decide +kernel
theorem dX7_init_72 : decode cX7_init 72 = .ok (.return_, 1) := by decide +kernel
theorem dX7_in_0 : decode cX7_in 0 = .ok (.iload_n 0, 1) := by decide +kernel
theorem dX7_in_1 : decode cX7_in 1 = .ok (.iload_n 1, 1) := by decide +kernel
theorem dX7_in_2 : decode cX7_in 2 = .ok (.if_icmp .lt 12, 3) := by decide +kernel
theorem dX7_in_5 : decode cX7_in 5 = .ok (.iload_n 0, 1) := by decide +kernel
theorem dX7_in_6 : decode cX7_in 6 = .ok (.iload_n 2, 1) := by decide +kernel
theorem dX7_in_7 : decode cX7_in 7 = .ok (.if_icmp .gt 7, 3) := by decide +kernel
theorem dX7_in_10 : decode cX7_in 10 = .ok (.iconst 1, 1) := by decide +kernel
theorem dX7_in_11 : decode cX7_in 11 = .ok (.goto 4, 3) := by decide +kernel
theorem dX7_in_14 : decode cX7_in 14 = .ok (.iconst 0, 1) := by decide +kernel
theorem dX7_in_15 : decode cX7_in 15 = .ok (.ireturn, 1) := by decide +kernel
theorem dX7_begins_0 : decode cX7_begins 0 = .ok (.iconst 0, 1) := by decide +kernel
theorem dX7_begins_1 : decode cX7_begins 1 = .ok (.istore_n 1, 1) := by decide +kernel
theorem dX7_begins_2 : decode cX7_begins 2 = .ok (.iload_n 1, 1) := by decide +kernel
theorem dX7_begins_3 : decode cX7_begins 3 = .ok (.sipush 664, 3) := by decide +kernel
theorem dX7_begins_6 : decode cX7_begins 6 = .ok (.if_icmp .ge 21, 3) := by decide +kernel
theorem dX7_begins_9 : decode cX7_begins 9 = .ok (.aload_n 0, 1) := by decide +kernel
theorem dX7_begins_10 : decode cX7_begins 10 = .ok (.getfield 13, 3) := by decide +kernel
theorem dX7_begins_13 : decode cX7_begins 13 = .ok (.iload_n 1, 1) := by decide +kernel
theorem dX7_begins_14 : decode cX7_begins 14 = .ok (.aload_n 0, 1) := by decide +kernel
theorem dX7_begins_15 : decode cX7_begins 15 = .ok (.getfield 7, 3) := by decide +kernel
theorem dX7_begins_18 : decode cX7_begins 18 = .ok (.iload_n 1, 1) := by decide +kernel
theorem dX7_begins_19 : decode cX7_begins 19 = .ok (.iaload, 1) := by decide +kernel
theorem dX7_begins_20 : decode cX7_begins 20 = .ok (.iastore, 1) := by decide +kernel
theorem dX7_begins_21 : decode cX7_begins 21 = .ok (.iinc 1 1, 3) := by decide +kernel
theorem dX7_begins_24 : decode cX7_begins 24 = .ok (.goto (-22), 3) := by decide +kernel
theorem dX7_begins_27 : decode cX7_begins 27 = .ok (.return_, 1) := by decide +kernel
theorem dX7_returns_0 : decode cX7_returns 0 = .ok (.iconst 0, 1) := by decide +kernel
theorem dX7_returns_1 : decode cX7_returns 1 = .ok (.istore_n 1, 1) := by decide +kernel
theorem dX7_returns_2 : decode cX7_returns 2 = .ok (.iload_n 1, 1) := by decide +kernel
theorem dX7_returns_3 : decode cX7_returns 3 = .ok (.sipush 664, 3) := by decide +kernel
theorem dX7_returns_6 : decode cX7_returns 6 = .ok (.if_icmp .ge 21, 3) := by decide +kernel
theorem dX7_returns_9 : decode cX7_returns 9 = .ok (.aload_n 0, 1) := by decide +kernel
theorem dX7_returns_10 : decode cX7_returns 10 = .ok (.getfield 7, 3) := by decide +kernel
theorem dX7_returns_13 : decode cX7_returns 13 = .ok (.iload_n 1, 1) := by decide +kernel
theorem dX7_returns_14 : decode cX7_returns 14 = .ok (.aload_n 0, 1) := by decide +kernel
theorem dX7_returns_15 : decode cX7_returns 15 = .ok (.getfield 13, 3) := by decide +kernel
theorem dX7_returns_18 : decode cX7_returns 18 = .ok (.iload_n 1, 1) := by decide +kernel
theorem dX7_returns_19 : decode cX7_returns 19 = .ok (.iaload, 1) := by decide +kernel
theorem dX7_returns_20 : decode cX7_returns 20 = .ok (.iastore, 1) := by decide +kernel
theorem dX7_returns_21 : decode cX7_returns 21 = .ok (.iinc 1 1, 3) := by decide +kernel
theorem dX7_returns_24 : decode cX7_returns 24 = .ok (.goto (-22), 3) := by decide +kernel
theorem dX7_returns_27 : decode cX7_returns 27 = .ok (.return_, 1) := by decide +kernel
set_option maxRecDepth 20000 in
theorem ggX7_acted_X7_returns : GoodIn wsX7_acted wsX7_returns := goodIn_r _ [9, 10, 4, 11, 12, 13, 14, 15, 16, 17, 18, 19, 20, 21, 22, 23] (by decide +kernel) (by decide +kernel)
set_option maxRecDepth 20000 in
theorem gX7_acted_X7_returns : GoodIn wsX7_acted (wsV RX7 29 RX7 yX7_returns wsX7_returns) := goodIn_app (goodIn_of _ (by decide +kernel)) ggX7_acted_X7_returns
theorem dX7_acted_0 : decode cX7_acted 0 = .ok (.iload_n 1, 1) := by decide +kernel
theorem dX7_acted_1 : decode cX7_acted 1 = .ok (.ldc 28, 2) := by decide +kernel
theorem dX7_acted_3 : decode cX7_acted 3 = .ok (.if_icmp .gt 9, 3) := by decide +kernel
theorem dX7_acted_6 : decode cX7_acted 6 = .ok (.aload_n 0, 1) := by decide +kernel
theorem dX7_acted_7 : decode cX7_acted 7 = .ok (.invokevirtual 29, 3) := by decide +kernel
theorem dX7_acted_10 : decode cX7_acted 10 = .ok (.iload_n 1, 1) := by decide +kernel
theorem dX7_acted_11 : decode cX7_acted 11 = .ok (.ireturn, 1) := by decide +kernel
theorem dX7_acted_12 : decode cX7_acted 12 = .ok (.aload_n 0, 1) := by decide +kernel
theorem dX7_acted_13 : decode cX7_acted 13 = .ok (.getfield 32, 3) := by decide +kernel
theorem dX7_acted_16 : decode cX7_acted 16 = .ok (.iconst 4, 1) := by decide +kernel
theorem dX7_acted_17 : decode cX7_acted 17 = .ok (.if_icmp .ne 44, 3) := by decide +kernel
theorem dX7_acted_20 : decode cX7_acted 20 = .ok (.iconst 0, 1) := by decide +kernel
theorem dX7_acted_21 : decode cX7_acted 21 = .ok (.istore_n 2, 1) := by decide +kernel
theorem dX7_acted_22 : decode cX7_acted 22 = .ok (.iload_n 2, 1) := by decide +kernel
theorem dX7_acted_23 : decode cX7_acted 23 = .ok (.sipush 1992, 3) := by decide +kernel
theorem dX7_acted_26 : decode cX7_acted 26 = .ok (.if_icmp .ge 25, 3) := by decide +kernel
theorem dX7_acted_29 : decode cX7_acted 29 = .ok (.aload_n 0, 1) := by decide +kernel
theorem dX7_acted_30 : decode cX7_acted 30 = .ok (.getfield 19, 3) := by decide +kernel
theorem dX7_acted_33 : decode cX7_acted 33 = .ok (.iload_n 2, 1) := by decide +kernel
theorem dX7_acted_34 : decode cX7_acted 34 = .ok (.aload_n 0, 1) := by decide +kernel
theorem dX7_acted_35 : decode cX7_acted 35 = .ok (.getfield 19, 3) := by decide +kernel
theorem dX7_acted_38 : decode cX7_acted 38 = .ok (.iload_n 2, 1) := by decide +kernel
theorem dX7_acted_39 : decode cX7_acted 39 = .ok (.sipush 664, 3) := by decide +kernel
theorem dX7_acted_42 : decode cX7_acted 42 = .ok (.iadd, 1) := by decide +kernel
theorem dX7_acted_43 : decode cX7_acted 43 = .ok (.iaload, 1) := by decide +kernel
theorem dX7_acted_44 : decode cX7_acted 44 = .ok (.iastore, 1) := by decide +kernel
theorem dX7_acted_45 : decode cX7_acted 45 = .ok (.iinc 2 1, 3) := by decide +kernel
theorem dX7_acted_48 : decode cX7_acted 48 = .ok (.goto (-26), 3) := by decide +kernel
theorem dX7_acted_51 : decode cX7_acted 51 = .ok (.aload_n 0, 1) := by decide +kernel
theorem dX7_acted_52 : decode cX7_acted 52 = .ok (.dup, 1) := by decide +kernel
theorem dX7_acted_53 : decode cX7_acted 53 = .ok (.getfield 32, 3) := by decide +kernel
theorem dX7_acted_56 : decode cX7_acted 56 = .ok (.iconst 1, 1) := by decide +kernel
theorem dX7_acted_57 : decode cX7_acted 57 = .ok (.isub, 1) := by decide +kernel
theorem dX7_acted_58 : decode cX7_acted 58 = .ok (.putfield 32, 3) := by decide +kernel
theorem dX7_acted_61 : decode cX7_acted 61 = .ok (.iconst 0, 1) := by decide +kernel
theorem dX7_acted_62 : decode cX7_acted 62 = .ok (.istore_n 2, 1) := by decide +kernel
theorem dX7_acted_63 : decode cX7_acted 63 = .ok (.iload_n 2, 1) := by decide +kernel
theorem dX7_acted_64 : decode cX7_acted 64 = .ok (.sipush 664, 3) := by decide +kernel
theorem dX7_acted_67 : decode cX7_acted 67 = .ok (.if_icmp .ge 30, 3) := by decide +kernel
theorem dX7_acted_70 : decode cX7_acted 70 = .ok (.aload_n 0, 1) := by decide +kernel
theorem dX7_acted_71 : decode cX7_acted 71 = .ok (.getfield 19, 3) := by decide +kernel
theorem dX7_acted_74 : decode cX7_acted 74 = .ok (.sipush 664, 3) := by decide +kernel
theorem dX7_acted_77 : decode cX7_acted 77 = .ok (.aload_n 0, 1) := by decide +kernel
theorem dX7_acted_78 : decode cX7_acted 78 = .ok (.getfield 32, 3) := by decide +kernel
theorem dX7_acted_81 : decode cX7_acted 81 = .ok (.imul, 1) := by decide +kernel
theorem dX7_acted_82 : decode cX7_acted 82 = .ok (.iload_n 2, 1) := by decide +kernel
theorem dX7_acted_83 : decode cX7_acted 83 = .ok (.iadd, 1) := by decide +kernel
theorem dX7_acted_84 : decode cX7_acted 84 = .ok (.aload_n 0, 1) := by decide +kernel
theorem dX7_acted_85 : decode cX7_acted 85 = .ok (.getfield 13, 3) := by decide +kernel
theorem dX7_acted_88 : decode cX7_acted 88 = .ok (.iload_n 2, 1) := by decide +kernel
theorem dX7_acted_89 : decode cX7_acted 89 = .ok (.iaload, 1) := by decide +kernel
theorem dX7_acted_90 : decode cX7_acted 90 = .ok (.iastore, 1) := by decide +kernel
theorem dX7_acted_91 : decode cX7_acted 91 = .ok (.iinc 2 1, 3) := by decide +kernel
theorem dX7_acted_94 : decode cX7_acted 94 = .ok (.goto (-31), 3) := by decide +kernel
theorem dX7_acted_97 : decode cX7_acted 97 = .ok (.aload_n 0, 1) := by decide +kernel
theorem dX7_acted_98 : decode cX7_acted 98 = .ok (.dup, 1) := by decide +kernel
theorem dX7_acted_99 : decode cX7_acted 99 = .ok (.getfield 32, 3) := by decide +kernel
theorem dX7_acted_102 : decode cX7_acted 102 = .ok (.iconst 1, 1) := by decide +kernel
theorem dX7_acted_103 : decode cX7_acted 103 = .ok (.iadd, 1) := by decide +kernel
theorem dX7_acted_104 : decode cX7_acted 104 = .ok (.putfield 32, 3) := by decide +kernel
theorem dX7_acted_107 : decode cX7_acted 107 = .ok (.iload_n 1, 1) := by decide +kernel
theorem dX7_acted_108 : decode cX7_acted 108 = .ok (.ireturn, 1) := by decide +kernel
theorem dX7_ofStone_0 : decode cX7_ofStone 0 = .ok (.aload_n 0, 1) := by decide +kernel
theorem dX7_ofStone_1 : decode cX7_ofStone 1 = .ok (.getfield 7, 3) := by decide +kernel
theorem dX7_ofStone_4 : decode cX7_ofStone 4 = .ok (.bipush 14, 2) := by decide +kernel
theorem dX7_ofStone_6 : decode cX7_ofStone 6 = .ok (.bipush 10, 2) := by decide +kernel
theorem dX7_ofStone_8 : decode cX7_ofStone 8 = .ok (.iload_n 1, 1) := by decide +kernel
theorem dX7_ofStone_9 : decode cX7_ofStone 9 = .ok (.imul, 1) := by decide +kernel
theorem dX7_ofStone_10 : decode cX7_ofStone 10 = .ok (.iadd, 1) := by decide +kernel
theorem dX7_ofStone_11 : decode cX7_ofStone 11 = .ok (.iload_n 2, 1) := by decide +kernel
theorem dX7_ofStone_12 : decode cX7_ofStone 12 = .ok (.iadd, 1) := by decide +kernel
theorem dX7_ofStone_13 : decode cX7_ofStone 13 = .ok (.iaload, 1) := by decide +kernel
theorem dX7_ofStone_14 : decode cX7_ofStone 14 = .ok (.ireturn, 1) := by decide +kernel
theorem dX7_setStone_0 : decode cX7_setStone 0 = .ok (.aload_n 0, 1) := by decide +kernel
theorem dX7_setStone_1 : decode cX7_setStone 1 = .ok (.getfield 7, 3) := by decide +kernel
theorem dX7_setStone_4 : decode cX7_setStone 4 = .ok (.bipush 14, 2) := by decide +kernel
theorem dX7_setStone_6 : decode cX7_setStone 6 = .ok (.bipush 10, 2) := by decide +kernel
theorem dX7_setStone_8 : decode cX7_setStone 8 = .ok (.iload_n 1, 1) := by decide +kernel
theorem dX7_setStone_9 : decode cX7_setStone 9 = .ok (.imul, 1) := by decide +kernel
theorem dX7_setStone_10 : decode cX7_setStone 10 = .ok (.iadd, 1) := by decide +kernel
theorem dX7_setStone_11 : decode cX7_setStone 11 = .ok (.iload_n 2, 1) := by decide +kernel
theorem dX7_setStone_12 : decode cX7_setStone 12 = .ok (.iadd, 1) := by decide +kernel
theorem dX7_setStone_13 : decode cX7_setStone 13 = .ok (.iload_n 3, 1) := by decide +kernel
theorem dX7_setStone_14 : decode cX7_setStone 14 = .ok (.iastore, 1) := by decide +kernel
theorem dX7_setStone_15 : decode cX7_setStone 15 = .ok (.return_, 1) := by decide +kernel
theorem dX7_ofMemo_0 : decode cX7_ofMemo 0 = .ok (.aload_n 0, 1) := by decide +kernel
theorem dX7_ofMemo_1 : decode cX7_ofMemo 1 = .ok (.getfield 7, 3) := by decide +kernel
theorem dX7_ofMemo_4 : decode cX7_ofMemo 4 = .ok (.sipush 214, 3) := by decide +kernel
theorem dX7_ofMemo_7 : decode cX7_ofMemo 7 = .ok (.iconst 5, 1) := by decide +kernel
theorem dX7_ofMemo_8 : decode cX7_ofMemo 8 = .ok (.iload_n 1, 1) := by decide +kernel
theorem dX7_ofMemo_9 : decode cX7_ofMemo 9 = .ok (.imul, 1) := by decide +kernel
theorem dX7_ofMemo_10 : decode cX7_ofMemo 10 = .ok (.iadd, 1) := by decide +kernel
theorem dX7_ofMemo_11 : decode cX7_ofMemo 11 = .ok (.iload_n 2, 1) := by decide +kernel
theorem dX7_ofMemo_12 : decode cX7_ofMemo 12 = .ok (.iadd, 1) := by decide +kernel
theorem dX7_ofMemo_13 : decode cX7_ofMemo 13 = .ok (.iaload, 1) := by decide +kernel
theorem dX7_ofMemo_14 : decode cX7_ofMemo 14 = .ok (.ireturn, 1) := by decide +kernel
set_option maxRecDepth 20000 in
theorem ggX7_isDealer_X7_in : GoodIn wsX7_isDealer wsX7_in := goodIn_r _ [5] (by decide +kernel) (by decide +kernel)
set_option maxRecDepth 20000 in
theorem gX7_isDealer_X7_in : GoodIn wsX7_isDealer (va_wsS RX7 36 yX7_in wsX7_in) := goodIn_app (goodIn_of _ (by decide +kernel)) ggX7_isDealer_X7_in
theorem dX7_isDealer_0 : decode cX7_isDealer 0 = .ok (.iload_n 1, 1) := by decide +kernel
theorem dX7_isDealer_1 : decode cX7_isDealer 1 = .ok (.iconst 0, 1) := by decide +kernel
theorem dX7_isDealer_2 : decode cX7_isDealer 2 = .ok (.aload_n 0, 1) := by decide +kernel
theorem dX7_isDealer_3 : decode cX7_isDealer 3 = .ok (.getfield 7, 3) := by decide +kernel
theorem dX7_isDealer_6 : decode cX7_isDealer 6 = .ok (.iconst 0, 1) := by decide +kernel
theorem dX7_isDealer_7 : decode cX7_isDealer 7 = .ok (.iaload, 1) := by decide +kernel
theorem dX7_isDealer_8 : decode cX7_isDealer 8 = .ok (.iconst 1, 1) := by decide +kernel
theorem dX7_isDealer_9 : decode cX7_isDealer 9 = .ok (.isub, 1) := by decide +kernel
theorem dX7_isDealer_10 : decode cX7_isDealer 10 = .ok (.invokestatic 36, 3) := by decide +kernel
theorem dX7_isDealer_13 : decode cX7_isDealer 13 = .ok (.ireturn, 1) := by decide +kernel
set_option maxRecDepth 20000 in
theorem ggX7_isStone_X7_in : GoodIn wsX7_isStone wsX7_in := goodIn_r _ [5] (by decide +kernel) (by decide +kernel)
set_option maxRecDepth 20000 in
theorem gX7_isStone_X7_in : GoodIn wsX7_isStone (va_wsS RX7 36 yX7_in wsX7_in) := goodIn_app (goodIn_of _ (by decide +kernel)) ggX7_isStone_X7_in
theorem dX7_isStone_0 : decode cX7_isStone 0 = .ok (.iload_n 1, 1) := by decide +kernel
theorem dX7_isStone_1 : decode cX7_isStone 1 = .ok (.iconst 0, 1) := by decide +kernel
theorem dX7_isStone_2 : decode cX7_isStone 2 = .ok (.aload_n 0, 1) := by decide +kernel
theorem dX7_isStone_3 : decode cX7_isStone 3 = .ok (.getfield 7, 3) := by decide +kernel
theorem dX7_isStone_6 : decode cX7_isStone 6 = .ok (.iconst 1, 1) := by decide +kernel
theorem dX7_isStone_7 : decode cX7_isStone 7 = .ok (.iaload, 1) := by decide +kernel
theorem dX7_isStone_8 : decode cX7_isStone 8 = .ok (.iconst 1, 1) := by decide +kernel
theorem dX7_isStone_9 : decode cX7_isStone 9 = .ok (.isub, 1) := by decide +kernel
theorem dX7_isStone_10 : decode cX7_isStone 10 = .ok (.invokestatic 36, 3) := by decide +kernel
theorem dX7_isStone_13 : decode cX7_isStone 13 = .ok (.ireturn, 1) := by decide +kernel
set_option maxRecDepth 20000 in
theorem ggX7_isOut_X7_ofStone : GoodIn wsX7_isOut wsX7_ofStone := goodIn_r _ [5, 6, 7, 8, 9, 10, 11, 12, 13, 14, 15, 16, 17, 18, 19] (by decide +kernel) (by decide +kernel)
set_option maxRecDepth 20000 in
theorem gX7_isOut_X7_ofStone : GoodIn wsX7_isOut (wsV RX7 40 RX7 yX7_ofStone wsX7_ofStone) := goodIn_app (goodIn_of _ (by decide +kernel)) ggX7_isOut_X7_ofStone
theorem dX7_isOut_0 : decode cX7_isOut 0 = .ok (.aload_n 0, 1) := by decide +kernel
theorem dX7_isOut_1 : decode cX7_isOut 1 = .ok (.iload_n 1, 1) := by decide +kernel
theorem dX7_isOut_2 : decode cX7_isOut 2 = .ok (.iconst 5, 1) := by decide +kernel
theorem dX7_isOut_3 : decode cX7_isOut 3 = .ok (.invokevirtual 40, 3) := by decide +kernel
theorem dX7_isOut_6 : decode cX7_isOut 6 = .ok (.ifCond .lt 7, 3) := by decide +kernel
theorem dX7_isOut_9 : decode cX7_isOut 9 = .ok (.iconst 1, 1) := by decide +kernel
theorem dX7_isOut_10 : decode cX7_isOut 10 = .ok (.goto 4, 3) := by decide +kernel
theorem dX7_isOut_13 : decode cX7_isOut 13 = .ok (.iconst 0, 1) := by decide +kernel
theorem dX7_isOut_14 : decode cX7_isOut 14 = .ok (.ireturn, 1) := by decide +kernel
set_option maxRecDepth 20000 in
theorem ggX7_isSold_X7_ofStone : GoodIn wsX7_isSold wsX7_ofStone := goodIn_r _ [5, 6, 7, 8, 9, 10, 11, 12, 13, 14, 15, 16, 17, 18, 19] (by decide +kernel) (by decide +kernel)
set_option maxRecDepth 20000 in
theorem gX7_isSold_X7_ofStone : GoodIn wsX7_isSold (wsV RX7 40 RX7 yX7_ofStone wsX7_ofStone) := goodIn_app (goodIn_of _ (by decide +kernel)) ggX7_isSold_X7_ofStone
theorem dX7_isSold_0 : decode cX7_isSold 0 = .ok (.aload_n 0, 1) := by decide +kernel
theorem dX7_isSold_1 : decode cX7_isSold 1 = .ok (.iload_n 1, 1) := by decide +kernel
theorem dX7_isSold_2 : decode cX7_isSold 2 = .ok (.iconst 3, 1) := by decide +kernel
theorem dX7_isSold_3 : decode cX7_isSold 3 = .ok (.invokevirtual 40, 3) := by decide +kernel
theorem dX7_isSold_6 : decode cX7_isSold 6 = .ok (.ifCond .ge 7, 3) := by decide +kernel
theorem dX7_isSold_9 : decode cX7_isSold 9 = .ok (.iconst 1, 1) := by decide +kernel
theorem dX7_isSold_10 : decode cX7_isSold 10 = .ok (.goto 4, 3) := by decide +kernel
theorem dX7_isSold_13 : decode cX7_isSold 13 = .ok (.iconst 0, 1) := by decide +kernel
theorem dX7_isSold_14 : decode cX7_isSold 14 = .ok (.ireturn, 1) := by decide +kernel
set_option maxRecDepth 20000 in
theorem ggX7_sieve_X7_ofStone : GoodIn wsX7_sieve wsX7_ofStone := goodIn_r _ [5, 6, 7, 8, 9, 10, 11, 12, 13, 14, 15, 16, 17, 18, 19] (by decide +kernel) (by decide +kernel)
set_option maxRecDepth 20000 in
theorem gX7_sieve_X7_ofStone : GoodIn wsX7_sieve (wsV RX7 40 RX7 yX7_ofStone wsX7_ofStone) := goodIn_app (goodIn_of _ (by decide +kernel)) ggX7_sieve_X7_ofStone
theorem dX7_sieve_0 : decode cX7_sieve 0 = .ok (.aload_n 0, 1) := by decide +kernel
theorem dX7_sieve_1 : decode cX7_sieve 1 = .ok (.iload_n 1, 1) := by decide +kernel
theorem dX7_sieve_2 : decode cX7_sieve 2 = .ok (.iconst 0, 1) := by decide +kernel
theorem dX7_sieve_3 : decode cX7_sieve 3 = .ok (.invokevirtual 40, 3) := by decide +kernel
theorem dX7_sieve_6 : decode cX7_sieve 6 = .ok (.istore_n 2, 1) := by decide +kernel
theorem dX7_sieve_7 : decode cX7_sieve 7 = .ok (.iload_n 2, 1) := by decide +kernel
theorem dX7_sieve_8 : decode cX7_sieve 8 = .ok (.bipush 10, 2) := by decide +kernel
theorem dX7_sieve_10 : decode cX7_sieve 10 = .ok (.if_icmp .ge 7, 3) := by decide +kernel
theorem dX7_sieve_13 : decode cX7_sieve 13 = .ok (.iconst 0, 1) := by decide +kernel
theorem dX7_sieve_14 : decode cX7_sieve 14 = .ok (.goto 34, 3) := by decide +kernel
theorem dX7_sieve_17 : decode cX7_sieve 17 = .ok (.iload_n 2, 1) := by decide +kernel
theorem dX7_sieve_18 : decode cX7_sieve 18 = .ok (.bipush 25, 2) := by decide +kernel
theorem dX7_sieve_20 : decode cX7_sieve 20 = .ok (.if_icmp .ge 7, 3) := by decide +kernel
theorem dX7_sieve_23 : decode cX7_sieve 23 = .ok (.iconst 1, 1) := by decide +kernel
theorem dX7_sieve_24 : decode cX7_sieve 24 = .ok (.goto 24, 3) := by decide +kernel
theorem dX7_sieve_27 : decode cX7_sieve 27 = .ok (.iload_n 2, 1) := by decide +kernel
theorem dX7_sieve_28 : decode cX7_sieve 28 = .ok (.bipush 50, 2) := by decide +kernel
theorem dX7_sieve_30 : decode cX7_sieve 30 = .ok (.if_icmp .ge 7, 3) := by decide +kernel
theorem dX7_sieve_33 : decode cX7_sieve 33 = .ok (.iconst 2, 1) := by decide +kernel
theorem dX7_sieve_34 : decode cX7_sieve 34 = .ok (.goto 14, 3) := by decide +kernel
theorem dX7_sieve_37 : decode cX7_sieve 37 = .ok (.iload_n 2, 1) := by decide +kernel
theorem dX7_sieve_38 : decode cX7_sieve 38 = .ok (.bipush 100, 2) := by decide +kernel
theorem dX7_sieve_40 : decode cX7_sieve 40 = .ok (.if_icmp .ge 7, 3) := by decide +kernel
theorem dX7_sieve_43 : decode cX7_sieve 43 = .ok (.iconst 3, 1) := by decide +kernel
theorem dX7_sieve_44 : decode cX7_sieve 44 = .ok (.goto 4, 3) := by decide +kernel
theorem dX7_sieve_47 : decode cX7_sieve 47 = .ok (.iconst 4, 1) := by decide +kernel
theorem dX7_sieve_48 : decode cX7_sieve 48 = .ok (.ireturn, 1) := by decide +kernel
theorem dX7_rateAt_0 : decode cX7_rateAt 0 = .ok (.sipush 264, 3) := by decide +kernel
theorem dX7_rateAt_3 : decode cX7_rateAt 3 = .ok (.bipush 80, 2) := by decide +kernel
theorem dX7_rateAt_5 : decode cX7_rateAt 5 = .ok (.iload_n 0, 1) := by decide +kernel
theorem dX7_rateAt_6 : decode cX7_rateAt 6 = .ok (.imul, 1) := by decide +kernel
theorem dX7_rateAt_7 : decode cX7_rateAt 7 = .ok (.iadd, 1) := by decide +kernel
theorem dX7_rateAt_8 : decode cX7_rateAt 8 = .ok (.bipush 8, 2) := by decide +kernel
theorem dX7_rateAt_10 : decode cX7_rateAt 10 = .ok (.iload_n 1, 1) := by decide +kernel
theorem dX7_rateAt_11 : decode cX7_rateAt 11 = .ok (.imul, 1) := by decide +kernel
theorem dX7_rateAt_12 : decode cX7_rateAt 12 = .ok (.iadd, 1) := by decide +kernel
theorem dX7_rateAt_13 : decode cX7_rateAt 13 = .ok (.iload_n 2, 1) := by decide +kernel
theorem dX7_rateAt_14 : decode cX7_rateAt 14 = .ok (.iadd, 1) := by decide +kernel
theorem dX7_rateAt_15 : decode cX7_rateAt 15 = .ok (.ireturn, 1) := by decide +kernel
set_option maxRecDepth 20000 in
theorem ggX7_rateFor_X7_rateAt : GoodIn wsX7_rateFor wsX7_rateAt := goodIn_r _ [5] (by decide +kernel) (by decide +kernel)
set_option maxRecDepth 20000 in
theorem gX7_rateFor_X7_rateAt : GoodIn wsX7_rateFor (va_wsS RX7 44 yX7_rateAt wsX7_rateAt) := goodIn_app (goodIn_of _ (by decide +kernel)) ggX7_rateFor_X7_rateAt
theorem dX7_rateFor_0 : decode cX7_rateFor 0 = .ok (.aload_n 0, 1) := by decide +kernel
theorem dX7_rateFor_1 : decode cX7_rateFor 1 = .ok (.getfield 7, 3) := by decide +kernel
theorem dX7_rateFor_4 : decode cX7_rateFor 4 = .ok (.iload_n 1, 1) := by decide +kernel
theorem dX7_rateFor_5 : decode cX7_rateFor 5 = .ok (.iload_n 2, 1) := by decide +kernel
theorem dX7_rateFor_6 : decode cX7_rateFor 6 = .ok (.iload_n 3, 1) := by decide +kernel
theorem dX7_rateFor_7 : decode cX7_rateFor 7 = .ok (.invokestatic 44, 3) := by decide +kernel
theorem dX7_rateFor_10 : decode cX7_rateFor 10 = .ok (.iaload, 1) := by decide +kernel
theorem dX7_rateFor_11 : decode cX7_rateFor 11 = .ok (.istore 4, 2) := by decide +kernel
theorem dX7_rateFor_13 : decode cX7_rateFor 13 = .ok (.iconst 0, 1) := by decide +kernel
theorem dX7_rateFor_14 : decode cX7_rateFor 14 = .ok (.istore 5, 2) := by decide +kernel
theorem dX7_rateFor_16 : decode cX7_rateFor 16 = .ok (.iload_n 2, 1) := by decide +kernel
theorem dX7_rateFor_17 : decode cX7_rateFor 17 = .ok (.istore 6, 2) := by decide +kernel
theorem dX7_rateFor_19 : decode cX7_rateFor 19 = .ok (.iload 6, 2) := by decide +kernel
theorem dX7_rateFor_21 : decode cX7_rateFor 21 = .ok (.bipush 10, 2) := by decide +kernel
theorem dX7_rateFor_23 : decode cX7_rateFor 23 = .ok (.if_icmp .ge 61, 3) := by decide +kernel
theorem dX7_rateFor_26 : decode cX7_rateFor 26 = .ok (.iload 4, 2) := by decide +kernel
theorem dX7_rateFor_28 : decode cX7_rateFor 28 = .ok (.ifCond .ne 56, 3) := by decide +kernel
theorem dX7_rateFor_31 : decode cX7_rateFor 31 = .ok (.iload_n 3, 1) := by decide +kernel
theorem dX7_rateFor_32 : decode cX7_rateFor 32 = .ok (.istore 7, 2) := by decide +kernel
theorem dX7_rateFor_34 : decode cX7_rateFor 34 = .ok (.iload 7, 2) := by decide +kernel
theorem dX7_rateFor_36 : decode cX7_rateFor 36 = .ok (.bipush 8, 2) := by decide +kernel
theorem dX7_rateFor_38 : decode cX7_rateFor 38 = .ok (.if_icmp .ge 40, 3) := by decide +kernel
theorem dX7_rateFor_41 : decode cX7_rateFor 41 = .ok (.aload_n 0, 1) := by decide +kernel
theorem dX7_rateFor_42 : decode cX7_rateFor 42 = .ok (.getfield 7, 3) := by decide +kernel
theorem dX7_rateFor_45 : decode cX7_rateFor 45 = .ok (.iload_n 1, 1) := by decide +kernel
theorem dX7_rateFor_46 : decode cX7_rateFor 46 = .ok (.iload 6, 2) := by decide +kernel
theorem dX7_rateFor_48 : decode cX7_rateFor 48 = .ok (.iload 7, 2) := by decide +kernel
theorem dX7_rateFor_50 : decode cX7_rateFor 50 = .ok (.invokestatic 44, 3) := by decide +kernel
theorem dX7_rateFor_53 : decode cX7_rateFor 53 = .ok (.iaload, 1) := by decide +kernel
theorem dX7_rateFor_54 : decode cX7_rateFor 54 = .ok (.istore 8, 2) := by decide +kernel
theorem dX7_rateFor_56 : decode cX7_rateFor 56 = .ok (.iload 8, 2) := by decide +kernel
theorem dX7_rateFor_58 : decode cX7_rateFor 58 = .ok (.iload 5, 2) := by decide +kernel
theorem dX7_rateFor_60 : decode cX7_rateFor 60 = .ok (.if_icmp .le 8, 3) := by decide +kernel
theorem dX7_rateFor_63 : decode cX7_rateFor 63 = .ok (.iload 8, 2) := by decide +kernel
theorem dX7_rateFor_65 : decode cX7_rateFor 65 = .ok (.goto 5, 3) := by decide +kernel
theorem dX7_rateFor_68 : decode cX7_rateFor 68 = .ok (.iload 5, 2) := by decide +kernel
theorem dX7_rateFor_70 : decode cX7_rateFor 70 = .ok (.istore 5, 2) := by decide +kernel
theorem dX7_rateFor_72 : decode cX7_rateFor 72 = .ok (.iinc 7 1, 3) := by decide +kernel
theorem dX7_rateFor_75 : decode cX7_rateFor 75 = .ok (.goto (-41), 3) := by decide +kernel
theorem dX7_rateFor_78 : decode cX7_rateFor 78 = .ok (.iinc 6 1, 3) := by decide +kernel
theorem dX7_rateFor_81 : decode cX7_rateFor 81 = .ok (.goto (-62), 3) := by decide +kernel
theorem dX7_rateFor_84 : decode cX7_rateFor 84 = .ok (.iload 4, 2) := by decide +kernel
theorem dX7_rateFor_86 : decode cX7_rateFor 86 = .ok (.ifCond .le 8, 3) := by decide +kernel
theorem dX7_rateFor_89 : decode cX7_rateFor 89 = .ok (.iload 4, 2) := by decide +kernel
theorem dX7_rateFor_91 : decode cX7_rateFor 91 = .ok (.goto 5, 3) := by decide +kernel
theorem dX7_rateFor_94 : decode cX7_rateFor 94 = .ok (.iload 5, 2) := by decide +kernel
theorem dX7_rateFor_96 : decode cX7_rateFor 96 = .ok (.ireturn, 1) := by decide +kernel
set_option maxRecDepth 20000 in
theorem ggX7_price_X7_sieve : GoodIn wsX7_price wsX7_sieve := goodIn_r _ [5, 6, 7, 8, 4, 9, 10, 18, 19, 20, 21, 22, 23, 24, 25, 26, 27, 28, 29, 30] (by decide +kernel) (by decide +kernel)
set_option maxRecDepth 20000 in
theorem gX7_price_X7_sieve : GoodIn wsX7_price (wsV RX7 48 RX7 yX7_sieve wsX7_sieve) := goodIn_app (goodIn_of _ (by decide +kernel)) ggX7_price_X7_sieve
set_option maxRecDepth 20000 in
theorem ggX7_price_X7_ofStone : GoodIn wsX7_price wsX7_ofStone := goodIn_r _ [9, 10, 18, 19, 20, 21, 22, 23, 24, 25, 26, 27, 28, 29, 30] (by decide +kernel) (by decide +kernel)
set_option maxRecDepth 20000 in
theorem gX7_price_X7_ofStone : GoodIn wsX7_price (wsV RX7 40 RX7 yX7_ofStone wsX7_ofStone) := goodIn_app (goodIn_of _ (by decide +kernel)) ggX7_price_X7_ofStone
set_option maxRecDepth 20000 in
theorem ggX7_price_X7_rateFor : GoodIn wsX7_price wsX7_rateFor := goodIn_r _ [14, 10, 15, 16, 4, 17, 18, 19, 20, 21, 22, 23, 24, 25, 26, 27, 28, 29, 30] (by decide +kernel) (by decide +kernel)
set_option maxRecDepth 20000 in
theorem gX7_price_X7_rateFor : GoodIn wsX7_price (wsV RX7 52 RX7 yX7_rateFor wsX7_rateFor) := goodIn_app (goodIn_of _ (by decide +kernel)) ggX7_price_X7_rateFor
theorem dX7_price_0 : decode cX7_price 0 = .ok (.aload_n 0, 1) := by decide +kernel
theorem dX7_price_1 : decode cX7_price 1 = .ok (.aload_n 0, 1) := by decide +kernel
theorem dX7_price_2 : decode cX7_price 2 = .ok (.iload_n 1, 1) := by decide +kernel
theorem dX7_price_3 : decode cX7_price 3 = .ok (.invokevirtual 48, 3) := by decide +kernel
theorem dX7_price_6 : decode cX7_price 6 = .ok (.aload_n 0, 1) := by decide +kernel
theorem dX7_price_7 : decode cX7_price 7 = .ok (.iload_n 1, 1) := by decide +kernel
theorem dX7_price_8 : decode cX7_price 8 = .ok (.iconst 1, 1) := by decide +kernel
theorem dX7_price_9 : decode cX7_price 9 = .ok (.invokevirtual 40, 3) := by decide +kernel
theorem dX7_price_12 : decode cX7_price 12 = .ok (.aload_n 0, 1) := by decide +kernel
theorem dX7_price_13 : decode cX7_price 13 = .ok (.iload_n 1, 1) := by decide +kernel
theorem dX7_price_14 : decode cX7_price 14 = .ok (.iconst 2, 1) := by decide +kernel
theorem dX7_price_15 : decode cX7_price 15 = .ok (.invokevirtual 40, 3) := by decide +kernel
theorem dX7_price_18 : decode cX7_price 18 = .ok (.invokevirtual 52, 3) := by decide +kernel
theorem dX7_price_21 : decode cX7_price 21 = .ok (.istore_n 2, 1) := by decide +kernel
theorem dX7_price_22 : decode cX7_price 22 = .ok (.iload_n 2, 1) := by decide +kernel
theorem dX7_price_23 : decode cX7_price 23 = .ok (.ifCond .ne 7, 3) := by decide +kernel
theorem dX7_price_26 : decode cX7_price 26 = .ok (.iconst (-1), 1) := by decide +kernel
theorem dX7_price_27 : decode cX7_price 27 = .ok (.goto 14, 3) := by decide +kernel
theorem dX7_price_30 : decode cX7_price 30 = .ok (.aload_n 0, 1) := by decide +kernel
theorem dX7_price_31 : decode cX7_price 31 = .ok (.iload_n 1, 1) := by decide +kernel
theorem dX7_price_32 : decode cX7_price 32 = .ok (.iconst 0, 1) := by decide +kernel
theorem dX7_price_33 : decode cX7_price 33 = .ok (.invokevirtual 40, 3) := by decide +kernel
theorem dX7_price_36 : decode cX7_price 36 = .ok (.iload_n 2, 1) := by decide +kernel
theorem dX7_price_37 : decode cX7_price 37 = .ok (.imul, 1) := by decide +kernel
theorem dX7_price_38 : decode cX7_price 38 = .ok (.bipush 100, 2) := by decide +kernel
theorem dX7_price_40 : decode cX7_price 40 = .ok (.idiv, 1) := by decide +kernel
theorem dX7_price_41 : decode cX7_price 41 = .ok (.ireturn, 1) := by decide +kernel
set_option maxRecDepth 20000 in
theorem ggX7_outBy_X7_ofStone : GoodIn wsX7_outBy wsX7_ofStone := goodIn_r _ [6, 1, 7, 8, 9, 10, 11, 12, 13, 14, 15, 16, 17, 18, 19] (by decide +kernel) (by decide +kernel)
set_option maxRecDepth 20000 in
theorem gX7_outBy_X7_ofStone : GoodIn wsX7_outBy (wsV RX7 40 RX7 yX7_ofStone wsX7_ofStone) := goodIn_app (goodIn_of _ (by decide +kernel)) ggX7_outBy_X7_ofStone
theorem dX7_outBy_0 : decode cX7_outBy 0 = .ok (.iconst 0, 1) := by decide +kernel
theorem dX7_outBy_1 : decode cX7_outBy 1 = .ok (.istore_n 2, 1) := by decide +kernel
theorem dX7_outBy_2 : decode cX7_outBy 2 = .ok (.iconst 0, 1) := by decide +kernel
theorem dX7_outBy_3 : decode cX7_outBy 3 = .ok (.istore_n 3, 1) := by decide +kernel
theorem dX7_outBy_4 : decode cX7_outBy 4 = .ok (.iload_n 3, 1) := by decide +kernel
theorem dX7_outBy_5 : decode cX7_outBy 5 = .ok (.aload_n 0, 1) := by decide +kernel
theorem dX7_outBy_6 : decode cX7_outBy 6 = .ok (.getfield 7, 3) := by decide +kernel
theorem dX7_outBy_9 : decode cX7_outBy 9 = .ok (.iconst 1, 1) := by decide +kernel
theorem dX7_outBy_10 : decode cX7_outBy 10 = .ok (.iaload, 1) := by decide +kernel
theorem dX7_outBy_11 : decode cX7_outBy 11 = .ok (.if_icmp .ge 29, 3) := by decide +kernel
theorem dX7_outBy_14 : decode cX7_outBy 14 = .ok (.iload_n 2, 1) := by decide +kernel
theorem dX7_outBy_15 : decode cX7_outBy 15 = .ok (.aload_n 0, 1) := by decide +kernel
theorem dX7_outBy_16 : decode cX7_outBy 16 = .ok (.iload_n 3, 1) := by decide +kernel
theorem dX7_outBy_17 : decode cX7_outBy 17 = .ok (.iconst 5, 1) := by decide +kernel
theorem dX7_outBy_18 : decode cX7_outBy 18 = .ok (.invokevirtual 40, 3) := by decide +kernel
theorem dX7_outBy_21 : decode cX7_outBy 21 = .ok (.iload_n 1, 1) := by decide +kernel
theorem dX7_outBy_22 : decode cX7_outBy 22 = .ok (.if_icmp .ne 9, 3) := by decide +kernel
theorem dX7_outBy_25 : decode cX7_outBy 25 = .ok (.iconst 1, 1) := by decide +kernel
theorem dX7_outBy_26 : decode cX7_outBy 26 = .ok (.iload_n 3, 1) := by decide +kernel
theorem dX7_outBy_27 : decode cX7_outBy 27 = .ok (.ishl, 1) := by decide +kernel
theorem dX7_outBy_28 : decode cX7_outBy 28 = .ok (.goto 4, 3) := by decide +kernel
theorem dX7_outBy_31 : decode cX7_outBy 31 = .ok (.iconst 0, 1) := by decide +kernel
theorem dX7_outBy_32 : decode cX7_outBy 32 = .ok (.ior, 1) := by decide +kernel
theorem dX7_outBy_33 : decode cX7_outBy 33 = .ok (.istore_n 2, 1) := by decide +kernel
theorem dX7_outBy_34 : decode cX7_outBy 34 = .ok (.iinc 3 1, 3) := by decide +kernel
theorem dX7_outBy_37 : decode cX7_outBy 37 = .ok (.goto (-33), 3) := by decide +kernel
theorem dX7_outBy_40 : decode cX7_outBy 40 = .ok (.iload_n 2, 1) := by decide +kernel
theorem dX7_outBy_41 : decode cX7_outBy 41 = .ok (.ireturn, 1) := by decide +kernel
theorem dX7_ones_0 : decode cX7_ones 0 = .ok (.iconst 0, 1) := by decide +kernel
theorem dX7_ones_1 : decode cX7_ones 1 = .ok (.istore_n 1, 1) := by decide +kernel
theorem dX7_ones_2 : decode cX7_ones 2 = .ok (.iconst 0, 1) := by decide +kernel
theorem dX7_ones_3 : decode cX7_ones 3 = .ok (.istore_n 2, 1) := by decide +kernel
theorem dX7_ones_4 : decode cX7_ones 4 = .ok (.iload_n 2, 1) := by decide +kernel
theorem dX7_ones_5 : decode cX7_ones 5 = .ok (.bipush 20, 2) := by decide +kernel
theorem dX7_ones_7 : decode cX7_ones 7 = .ok (.if_icmp .ge 17, 3) := by decide +kernel
theorem dX7_ones_10 : decode cX7_ones 10 = .ok (.iload_n 1, 1) := by decide +kernel
theorem dX7_ones_11 : decode cX7_ones 11 = .ok (.iload_n 0, 1) := by decide +kernel
theorem dX7_ones_12 : decode cX7_ones 12 = .ok (.iload_n 2, 1) := by decide +kernel
theorem dX7_ones_13 : decode cX7_ones 13 = .ok (.ishr, 1) := by decide +kernel
theorem dX7_ones_14 : decode cX7_ones 14 = .ok (.iconst 1, 1) := by decide +kernel
theorem dX7_ones_15 : decode cX7_ones 15 = .ok (.iand, 1) := by decide +kernel
theorem dX7_ones_16 : decode cX7_ones 16 = .ok (.iadd, 1) := by decide +kernel
theorem dX7_ones_17 : decode cX7_ones 17 = .ok (.istore_n 1, 1) := by decide +kernel
theorem dX7_ones_18 : decode cX7_ones 18 = .ok (.iinc 2 1, 3) := by decide +kernel
theorem dX7_ones_21 : decode cX7_ones 21 = .ok (.goto (-17), 3) := by decide +kernel
theorem dX7_ones_24 : decode cX7_ones 24 = .ok (.iload_n 1, 1) := by decide +kernel
theorem dX7_ones_25 : decode cX7_ones 25 = .ok (.ireturn, 1) := by decide +kernel
set_option maxRecDepth 20000 in
theorem ggX7_mayLend_X7_ofStone : GoodIn wsX7_mayLend wsX7_ofStone := goodIn_r _ [6, 1, 26, 27, 28, 29, 30, 31, 32, 33, 34, 35, 36, 37, 38] (by decide +kernel) (by decide +kernel)
set_option maxRecDepth 20000 in
theorem gX7_mayLend_X7_ofStone : GoodIn wsX7_mayLend (wsV RX7 40 RX7 yX7_ofStone wsX7_ofStone) := goodIn_app (goodIn_of _ (by decide +kernel)) ggX7_mayLend_X7_ofStone
set_option maxRecDepth 20000 in
theorem ggX7_mayLend_X7_isOut : GoodIn wsX7_mayLend wsX7_isOut := goodIn_r _ [10, 2, 3, 4, 5, 6, 1, 26, 27, 28, 29, 30, 31, 32, 33, 34, 35, 36, 37, 38] (by decide +kernel) (by decide +kernel)
set_option maxRecDepth 20000 in
theorem gX7_mayLend_X7_isOut : GoodIn wsX7_mayLend (wsV RX7 55 RX7 yX7_isOut wsX7_isOut) := goodIn_app (goodIn_of _ (by decide +kernel)) ggX7_mayLend_X7_isOut
set_option maxRecDepth 20000 in
theorem ggX7_mayLend_X7_price : GoodIn wsX7_mayLend wsX7_price := goodIn_r _ [14, 15, 16, 17, 5, 18, 2, 3, 4, 6, 1, 19, 20, 21, 22, 23, 24, 25, 26, 27, 28, 29, 30, 31, 32, 33, 34, 35, 36, 37, 38] (by decide +kernel) (by decide +kernel)
set_option maxRecDepth 20000 in
theorem gX7_mayLend_X7_price : GoodIn wsX7_mayLend (wsV RX7 59 RX7 yX7_price wsX7_price) := goodIn_app (goodIn_of _ (by decide +kernel)) ggX7_mayLend_X7_price
theorem dX7_mayLend_0 : decode cX7_mayLend 0 = .ok (.iconst 1, 1) := by decide +kernel
theorem dX7_mayLend_1 : decode cX7_mayLend 1 = .ok (.istore_n 3, 1) := by decide +kernel
theorem dX7_mayLend_2 : decode cX7_mayLend 2 = .ok (.iconst 0, 1) := by decide +kernel
theorem dX7_mayLend_3 : decode cX7_mayLend 3 = .ok (.istore 4, 2) := by decide +kernel
theorem dX7_mayLend_5 : decode cX7_mayLend 5 = .ok (.iload 4, 2) := by decide +kernel
theorem dX7_mayLend_7 : decode cX7_mayLend 7 = .ok (.aload_n 0, 1) := by decide +kernel
theorem dX7_mayLend_8 : decode cX7_mayLend 8 = .ok (.getfield 7, 3) := by decide +kernel
theorem dX7_mayLend_11 : decode cX7_mayLend 11 = .ok (.iconst 1, 1) := by decide +kernel
theorem dX7_mayLend_12 : decode cX7_mayLend 12 = .ok (.iaload, 1) := by decide +kernel
theorem dX7_mayLend_13 : decode cX7_mayLend 13 = .ok (.if_icmp .ge 80, 3) := by decide +kernel
theorem dX7_mayLend_16 : decode cX7_mayLend 16 = .ok (.aload_n 0, 1) := by decide +kernel
theorem dX7_mayLend_17 : decode cX7_mayLend 17 = .ok (.iload 4, 2) := by decide +kernel
theorem dX7_mayLend_19 : decode cX7_mayLend 19 = .ok (.iconst 3, 1) := by decide +kernel
theorem dX7_mayLend_20 : decode cX7_mayLend 20 = .ok (.invokevirtual 40, 3) := by decide +kernel
theorem dX7_mayLend_23 : decode cX7_mayLend 23 = .ok (.iload_n 1, 1) := by decide +kernel
theorem dX7_mayLend_24 : decode cX7_mayLend 24 = .ok (.if_icmp .ne 36, 3) := by decide +kernel
theorem dX7_mayLend_27 : decode cX7_mayLend 27 = .ok (.aload_n 0, 1) := by decide +kernel
theorem dX7_mayLend_28 : decode cX7_mayLend 28 = .ok (.iload 4, 2) := by decide +kernel
theorem dX7_mayLend_30 : decode cX7_mayLend 30 = .ok (.iconst 4, 1) := by decide +kernel
theorem dX7_mayLend_31 : decode cX7_mayLend 31 = .ok (.invokevirtual 40, 3) := by decide +kernel
theorem dX7_mayLend_34 : decode cX7_mayLend 34 = .ok (.iload_n 1, 1) := by decide +kernel
theorem dX7_mayLend_35 : decode cX7_mayLend 35 = .ok (.if_icmp .ne 25, 3) := by decide +kernel
theorem dX7_mayLend_38 : decode cX7_mayLend 38 = .ok (.aload_n 0, 1) := by decide +kernel
theorem dX7_mayLend_39 : decode cX7_mayLend 39 = .ok (.iload 4, 2) := by decide +kernel
theorem dX7_mayLend_41 : decode cX7_mayLend 41 = .ok (.invokevirtual 55, 3) := by decide +kernel
theorem dX7_mayLend_44 : decode cX7_mayLend 44 = .ok (.ifCond .ne 16, 3) := by decide +kernel
theorem dX7_mayLend_47 : decode cX7_mayLend 47 = .ok (.aload_n 0, 1) := by decide +kernel
theorem dX7_mayLend_48 : decode cX7_mayLend 48 = .ok (.iload 4, 2) := by decide +kernel
theorem dX7_mayLend_50 : decode cX7_mayLend 50 = .ok (.invokevirtual 59, 3) := by decide +kernel
theorem dX7_mayLend_53 : decode cX7_mayLend 53 = .ok (.ifCond .lt 7, 3) := by decide +kernel
theorem dX7_mayLend_56 : decode cX7_mayLend 56 = .ok (.iconst 1, 1) := by decide +kernel
theorem dX7_mayLend_57 : decode cX7_mayLend 57 = .ok (.goto 4, 3) := by decide +kernel
theorem dX7_mayLend_60 : decode cX7_mayLend 60 = .ok (.iconst 0, 1) := by decide +kernel
theorem dX7_mayLend_61 : decode cX7_mayLend 61 = .ok (.istore 5, 2) := by decide +kernel
theorem dX7_mayLend_63 : decode cX7_mayLend 63 = .ok (.iload_n 3, 1) := by decide +kernel
theorem dX7_mayLend_64 : decode cX7_mayLend 64 = .ok (.ifCond .eq 21, 3) := by decide +kernel
theorem dX7_mayLend_67 : decode cX7_mayLend 67 = .ok (.iload_n 2, 1) := by decide +kernel
theorem dX7_mayLend_68 : decode cX7_mayLend 68 = .ok (.iload 4, 2) := by decide +kernel
theorem dX7_mayLend_70 : decode cX7_mayLend 70 = .ok (.ishr, 1) := by decide +kernel
theorem dX7_mayLend_71 : decode cX7_mayLend 71 = .ok (.iconst 1, 1) := by decide +kernel
theorem dX7_mayLend_72 : decode cX7_mayLend 72 = .ok (.iand, 1) := by decide +kernel
theorem dX7_mayLend_73 : decode cX7_mayLend 73 = .ok (.ifCond .eq 8, 3) := by decide +kernel
theorem dX7_mayLend_76 : decode cX7_mayLend 76 = .ok (.iload 5, 2) := by decide +kernel
theorem dX7_mayLend_78 : decode cX7_mayLend 78 = .ok (.ifCond .eq 7, 3) := by decide +kernel
theorem dX7_mayLend_81 : decode cX7_mayLend 81 = .ok (.iconst 1, 1) := by decide +kernel
theorem dX7_mayLend_82 : decode cX7_mayLend 82 = .ok (.goto 4, 3) := by decide +kernel
theorem dX7_mayLend_85 : decode cX7_mayLend 85 = .ok (.iconst 0, 1) := by decide +kernel
theorem dX7_mayLend_86 : decode cX7_mayLend 86 = .ok (.istore_n 3, 1) := by decide +kernel
theorem dX7_mayLend_87 : decode cX7_mayLend 87 = .ok (.iinc 4 1, 3) := by decide +kernel
theorem dX7_mayLend_90 : decode cX7_mayLend 90 = .ok (.goto (-85), 3) := by decide +kernel
theorem dX7_mayLend_93 : decode cX7_mayLend 93 = .ok (.iload_n 3, 1) := by decide +kernel
theorem dX7_mayLend_94 : decode cX7_mayLend 94 = .ok (.ireturn, 1) := by decide +kernel
set_option maxRecDepth 20000 in
theorem ggX7_lends_X7_isDealer : GoodIn wsX7_lends wsX7_isDealer := goodIn_r _ [9, 1, 10, 11, 8, 12, 44, 45, 46, 47, 48, 49, 50, 51, 52, 53, 54, 55, 56] (by decide +kernel) (by decide +kernel)
set_option maxRecDepth 20000 in
theorem gX7_lends_X7_isDealer : GoodIn wsX7_lends (wsV RX7 62 RX7 yX7_isDealer wsX7_isDealer) := goodIn_app (goodIn_of _ (by decide +kernel)) ggX7_lends_X7_isDealer
set_option maxRecDepth 20000 in
theorem ggX7_lends_X7_in : GoodIn wsX7_lends wsX7_in := goodIn_r _ [12] (by decide +kernel) (by decide +kernel)
set_option maxRecDepth 20000 in
theorem gX7_lends_X7_in : GoodIn wsX7_lends (va_wsS RX7 36 yX7_in wsX7_in) := goodIn_app (goodIn_of _ (by decide +kernel)) ggX7_lends_X7_in
set_option maxRecDepth 20000 in
theorem ggX7_lends_X7_mayLend : GoodIn wsX7_lends wsX7_mayLend := goodIn_r _ [16, 1, 17, 18, 19, 8, 20, 21, 22, 23, 24, 25, 26, 27, 28, 29, 30, 31, 32, 33, 34, 35, 36, 37, 38, 39, 44, 45, 46, 47, 48, 49, 50, 51, 52, 53, 54, 55, 56] (by decide +kernel) (by decide +kernel)
set_option maxRecDepth 20000 in
theorem gX7_lends_X7_mayLend : GoodIn wsX7_lends (wsV RX7 65 RX7 yX7_mayLend wsX7_mayLend) := goodIn_app (goodIn_of _ (by decide +kernel)) ggX7_lends_X7_mayLend
set_option maxRecDepth 20000 in
theorem ggX7_lends_X7_setStone : GoodIn wsX7_lends wsX7_setStone := goodIn_r _ [43, 1, 44, 45, 46, 47, 48, 49, 50, 51, 52, 53, 54, 55, 56] (by decide +kernel) (by decide +kernel)
set_option maxRecDepth 20000 in
theorem gX7_lends_X7_setStone : GoodIn wsX7_lends (wsV RX7 71 RX7 yX7_setStone wsX7_setStone) := goodIn_app (goodIn_of _ (by decide +kernel)) ggX7_lends_X7_setStone
set_option maxRecDepth 20000 in
theorem ggX7_lends_X7_price : GoodIn wsX7_lends wsX7_price := goodIn_r _ [28, 29, 30, 31, 8, 32, 17, 18, 19, 20, 1, 33, 34, 35, 36, 37, 38, 39, 44, 45, 46, 47, 48, 49, 50, 51, 52, 53, 54, 55, 56] (by decide +kernel) (by decide +kernel)
set_option maxRecDepth 20000 in
theorem gX7_lends_X7_price : GoodIn wsX7_lends (wsV RX7 59 RX7 yX7_price wsX7_price) := goodIn_app (goodIn_of _ (by decide +kernel)) ggX7_lends_X7_price
