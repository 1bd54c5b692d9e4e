theorem dX5_hasLikeBefore_27 : decode cX5_hasLikeBefore 27 = .ok (.ireturn, 1) := by decide +kernel
theorem dX5_hasLikeBefore_28 : decode cX5_hasLikeBefore 28 = .ok (.iinc 3 1, 3) := by decide +kernel
theorem dX5_hasLikeBefore_31 : decode cX5_hasLikeBefore 31 = .ok (.goto (-29), 3) := by decide +kernel
theorem dX5_hasLikeBefore_34 : decode cX5_hasLikeBefore 34 = .ok (.iconst 0, 1) := by decide +kernel
theorem dX5_hasLikeBefore_35 : decode cX5_hasLikeBefore 35 = .ok (.ireturn, 1) := by decide +kernel
set_option maxRecDepth 20000 in
theorem ggX5_sameGrade_X5_sieveOf : GoodIn wsX5_sameGrade wsX5_sieveOf := goodIn_r _ [7, 8, 9, 10, 11, 12, 13, 14, 15, 16, 17, 18] (by decide +kernel) (by decide +kernel)
set_option maxRecDepth 20000 in
theorem gX5_sameGrade_X5_sieveOf : GoodIn wsX5_sameGrade (wsV RX5 70 RX5 yX5_sieveOf wsX5_sieveOf) := goodIn_app (goodIn_of _ (by decide +kernel)) ggX5_sameGrade_X5_sieveOf
theorem dX5_sameGrade_0 : decode cX5_sameGrade 0 = .ok (.aload_n 0, 1) := by decide +kernel
theorem dX5_sameGrade_1 : decode cX5_sameGrade 1 = .ok (.iload_n 1, 1) := by decide +kernel
theorem dX5_sameGrade_2 : decode cX5_sameGrade 2 = .ok (.invokevirtual 70, 3) := by decide +kernel
theorem dX5_sameGrade_5 : decode cX5_sameGrade 5 = .ok (.aload_n 0, 1) := by decide +kernel
theorem dX5_sameGrade_6 : decode cX5_sameGrade 6 = .ok (.iload_n 2, 1) := by decide +kernel
theorem dX5_sameGrade_7 : decode cX5_sameGrade 7 = .ok (.invokevirtual 70, 3) := by decide +kernel
theorem dX5_sameGrade_10 : decode cX5_sameGrade 10 = .ok (.if_icmp .ne 37, 3) := by decide +kernel
theorem dX5_sameGrade_13 : decode cX5_sameGrade 13 = .ok (.aload_n 0, 1) := by decide +kernel
theorem dX5_sameGrade_14 : decode cX5_sameGrade 14 = .ok (.getfield 19, 3) := by decide +kernel
theorem dX5_sameGrade_17 : decode cX5_sameGrade 17 = .ok (.iload_n 1, 1) := by decide +kernel
theorem dX5_sameGrade_18 : decode cX5_sameGrade 18 = .ok (.iaload, 1) := by decide +kernel
theorem dX5_sameGrade_19 : decode cX5_sameGrade 19 = .ok (.aload_n 0, 1) := by decide +kernel
theorem dX5_sameGrade_20 : decode cX5_sameGrade 20 = .ok (.getfield 19, 3) := by decide +kernel
theorem dX5_sameGrade_23 : decode cX5_sameGrade 23 = .ok (.iload_n 2, 1) := by decide +kernel
theorem dX5_sameGrade_24 : decode cX5_sameGrade 24 = .ok (.iaload, 1) := by decide +kernel
theorem dX5_sameGrade_25 : decode cX5_sameGrade 25 = .ok (.if_icmp .ne 22, 3) := by decide +kernel
theorem dX5_sameGrade_28 : decode cX5_sameGrade 28 = .ok (.aload_n 0, 1) := by decide +kernel
theorem dX5_sameGrade_29 : decode cX5_sameGrade 29 = .ok (.getfield 22, 3) := by decide +kernel
theorem dX5_sameGrade_32 : decode cX5_sameGrade 32 = .ok (.iload_n 1, 1) := by decide +kernel
theorem dX5_sameGrade_33 : decode cX5_sameGrade 33 = .ok (.iaload, 1) := by decide +kernel
theorem dX5_sameGrade_34 : decode cX5_sameGrade 34 = .ok (.aload_n 0, 1) := by decide +kernel
theorem dX5_sameGrade_35 : decode cX5_sameGrade 35 = .ok (.getfield 22, 3) := by decide +kernel
theorem dX5_sameGrade_38 : decode cX5_sameGrade 38 = .ok (.iload_n 2, 1) := by decide +kernel
theorem dX5_sameGrade_39 : decode cX5_sameGrade 39 = .ok (.iaload, 1) := by decide +kernel
theorem dX5_sameGrade_40 : decode cX5_sameGrade 40 = .ok (.if_icmp .ne 7, 3) := by decide +kernel
theorem dX5_sameGrade_43 : decode cX5_sameGrade 43 = .ok (.iconst 1, 1) := by decide +kernel
theorem dX5_sameGrade_44 : decode cX5_sameGrade 44 = .ok (.goto 4, 3) := by decide +kernel
theorem dX5_sameGrade_47 : decode cX5_sameGrade 47 = .ok (.iconst 0, 1) := by decide +kernel
theorem dX5_sameGrade_48 : decode cX5_sameGrade 48 = .ok (.ireturn, 1) := by decide +kernel
set_option maxRecDepth 20000 in
theorem ggX6_init_X1_init : GoodIn wsX6_init wsX1_init := goodIn_r _ [21, 22, 2, 3, 23, 24, 25, 26, 27, 28, 29, 30, 31, 32, 33, 34, 35, 36, 37, 38, 39, 40, 41, 42, 43, 44, 45, 46, 47, 48, 49, 50, 51, 52, 53, 54, 55, 56, 57, 58, 59, 60, 61, 62, 63, 64, 65, 66, 67, 68, 69, 70, 118, 119, 120, 121, 91, 92, 93, 94, 95, 96, 97, 98, 99, 122, 123, 124, 125, 126, 127, 128, 129, 130, 131, 132, 133, 134, 135, 136, 137] (by decide +kernel) (by decide +kernel)
set_option maxRecDepth 20000 in
theorem gX6_init_X1_init_n9 : GoodIn wsX6_init (wsX1_init) := ggX6_init_X1_init
set_option maxRecDepth 20000 in
theorem ggX6_init_X0_init : GoodIn wsX6_init wsX0_init := goodIn_r _ [73, 74, 2, 3, 75, 76, 77, 78, 5, 6, 20, 21, 22, 23, 24, 25, 26, 27, 28, 29, 30, 31, 32, 33, 34, 35, 36, 37, 38, 39, 40, 41, 42, 43, 44, 45, 46, 47, 48, 49, 50, 51, 52, 53, 54, 55, 56, 57, 58, 59, 60, 61, 62, 63, 64, 65, 66, 67, 68, 69, 70, 107, 108, 109, 91, 92, 93, 94, 95, 96, 97, 98, 99, 118, 119, 120, 121, 122, 123, 124, 125, 126, 127, 128, 129, 130, 131, 132, 133, 134, 135, 136, 137] (by decide +kernel) (by decide +kernel)
set_option maxRecDepth 20000 in
theorem gX6_init_X0_init : GoodIn wsX6_init (wsX0_init) := ggX6_init_X0_init
set_option maxRecDepth 20000 in
theorem ggX6_init_X4_init : GoodIn wsX6_init wsX4_init := goodIn_r _ [80, 81, 2, 3, 82, 83, 84, 85, 35, 86, 87, 88, 89, 90, 110, 111, 112, 113, 114, 115, 116, 117] (by decide +kernel) (by decide +kernel)
set_option maxRecDepth 20000 in
theorem gX6_init_X4_init_n34 : GoodIn wsX6_init (wsX4_init) := ggX6_init_X4_init
theorem dX6_init_0 : decode cX6_init 0 = .ok (.aload_n 0, 1) := by decide +kernel
theorem dX6_init_1 : decode cX6_init 1 = .ok (.invokespecial 1, 3) := by decide +kernel
theorem dX6_init_4 : decode cX6_init 4 = .ok (.aload_n 0, 1) := by decide +kernel
theorem dX6_init_5 : decode cX6_init 5 = .ok (.new 7, 3) := by decide +kernel
theorem dX6_init_8 : decode cX6_init 8 = .ok (.dup, 1) := by decide +kernel
theorem dX6_init_9 : decode cX6_init 9 = .ok (.invokespecial 9, 3) := by decide +kernel
theorem dX6_init_12 : decode cX6_init 12 = .ok (.putfield 10, 3) := by decide +kernel
theorem dX6_init_15 : decode cX6_init 15 = .ok (.aload_n 0, 1) := by decide +kernel
theorem dX6_init_16 : decode cX6_init 16 = .ok (.new 7, 3) := by decide +kernel
theorem dX6_init_19 : decode cX6_init 19 = .ok (.dup, 1) := by decide +kernel
theorem dX6_init_20 : decode cX6_init 20 = .ok (.invokespecial 9, 3) := by decide +kernel
theorem dX6_init_23 : decode cX6_init 23 = .ok (.putfield 16, 3) := by decide +kernel
theorem dX6_init_26 : decode cX6_init 26 = .ok (.aload_n 0, 1) := by decide +kernel
theorem dX6_init_27 : decode cX6_init 27 = .ok (.new 7, 3) := by decide +kernel
theorem dX6_init_30 : decode cX6_init 30 = .ok (.dup, 1) := by decide +kernel
theorem dX6_init_31 : decode cX6_init 31 = .ok (.invokespecial 9, 3) := by decide +kernel
theorem dX6_init_34 : decode cX6_init 34 = .ok (.putfield 19, 3) := by decide +kernel
theorem dX6_init_37 : decode cX6_init 37 = .ok (.aload_n 0, 1) := by decide +kernel
theorem dX6_init_38 : decode cX6_init 38 = .ok (.new 7, 3) := by decide +kernel
theorem dX6_init_41 : decode cX6_init 41 = .ok (.dup, 1) := by decide +kernel
theorem dX6_init_42 : decode cX6_init 42 = .ok (.invokespecial 9, 3) := by decide +kernel
theorem dX6_init_45 : decode cX6_init 45 = .ok (.putfield 22, 3) := by decide +kernel
theorem dX6_init_48 : decode cX6_init 48 = .ok (.aload_n 0, 1) := by decide +kernel
theorem dX6_init_49 : decode cX6_init 49 = .ok (.new 25, 3) := by decide +kernel
theorem dX6_init_52 : decode cX6_init 52 = .ok (.dup, 1) := by decide +kernel
theorem dX6_init_53 : decode cX6_init 53 = .ok (.invokespecial 27, 3) := by decide +kernel
theorem dX6_init_56 : decode cX6_init 56 = .ok (.putfield 28, 3) := by decide +kernel
theorem dX6_init_59 : decode cX6_init 59 = .ok (.aload_n 0, 1) := by decide +kernel
theorem dX6_init_60 : decode cX6_init 60 = .ok (.new 32, 3) := by decide +kernel
theorem dX6_init_63 : decode cX6_init 63 = .ok (.dup, 1) := by decide +kernel
theorem dX6_init_64 : decode cX6_init 64 = .ok (.invokespecial 34, 3) := by decide +kernel
theorem dX6_init_67 : decode cX6_init 67 = .ok (.putfield 35, 3) := by decide +kernel
theorem dX6_init_70 : decode cX6_init 70 = .ok (.aload_n 0, 1) := by decide +kernel
theorem dX6_init_71 : decode cX6_init 71 = .ok (.iconst 0, 1) := by decide +kernel
theorem dX6_init_72 : decode cX6_init 72 = .ok (.putfield 39, 3) := by decide +kernel
theorem dX6_init_75 : decode cX6_init 75 = .ok (.return_, 1) := by decide +kernel
set_option maxRecDepth 20000 in
theorem ggX6_dealer_X1_copyFrom : GoodIn wsX6_dealer wsX1_copyFrom := goodIn_r _ [7, 8, 9, 10, 11, 12, 13, 14, 15, 16, 17, 18, 19, 20, 21, 22, 23, 24, 25, 26, 27, 28, 29, 30, 31, 32, 33, 34, 35, 36, 37, 38, 39, 40, 41, 42, 43, 44, 45, 46, 47, 48, 49, 50, 51, 52, 53, 54, 55, 56, 57, 58, 90, 91, 92, 93, 94, 95, 96, 97, 98, 99, 100, 101, 102, 103, 104, 105, 106, 107, 108, 109, 110, 111, 112, 113, 114, 115, 116, 117, 118] (by decide +kernel) (by decide +kernel)
set_option maxRecDepth 20000 in
theorem gX6_dealer_X1_copyFrom : GoodIn wsX6_dealer (wsV RX6 43 RX1 yX1_copyFrom wsX1_copyFrom) := goodIn_app (goodIn_of _ (by decide +kernel)) ggX6_dealer_X1_copyFrom
set_option maxRecDepth 20000 in
theorem ggX6_dealer_X1_addDealer : GoodIn wsX6_dealer wsX1_addDealer := goodIn_r _ [62, 16, 63, 11, 90, 91, 92, 93, 94, 95, 96, 97, 98] (by decide +kernel) (by decide +kernel)
set_option maxRecDepth 20000 in
theorem gX6_dealer_X1_addDealer : GoodIn wsX6_dealer (wsV RX6 47 RX1 yX1_addDealer wsX1_addDealer) := goodIn_app (goodIn_of _ (by decide +kernel)) ggX6_dealer_X1_addDealer
set_option maxRecDepth 20000 in
theorem ggX6_dealer_X6_recorded : GoodIn wsX6_dealer wsX6_recorded := goodIn_r _ [68, 69, 1, 70, 71, 72, 73, 74, 75, 76, 77, 78, 79, 80, 81, 82, 4, 5, 6, 7, 8, 9, 10, 11, 12, 13, 14, 15, 16, 17, 18, 19, 20, 21, 22, 23, 24, 25, 26, 27, 28, 29, 30, 31, 32, 33, 34, 35, 36, 37, 38, 39, 40, 41, 42, 43, 44, 45, 46, 47, 48, 49, 50, 51, 52, 53, 54, 55, 56, 57, 58, 83, 84, 85, 86, 87, 88, 89, 119, 120, 121, 90, 91, 92, 93, 94, 95, 96, 97, 98, 99, 100, 101, 102, 103, 104, 105, 106, 107, 108, 109, 110, 111, 112, 113, 114, 115, 116, 117, 118] (by decide +kernel) (by decide +kernel)
set_option maxRecDepth 20000 in
theorem gX6_dealer_X6_recorded : GoodIn wsX6_dealer (wsV RX6 51 RX6 yX6_recorded wsX6_recorded) := goodIn_app (goodIn_of _ (by decide +kernel)) ggX6_dealer_X6_recorded
theorem dX6_dealer_0 : decode cX6_dealer 0 = .ok (.aload_n 0, 1) := by decide +kernel
theorem dX6_dealer_1 : decode cX6_dealer 1 = .ok (.getfield 16, 3) := by decide +kernel
theorem dX6_dealer_4 : decode cX6_dealer 4 = .ok (.aload_n 0, 1) := by decide +kernel
theorem dX6_dealer_5 : decode cX6_dealer 5 = .ok (.getfield 10, 3) := by decide +kernel
theorem dX6_dealer_8 : decode cX6_dealer 8 = .ok (.invokevirtual 43, 3) := by decide +kernel
theorem dX6_dealer_11 : decode cX6_dealer 11 = .ok (.aload_n 0, 1) := by decide +kernel
theorem dX6_dealer_12 : decode cX6_dealer 12 = .ok (.aload_n 0, 1) := by decide +kernel
theorem dX6_dealer_13 : decode cX6_dealer 13 = .ok (.getfield 10, 3) := by decide +kernel
theorem dX6_dealer_16 : decode cX6_dealer 16 = .ok (.invokevirtual 47, 3) := by decide +kernel
theorem dX6_dealer_19 : decode cX6_dealer 19 = .ok (.invokevirtual 51, 3) := by decide +kernel
theorem dX6_dealer_22 : decode cX6_dealer 22 = .ok (.ireturn, 1) := by decide +kernel
set_option maxRecDepth 20000 in
theorem ggX6_stone_X1_copyFrom : GoodIn wsX6_stone wsX1_copyFrom := goodIn_r _ [7, 8, 9, 10, 11, 12, 13, 14, 15, 16, 17, 18, 19, 20, 21, 22, 23, 24, 25, 26, 27, 28, 29, 30, 31, 32, 33, 34, 35, 36, 37, 38, 39, 40, 41, 42, 43, 44, 45, 46, 47, 48, 49, 50, 51, 52, 53, 54, 55, 56, 57, 58, 101, 102, 103, 104, 105, 106, 107, 108, 109, 110, 111, 112, 113, 114, 115, 116, 117, 118, 119, 120, 121, 122, 123, 124, 125, 126, 127, 128, 129] (by decide +kernel) (by decide +kernel)
set_option maxRecDepth 20000 in
theorem gX6_stone_X1_copyFrom : GoodIn wsX6_stone (wsV RX6 43 RX1 yX1_copyFrom wsX1_copyFrom) := goodIn_app (goodIn_of _ (by decide +kernel)) ggX6_stone_X1_copyFrom
set_option maxRecDepth 20000 in
theorem ggX6_stone_X1_addStone : GoodIn wsX6_stone wsX1_addStone := goodIn_r _ [62, 63, 9, 64, 65, 66, 67, 6, 68, 16, 69, 70, 71, 72, 73, 74, 34, 75, 36, 37, 39, 40, 41, 42, 43, 44, 45, 46, 101, 102, 103, 104, 105, 106, 107, 108, 109, 114, 115, 116, 117, 118, 119, 120, 121, 122, 123] (by decide +kernel) (by decide +kernel)
set_option maxRecDepth 20000 in
theorem gX6_stone_X1_addStone : GoodIn wsX6_stone (wsV RX6 55 RX1 yX1_addStone wsX1_addStone) := goodIn_app (goodIn_of _ (by decide +kernel)) ggX6_stone_X1_addStone
set_option maxRecDepth 20000 in
theorem ggX6_stone_X6_recorded : GoodIn wsX6_stone wsX6_recorded := goodIn_r _ [79, 80, 1, 81, 82, 83, 84, 85, 86, 87, 88, 89, 90, 91, 92, 93, 4, 5, 6, 7, 8, 9, 10, 11, 12, 13, 14, 15, 16, 17, 18, 19, 20, 21, 22, 23, 24, 25, 26, 27, 28, 29, 30, 31, 32, 33, 34, 35, 36, 37, 38, 39, 40, 41, 42, 43, 44, 45, 46, 47, 48, 49, 50, 51, 52, 53, 54, 55, 56, 57, 58, 94, 95, 96, 97, 98, 99, 100, 130, 131, 132, 101, 102, 103, 104, 105, 106, 107, 108, 109, 110, 111, 112, 113, 114, 115, 116, 117, 118, 119, 120, 121, 122, 123, 124, 125, 126, 127, 128, 129] (by decide +kernel) (by decide +kernel)
set_option maxRecDepth 20000 in
theorem gX6_stone_X6_recorded : GoodIn wsX6_stone (wsV RX6 51 RX6 yX6_recorded wsX6_recorded) := goodIn_app (goodIn_of _ (by decide +kernel)) ggX6_stone_X6_recorded
theorem dX6_stone_0 : decode cX6_stone 0 = .ok (.aload_n 0, 1) := by decide +kernel
theorem dX6_stone_1 : decode cX6_stone 1 = .ok (.getfield 16, 3) := by decide +kernel
theorem dX6_stone_4 : decode cX6_stone 4 = .ok (.aload_n 0, 1) := by decide +kernel
theorem dX6_stone_5 : decode cX6_stone 5 = .ok (.getfield 10, 3) := by decide +kernel
theorem dX6_stone_8 : decode cX6_stone 8 = .ok (.invokevirtual 43, 3) := by decide +kernel
theorem dX6_stone_11 : decode cX6_stone 11 = .ok (.aload_n 0, 1) := by decide +kernel
theorem dX6_stone_12 : decode cX6_stone 12 = .ok (.aload_n 0, 1) := by decide +kernel
theorem dX6_stone_13 : decode cX6_stone 13 = .ok (.getfield 10, 3) := by decide +kernel
theorem dX6_stone_16 : decode cX6_stone 16 = .ok (.iload_n 1, 1) := by decide +kernel
theorem dX6_stone_17 : decode cX6_stone 17 = .ok (.iload_n 2, 1) := by decide +kernel
theorem dX6_stone_18 : decode cX6_stone 18 = .ok (.iload_n 3, 1) := by decide +kernel
theorem dX6_stone_19 : decode cX6_stone 19 = .ok (.iload 4, 2) := by decide +kernel
theorem dX6_stone_21 : decode cX6_stone 21 = .ok (.invokevirtual 55, 3) := by decide +kernel
theorem dX6_stone_24 : decode cX6_stone 24 = .ok (.invokevirtual 51, 3) := by decide +kernel
theorem dX6_stone_27 : decode cX6_stone 27 = .ok (.ireturn, 1) := by decide +kernel
set_option maxRecDepth 20000 in
theorem ggX6_rate_X1_copyFrom : GoodIn wsX6_rate wsX1_copyFrom := goodIn_r _ [7, 8, 9, 10, 11, 12, 13, 14, 15, 16, 17, 18, 19, 20, 21, 22, 23, 24, 25, 26, 27, 28, 29, 30, 31, 32, 33, 34, 35, 36, 37, 38, 39, 40, 41, 42, 43, 44, 45, 46, 47, 48, 49, 50, 51, 52, 53, 54, 55, 56, 57, 58, 112, 113, 114, 115, 116, 117, 118, 119, 120, 121, 122, 123, 124, 125, 126, 127, 128, 129, 130, 131, 132, 133, 134, 135, 136, 137, 138, 139, 140] (by decide +kernel) (by decide +kernel)
set_option maxRecDepth 20000 in
theorem gX6_rate_X1_copyFrom : GoodIn wsX6_rate (wsV RX6 43 RX1 yX1_copyFrom wsX1_copyFrom) := goodIn_app (goodIn_of _ (by decide +kernel)) ggX6_rate_X1_copyFrom
set_option maxRecDepth 20000 in
theorem ggX6_rate_X1_putRate : GoodIn wsX6_rate wsX1_putRate := goodIn_r _ [62, 63, 8, 64, 65, 66, 67, 68, 69, 70, 71, 72, 73, 24, 74, 30, 75, 76, 77, 78, 26, 28, 29, 79, 80, 81, 82, 83, 84, 85, 86, 112, 113, 114, 115, 116, 117, 118, 119, 120, 121, 122, 123, 124] (by decide +kernel) (by decide +kernel)
set_option maxRecDepth 20000 in
theorem gX6_rate_X1_putRate : GoodIn wsX6_rate (wsV RX6 59 RX1 yX1_putRate wsX1_putRate) := goodIn_app (goodIn_of _ (by decide +kernel)) ggX6_rate_X1_putRate
set_option maxRecDepth 20000 in
theorem ggX6_rate_X6_recorded : GoodIn wsX6_rate wsX6_recorded := goodIn_r _ [90, 91, 1, 92, 93, 94, 95, 96, 97, 98, 99, 100, 101, 102, 103, 104, 4, 5, 6, 7, 8, 9, 10, 11, 12, 13, 14, 15, 16, 17, 18, 19, 20, 21, 22, 23, 24, 25, 26, 27, 28, 29, 30, 31, 32, 33, 34, 35, 36, 37, 38, 39, 40, 41, 42, 43, 44, 45, 46, 47, 48, 49, 50, 51, 52, 53, 54, 55, 56, 57, 58, 105, 106, 107, 108, 109, 110, 111, 141, 142, 143, 112, 113, 114, 115, 116, 117, 118, 119, 120, 121, 122, 123, 124, 125, 126, 127, 128, 129, 130, 131, 132, 133, 134, 135, 136, 137, 138, 139, 140] (by decide +kernel) (by decide +kernel)
set_option maxRecDepth 20000 in
theorem gX6_rate_X6_recorded : GoodIn wsX6_rate (wsV RX6 51 RX6 yX6_recorded wsX6_recorded) := goodIn_app (goodIn_of _ (by decide +kernel)) ggX6_rate_X6_recorded
theorem dX6_rate_0 : decode cX6_rate 0 = .ok (.aload_n 0, 1) := by decide +kernel
theorem dX6_rate_1 : decode cX6_rate 1 = .ok (.getfield 16, 3) := by decide +kernel
theorem dX6_rate_4 : decode cX6_rate 4 = .ok (.aload_n 0, 1) := by decide +kernel
theorem dX6_rate_5 : decode cX6_rate 5 = .ok (.getfield 10, 3) := by decide +kernel
theorem dX6_rate_8 : decode cX6_rate 8 = .ok (.invokevirtual 43, 3) := by decide +kernel
theorem dX6_rate_11 : decode cX6_rate 11 = .ok (.aload_n 0, 1) := by decide +kernel
theorem dX6_rate_12 : decode cX6_rate 12 = .ok (.aload_n 0, 1) := by decide +kernel
theorem dX6_rate_13 : decode cX6_rate 13 = .ok (.getfield 10, 3) := by decide +kernel
theorem dX6_rate_16 : decode cX6_rate 16 = .ok (.iload_n 1, 1) := by decide +kernel
theorem dX6_rate_17 : decode cX6_rate 17 = .ok (.iload_n 2, 1) := by decide +kernel
theorem dX6_rate_18 : decode cX6_rate 18 = .ok (.iload_n 3, 1) := by decide +kernel
theorem dX6_rate_19 : decode cX6_rate 19 = .ok (.iload 4, 2) := by decide +kernel
theorem dX6_rate_21 : decode cX6_rate 21 = .ok (.invokevirtual 59, 3) := by decide +kernel
theorem dX6_rate_24 : decode cX6_rate 24 = .ok (.invokevirtual 51, 3) := by decide +kernel
theorem dX6_rate_27 : decode cX6_rate 27 = .ok (.ireturn, 1) := by decide +kernel
set_option maxRecDepth 20000 in
theorem ggX6_unrate_X1_copyFrom : GoodIn wsX6_unrate wsX1_copyFrom := goodIn_r _ [7, 8, 9, 10, 11, 12, 13, 14, 15, 16, 17, 18, 19, 20, 21, 22, 23, 24, 25, 26, 27, 28, 29, 30, 31, 32, 33, 34, 35, 36, 37, 38, 39, 40, 41, 42, 43, 44, 45, 46, 47, 48, 49, 50, 51, 52, 53, 54, 55, 56, 57, 58, 108, 109, 110, 111, 112, 113, 114, 115, 116, 117, 118, 119, 120, 121, 122, 123, 124, 125, 126, 127, 128, 129, 130, 131, 132, 133, 134, 135, 136] (by decide +kernel) (by decide +kernel)
set_option maxRecDepth 20000 in
theorem gX6_unrate_X1_copyFrom : GoodIn wsX6_unrate (wsV RX6 43 RX1 yX1_copyFrom wsX1_copyFrom) := goodIn_app (goodIn_of _ (by decide +kernel)) ggX6_unrate_X1_copyFrom
set_option maxRecDepth 20000 in
theorem ggX6_unrate_X1_takeRate : GoodIn wsX6_unrate wsX1_takeRate := goodIn_r _ [62, 63, 8, 64, 65, 66, 67, 68, 69, 70, 71, 72, 73, 24, 74, 30, 75, 76, 77, 78, 26, 28, 29, 79, 80, 81, 82, 108, 109, 110, 111, 112, 113, 114, 115, 116, 117, 118, 119, 120] (by decide +kernel) (by decide +kernel)
set_option maxRecDepth 20000 in
theorem gX6_unrate_X1_takeRate : GoodIn wsX6_unrate (wsV RX6 62 RX1 yX1_takeRate wsX1_takeRate) := goodIn_app (goodIn_of _ (by decide +kernel)) ggX6_unrate_X1_takeRate
set_option maxRecDepth 20000 in
theorem ggX6_unrate_X6_recorded : GoodIn wsX6_unrate wsX6_recorded := goodIn_r _ [86, 87, 1, 88, 89, 90, 91, 92, 93, 94, 95, 96, 97, 98, 99, 100, 4, 5, 6, 7, 8, 9, 10, 11, 12, 13, 14, 15, 16, 17, 18, 19, 20, 21, 22, 23, 24, 25, 26, 27, 28, 29, 30, 31, 32, 33, 34, 35, 36, 37, 38, 39, 40, 41, 42, 43, 44, 45, 46, 47, 48, 49, 50, 51, 52, 53, 54, 55, 56, 57, 58, 101, 102, 103, 104, 105, 106, 107, 137, 138, 139, 108, 109, 110, 111, 112, 113, 114, 115, 116, 117, 118, 119, 120, 121, 122, 123, 124, 125, 126, 127, 128, 129, 130, 131, 132, 133, 134, 135, 136] (by decide +kernel) (by decide +kernel)
set_option maxRecDepth 20000 in
theorem gX6_unrate_X6_recorded : GoodIn wsX6_unrate (wsV RX6 51 RX6 yX6_recorded wsX6_recorded) := goodIn_app (goodIn_of _ (by decide +kernel)) ggX6_unrate_X6_recorded
theorem dX6_unrate_0 : decode cX6_unrate 0 = .ok (.aload_n 0, 1) := by decide +kernel
theorem dX6_unrate_1 : decode cX6_unrate 1 = .ok (.getfield 16, 3) := by decide +kernel
theorem dX6_unrate_4 : decode cX6_unrate 4 = .ok (.aload_n 0, 1) := by decide +kernel
theorem dX6_unrate_5 : decode cX6_unrate 5 = .ok (.getfield 10, 3) := by decide +kernel
theorem dX6_unrate_8 : decode cX6_unrate 8 = .ok (.invokevirtual 43, 3) := by decide +kernel
theorem dX6_unrate_11 : decode cX6_unrate 11 = .ok (.aload_n 0, 1) := by decide +kernel
theorem dX6_unrate_12 : decode cX6_unrate 12 = .ok (.aload_n 0, 1) := by decide +kernel
theorem dX6_unrate_13 : decode cX6_unrate 13 = .ok (.getfield 10, 3) := by decide +kernel
theorem dX6_unrate_16 : decode cX6_unrate 16 = .ok (.iload_n 1, 1) := by decide +kernel
theorem dX6_unrate_17 : decode cX6_unrate 17 = .ok (.iload_n 2, 1) := by decide +kernel
theorem dX6_unrate_18 : decode cX6_unrate 18 = .ok (.iload_n 3, 1) := by decide +kernel
theorem dX6_unrate_19 : decode cX6_unrate 19 = .ok (.invokevirtual 62, 3) := by decide +kernel
theorem dX6_unrate_22 : decode cX6_unrate 22 = .ok (.invokevirtual 51, 3) := by decide +kernel
theorem dX6_unrate_25 : decode cX6_unrate 25 = .ok (.ireturn, 1) := by decide +kernel
set_option maxRecDepth 20000 in
theorem ggX6_lend_X1_copyFrom : GoodIn wsX6_lend wsX1_copyFrom := goodIn_r _ [7, 8, 9, 10, 11, 12, 13, 14, 15, 16, 17, 18, 19, 20, 21, 22, 23, 24, 25, 26, 27, 28, 29, 30, 31, 32, 33, 34, 35, 36, 37, 38, 39, 40, 41, 42, 43, 44, 45, 46, 47, 48, 49, 50, 51, 52, 53, 54, 55, 56, 57, 58, 116, 117, 118, 119, 120, 121, 122, 123, 124, 125, 126, 127, 128, 129, 130, 131, 132, 133, 134, 135, 136, 137, 138, 139, 140, 141, 142, 143, 144] (by decide +kernel) (by decide +kernel)
set_option maxRecDepth 20000 in
theorem gX6_lend_X1_copyFrom : GoodIn wsX6_lend (wsV RX6 43 RX1 yX1_copyFrom wsX1_copyFrom) := goodIn_app (goodIn_of _ (by decide +kernel)) ggX6_lend_X1_copyFrom
set_option maxRecDepth 20000 in
theorem ggX6_lend_X1_lendStones : GoodIn wsX6_lend wsX1_lendStones := goodIn_r _ [62, 9, 63, 64, 10, 17, 65, 66, 67, 68, 6, 69, 16, 70, 71, 72, 73, 74, 75, 76, 77, 8, 78, 79, 80, 34, 81, 37, 82, 83, 84, 24, 85, 30, 26, 28, 29, 86, 87, 88, 50, 89, 52, 53, 55, 56, 57, 58, 116, 117, 118, 119, 120, 121, 122, 123, 124, 129, 130, 131, 132, 133, 134, 135, 136, 137, 138, 125, 126, 127, 128, 139, 140, 141, 142, 143, 144] (by decide +kernel) (by decide +kernel)
set_option maxRecDepth 20000 in
theorem gX6_lend_X1_lendStones : GoodIn wsX6_lend (wsV RX6 66 RX1 yX1_lendStones wsX1_lendStones) := goodIn_app (goodIn_of _ (by decide +kernel)) ggX6_lend_X1_lendStones
set_option maxRecDepth 20000 in
theorem ggX6_lend_X6_recorded : GoodIn wsX6_lend wsX6_recorded := goodIn_r _ [94, 95, 1, 96, 97, 98, 99, 100, 101, 102, 103, 104, 105, 106, 107, 108, 4, 5, 6, 7, 8, 9, 10, 11, 12, 13, 14, 15, 16, 17, 18, 19, 20, 21, 22, 23, 24, 25, 26, 27, 28, 29, 30, 31, 32, 33, 34, 35, 36, 37, 38, 39, 40, 41, 42, 43, 44, 45, 46, 47, 48, 49, 50, 51, 52, 53, 54, 55, 56, 57, 58, 109, 110, 111, 112, 113, 114, 115, 145, 146, 147, 116, 117, 118, 119, 120, 121, 122, 123, 124, 125, 126, 127, 128, 129, 130, 131, 132, 133, 134, 135, 136, 137, 138, 139, 140, 141, 142, 143, 144] (by decide +kernel) (by decide +kernel)
set_option maxRecDepth 20000 in
theorem gX6_lend_X6_recorded : GoodIn wsX6_lend (wsV RX6 51 RX6 yX6_recorded wsX6_recorded) := goodIn_app (goodIn_of _ (by decide +kernel)) ggX6_lend_X6_recorded
theorem dX6_lend_0 : decode cX6_lend 0 = .ok (.aload_n 0, 1) := by decide +kernel
theorem dX6_lend_1 : decode cX6_lend 1 = .ok (.getfield 16, 3) := by decide +kernel
theorem dX6_lend_4 : decode cX6_lend 4 = .ok (.aload_n 0, 1) := by decide +kernel
theorem dX6_lend_5 : decode cX6_lend 5 = .ok (.getfield 10, 3) := by decide +kernel
theorem dX6_lend_8 : decode cX6_lend 8 = .ok (.invokevirtual 43, 3) := by decide +kernel
theorem dX6_lend_11 : decode cX6_lend 11 = .ok (.aload_n 0, 1) := by decide +kernel
theorem dX6_lend_12 : decode cX6_lend 12 = .ok (.aload_n 0, 1) := by decide +kernel
theorem dX6_lend_13 : decode cX6_lend 13 = .ok (.getfield 10, 3) := by decide +kernel
theorem dX6_lend_16 : decode cX6_lend 16 = .ok (.iload_n 1, 1) := by decide +kernel
theorem dX6_lend_17 : decode cX6_lend 17 = .ok (.iload_n 2, 1) := by decide +kernel
theorem dX6_lend_18 : decode cX6_lend 18 = .ok (.iload_n 3, 1) := by decide +kernel
theorem dX6_lend_19 : decode cX6_lend 19 = .ok (.iload 4, 2) := by decide +kernel
theorem dX6_lend_21 : decode cX6_lend 21 = .ok (.invokevirtual 66, 3) := by decide +kernel
theorem dX6_lend_24 : decode cX6_lend 24 = .ok (.invokevirtual 51, 3) := by decide +kernel
theorem dX6_lend_27 : decode cX6_lend 27 = .ok (.ireturn, 1) := by decide +kernel
set_option maxRecDepth 20000 in
theorem ggX6_back_X1_copyFrom : GoodIn wsX6_back wsX1_copyFrom := goodIn_r _ [7, 8, 9, 10, 11, 12, 13, 14, 15, 16, 17, 18, 19, 20, 21, 22, 23, 24, 25, 26, 27, 28, 29, 30, 31, 32, 33, 34, 35, 36, 37, 38, 39, 40, 41, 42, 43, 44, 45, 46, 47, 48, 49, 50, 51, 52, 53, 54, 55, 56, 57, 58, 110, 111, 112, 113, 114, 115, 116, 117, 118, 119, 120, 121, 122, 123, 124, 125, 126, 127, 128, 129, 130, 131, 132, 133, 134, 135, 136, 137, 138] (by decide +kernel) (by decide +kernel)
set_option maxRecDepth 20000 in
theorem gX6_back_X1_copyFrom : GoodIn wsX6_back (wsV RX6 43 RX1 yX1_copyFrom wsX1_copyFrom) := goodIn_app (goodIn_of _ (by decide +kernel)) ggX6_back_X1_copyFrom
set_option maxRecDepth 20000 in
theorem ggX6_back_X1_giveBack : GoodIn wsX6_back wsX1_giveBack := goodIn_r _ [62, 9, 63, 64, 65, 66, 67, 34, 68, 36, 69, 70, 71, 72, 43, 73, 74, 75, 76, 77, 78, 79, 80, 81, 82, 83, 110, 111, 112, 113, 114, 115, 116, 117, 118, 123, 124, 125, 126, 127, 128, 129, 130, 131, 132] (by decide +kernel) (by decide +kernel)
set_option maxRecDepth 20000 in
theorem gX6_back_X1_giveBack : GoodIn wsX6_back (wsV RX6 69 RX1 yX1_giveBack wsX1_giveBack) := goodIn_app (goodIn_of _ (by decide +kernel)) ggX6_back_X1_giveBack
set_option maxRecDepth 20000 in
theorem ggX6_back_X6_recorded : GoodIn wsX6_back wsX6_recorded := goodIn_r _ [88, 89, 1, 90, 91, 92, 93, 94, 95, 96, 97, 98, 99, 100, 101, 102, 4, 5, 6, 7, 8, 9, 10, 11, 12, 13, 14, 15, 16, 17, 18, 19, 20, 21, 22, 23, 24, 25, 26, 27, 28, 29, 30, 31, 32, 33, 34, 35, 36, 37, 38, 39, 40, 41, 42, 43, 44, 45, 46, 47, 48, 49, 50, 51, 52, 53, 54, 55, 56, 57, 58, 103, 104, 105, 106, 107, 108, 109, 139, 140, 141, 110, 111, 112, 113, 114, 115, 116, 117, 118, 119, 120, 121, 122, 123, 124, 125, 126, 127, 128, 129, 130, 131, 132, 133, 134, 135, 136, 137, 138] (by decide +kernel) (by decide +kernel)
set_option maxRecDepth 20000 in
theorem gX6_back_X6_recorded : GoodIn wsX6_back (wsV RX6 51 RX6 yX6_recorded wsX6_recorded) := goodIn_app (goodIn_of _ (by decide +kernel)) ggX6_back_X6_recorded
theorem dX6_back_0 : decode cX6_back 0 = .ok (.aload_n 0, 1) := by decide +kernel
theorem dX6_back_1 : decode cX6_back 1 = .ok (.getfield 16, 3) := by decide +kernel
theorem dX6_back_4 : decode cX6_back 4 = .ok (.aload_n 0, 1) := by decide +kernel
theorem dX6_back_5 : decode cX6_back 5 = .ok (.getfield 10, 3) := by decide +kernel
theorem dX6_back_8 : decode cX6_back 8 = .ok (.invokevirtual 43, 3) := by decide +kernel
theorem dX6_back_11 : decode cX6_back 11 = .ok (.aload_n 0, 1) := by decide +kernel
theorem dX6_back_12 : decode cX6_back 12 = .ok (.aload_n 0, 1) := by decide +kernel
theorem dX6_back_13 : decode cX6_back 13 = .ok (.getfield 10, 3) := by decide +kernel
theorem dX6_back_16 : decode cX6_back 16 = .ok (.iload_n 1, 1) := by decide +kernel
theorem dX6_back_17 : decode cX6_back 17 = .ok (.invokevirtual 69, 3) := by decide +kernel
theorem dX6_back_20 : decode cX6_back 20 = .ok (.invokevirtual 51, 3) := by decide +kernel
theorem dX6_back_23 : decode cX6_back 23 = .ok (.ireturn, 1) := by decide +kernel
set_option maxRecDepth 20000 in
theorem ggX6_keep_X1_copyFrom : GoodIn wsX6_keep wsX1_copyFrom := goodIn_r _ [7, 8, 9, 10, 11, 12, 13, 14, 15, 16, 17, 18, 19, 20, 21, 22, 23, 24, 25, 26, 27, 28, 29, 30, 31, 32, 33, 34, 35, 36, 37, 38, 39, 40, 41, 42, 43, 44, 45, 46, 47, 48, 49, 50, 51, 52, 53, 54, 55, 56, 57, 58, 111, 112, 113, 114, 115, 116, 117, 118, 119, 120, 121, 122, 123, 124, 125, 126, 127, 128, 129, 130, 131, 132, 133, 134, 135, 136, 137, 138, 139] (by decide +kernel) (by decide +kernel)
set_option maxRecDepth 20000 in
theorem gX6_keep_X1_copyFrom : GoodIn wsX6_keep (wsV RX6 43 RX1 yX1_copyFrom wsX1_copyFrom) := goodIn_app (goodIn_of _ (by decide +kernel)) ggX6_keep_X1_copyFrom
set_option maxRecDepth 20000 in
theorem ggX6_keep_X1_keepStone : GoodIn wsX6_keep wsX1_keepStone := goodIn_r _ [62, 9, 63, 64, 65, 66, 67, 34, 68, 36, 69, 70, 71, 72, 43, 73, 74, 75, 6, 76, 10, 11, 77, 78, 79, 80, 16, 81, 82, 83, 50, 84, 52, 111, 112, 113, 114, 115, 116, 117, 118, 119, 124, 125, 126, 127, 128, 129, 130, 131, 132, 133, 134, 135, 136, 137, 138, 139] (by decide +kernel) (by decide +kernel)
set_option maxRecDepth 20000 in
theorem gX6_keep_X1_keepStone : GoodIn wsX6_keep (wsV RX6 72 RX1 yX1_keepStone wsX1_keepStone) := goodIn_app (goodIn_of _ (by decide +kernel)) ggX6_keep_X1_keepStone
set_option maxRecDepth 20000 in
theorem ggX6_keep_X6_recorded : GoodIn wsX6_keep wsX6_recorded := goodIn_r _ [89, 90, 1, 91, 92, 93, 94, 95, 96, 97, 98, 99, 100, 101, 102, 103, 4, 5, 6, 7, 8, 9, 10, 11, 12, 13, 14, 15, 16, 17, 18, 19, 20, 21, 22, 23, 24, 25, 26, 27, 28, 29, 30, 31, 32, 33, 34, 35, 36, 37, 38, 39, 40, 41, 42, 43, 44, 45, 46, 47, 48, 49, 50, 51, 52, 53, 54, 55, 56, 57, 58, 104, 105, 106, 107, 108, 109, 110, 140, 141, 142, 111, 112, 113, 114, 115, 116, 117, 118, 119, 120, 121, 122, 123, 124, 125, 126, 127, 128, 129, 130, 131, 132, 133, 134, 135, 136, 137, 138, 139] (by decide +kernel) (by decide +kernel)
set_option maxRecDepth 20000 in
theorem gX6_keep_X6_recorded : GoodIn wsX6_keep (wsV RX6 51 RX6 yX6_recorded wsX6_recorded) := goodIn_app (goodIn_of _ (by decide +kernel)) ggX6_keep_X6_recorded
theorem dX6_keep_0 : decode cX6_keep 0 = .ok (.aload_n 0, 1) := by decide +kernel
theorem dX6_keep_1 : decode cX6_keep 1 = .ok (.getfield 16, 3) := by decide +kernel
theorem dX6_keep_4 : decode cX6_keep 4 = .ok (.aload_n 0, 1) := by decide +kernel
theorem dX6_keep_5 : decode cX6_keep 5 = .ok (.getfield 10, 3) := by decide +kernel
theorem dX6_keep_8 : decode cX6_keep 8 = .ok (.invokevirtual 43, 3) := by decide +kernel
theorem dX6_keep_11 : decode cX6_keep 11 = .ok (.aload_n 0, 1) := by decide +kernel
theorem dX6_keep_12 : decode cX6_keep 12 = .ok (.aload_n 0, 1) := by decide +kernel
theorem dX6_keep_13 : decode cX6_keep 13 = .ok (.getfield 10, 3) := by decide +kernel
theorem dX6_keep_16 : decode cX6_keep 16 = .ok (.iload_n 1, 1) := by decide +kernel
theorem dX6_keep_17 : decode cX6_keep 17 = .ok (.invokevirtual 72, 3) := by decide +kernel
theorem dX6_keep_20 : decode cX6_keep 20 = .ok (.invokevirtual 51, 3) := by decide +kernel
theorem dX6_keep_23 : decode cX6_keep 23 = .ok (.ireturn, 1) := by decide +kernel
set_option maxRecDepth 20000 in
theorem ggX6_sell_X1_copyFrom : GoodIn wsX6_sell wsX1_copyFrom := goodIn_r _ [7, 8, 9, 10, 11, 12, 13, 14, 15, 16, 17, 18, 19, 20, 21, 22, 23, 24, 25, 26, 27, 28, 29, 30, 31, 32, 33, 34, 35, 36, 37, 38, 39, 40, 41, 42, 43, 44, 45, 46, 47, 48, 49, 50, 51, 52, 53, 54, 55, 56, 57, 58, 108, 109, 110, 111, 112, 113, 114, 115, 116, 117, 118, 119, 120, 121, 122, 123, 124, 125, 126, 127, 128, 129, 130, 131, 132, 133, 134, 135, 136] (by decide +kernel) (by decide +kernel)
set_option maxRecDepth 20000 in
theorem gX6_sell_X1_copyFrom : GoodIn wsX6_sell (wsV RX6 43 RX1 yX1_copyFrom wsX1_copyFrom) := goodIn_app (goodIn_of _ (by decide +kernel)) ggX6_sell_X1_copyFrom
set_option maxRecDepth 20000 in
theorem ggX6_sell_X1_sellStone : GoodIn wsX6_sell wsX1_sellStone := goodIn_r _ [62, 9, 63, 64, 11, 65, 66, 67, 68, 34, 69, 36, 70, 71, 72, 73, 43, 74, 75, 76, 77, 45, 78, 79, 80, 6, 81, 16, 108, 109, 110, 111, 112, 113, 114, 115, 116, 121, 122, 123, 124, 125, 126, 127, 128, 129, 130] (by decide +kernel) (by decide +kernel)
set_option maxRecDepth 20000 in
theorem gX6_sell_X1_sellStone : GoodIn wsX6_sell (wsV RX6 75 RX1 yX1_sellStone wsX1_sellStone) := goodIn_app (goodIn_of _ (by decide +kernel)) ggX6_sell_X1_sellStone
set_option maxRecDepth 20000 in
theorem ggX6_sell_X6_recorded : GoodIn wsX6_sell wsX6_recorded := goodIn_r _ [86, 87, 1, 88, 89, 90, 91, 92, 93, 94, 95, 96, 97, 98, 99, 100, 4, 5, 6, 7, 8, 9, 10, 11, 12, 13, 14, 15, 16, 17, 18, 19, 20, 21, 22, 23, 24, 25, 26, 27, 28, 29, 30, 31, 32, 33, 34, 35, 36, 37, 38, 39, 40, 41, 42, 43, 44, 45, 46, 47, 48, 49, 50, 51, 52, 53, 54, 55, 56, 57, 58, 101, 102, 103, 104, 105, 106, 107, 137, 138, 139, 108, 109, 110, 111, 112, 113, 114, 115, 116, 117, 118, 119, 120, 121, 122, 123, 124, 125, 126, 127, 128, 129, 130, 131, 132, 133, 134, 135, 136] (by decide +kernel) (by decide +kernel)
set_option maxRecDepth 20000 in
theorem gX6_sell_X6_recorded : GoodIn wsX6_sell (wsV RX6 51 RX6 yX6_recorded wsX6_recorded) := goodIn_app (goodIn_of _ (by decide +kernel)) ggX6_sell_X6_recorded
theorem dX6_sell_0 : decode cX6_sell 0 = .ok (.aload_n 0, 1) := by decide +kernel
theorem dX6_sell_1 : decode cX6_sell 1 = .ok (.getfield 16, 3) := by decide +kernel
theorem dX6_sell_4 : decode cX6_sell 4 = .ok (.aload_n 0, 1) := by decide +kernel
theorem dX6_sell_5 : decode cX6_sell 5 = .ok (.getfield 10, 3) := by decide +kernel
theorem dX6_sell_8 : decode cX6_sell 8 = .ok (.invokevirtual 43, 3) := by decide +kernel
theorem dX6_sell_11 : decode cX6_sell 11 = .ok (.aload_n 0, 1) := by decide +kernel
theorem dX6_sell_12 : decode cX6_sell 12 = .ok (.aload_n 0, 1) := by decide +kernel
theorem dX6_sell_13 : decode cX6_sell 13 = .ok (.getfield 10, 3) := by decide +kernel
theorem dX6_sell_16 : decode cX6_sell 16 = .ok (.iload_n 1, 1) := by decide +kernel
theorem dX6_sell_17 : decode cX6_sell 17 = .ok (.iload_n 2, 1) := by decide +kernel
theorem dX6_sell_18 : decode cX6_sell 18 = .ok (.invokevirtual 75, 3) := by decide +kernel
theorem dX6_sell_21 : decode cX6_sell 21 = .ok (.invokevirtual 51, 3) := by decide +kernel
theorem dX6_sell_24 : decode cX6_sell 24 = .ok (.ireturn, 1) := by decide +kernel
set_option maxRecDepth 20000 in
theorem ggX6_grade_X1_copyFrom : GoodIn wsX6_grade wsX1_copyFrom := goodIn_r _ [7, 8, 9, 10, 11, 12, 13, 14, 15, 16, 17, 18, 19, 20, 21, 22, 23, 24, 25, 26, 27, 28, 29, 30, 31, 32, 33, 34, 35, 36, 37, 38, 39, 40, 41, 42, 43, 44, 45, 46, 47, 48, 49, 50, 51, 52, 53, 54, 55, 56, 57, 58, 117, 118, 119, 120, 121, 122, 123, 124, 125, 126, 127, 128, 129, 130, 131, 132, 133, 134, 135, 136, 137, 138, 139, 140, 141, 142, 143, 144, 145] (by decide +kernel) (by decide +kernel)
set_option maxRecDepth 20000 in
theorem gX6_grade_X1_copyFrom : GoodIn wsX6_grade (wsV RX6 43 RX1 yX1_copyFrom wsX1_copyFrom) := goodIn_app (goodIn_of _ (by decide +kernel)) ggX6_grade_X1_copyFrom
set_option maxRecDepth 20000 in
theorem ggX6_grade_X1_regrade : GoodIn wsX6_grade wsX1_regrade := goodIn_r _ [62, 9, 63, 64, 65, 66, 67, 34, 68, 36, 69, 70, 71, 72, 73, 74, 75, 45, 76, 77, 78, 6, 79, 8, 80, 81, 82, 83, 37, 84, 85, 86, 24, 87, 30, 26, 28, 29, 88, 89, 90, 91, 43, 117, 118, 119, 120, 121, 122, 123, 124, 125, 130, 131, 132, 133, 134, 135, 136, 137, 138, 139, 126, 127, 128, 129] (by decide +kernel) (by decide +kernel)
set_option maxRecDepth 20000 in
theorem gX6_grade_X1_regrade : GoodIn wsX6_grade (wsV RX6 79 RX1 yX1_regrade wsX1_regrade) := goodIn_app (goodIn_of _ (by decide +kernel)) ggX6_grade_X1_regrade
set_option maxRecDepth 20000 in
theorem ggX6_grade_X6_recorded : GoodIn wsX6_grade wsX6_recorded := goodIn_r _ [95, 96, 1, 97, 98, 99, 100, 101, 102, 103, 104, 105, 106, 107, 108, 109, 4, 5, 6, 7, 8, 9, 10, 11, 12, 13, 14, 15, 16, 17, 18, 19, 20, 21, 22, 23, 24, 25, 26, 27, 28, 29, 30, 31, 32, 33, 34, 35, 36, 37, 38, 39, 40, 41, 42, 43, 44, 45, 46, 47, 48, 49, 50, 51, 52, 53, 54, 55, 56, 57, 58, 110, 111, 112, 113, 114, 115, 116, 146, 147, 148, 117, 118, 119, 120, 121, 122, 123, 124, 125, 126, 127, 128, 129, 130, 131, 132, 133, 134, 135, 136, 137, 138, 139, 140, 141, 142, 143, 144, 145] (by decide +kernel) (by decide +kernel)
set_option maxRecDepth 20000 in
theorem gX6_grade_X6_recorded : GoodIn wsX6_grade (wsV RX6 51 RX6 yX6_recorded wsX6_recorded) := goodIn_app (goodIn_of _ (by decide +kernel)) ggX6_grade_X6_recorded
theorem dX6_grade_0 : decode cX6_grade 0 = .ok (.aload_n 0, 1) := by decide +kernel
theorem dX6_grade_1 : decode cX6_grade 1 = .ok (.getfield 16, 3) := by decide +kernel
theorem dX6_grade_4 : decode cX6_grade 4 = .ok (.aload_n 0, 1) := by decide +kernel
theorem dX6_grade_5 : decode cX6_grade 5 = .ok (.getfield 10, 3) := by decide +kernel
theorem dX6_grade_8 : decode cX6_grade 8 = .ok (.invokevirtual 43, 3) := by decide +kernel
theorem dX6_grade_11 : decode cX6_grade 11 = .ok (.aload_n 0, 1) := by decide +kernel
theorem dX6_grade_12 : decode cX6_grade 12 = .ok (.aload_n 0, 1) := by decide +kernel
theorem dX6_grade_13 : decode cX6_grade 13 = .ok (.getfield 10, 3) := by decide +kernel
theorem dX6_grade_16 : decode cX6_grade 16 = .ok (.iload_n 1, 1) := by decide +kernel
theorem dX6_grade_17 : decode cX6_grade 17 = .ok (.iload_n 2, 1) := by decide +kernel
theorem dX6_grade_18 : decode cX6_grade 18 = .ok (.iload_n 3, 1) := by decide +kernel
theorem dX6_grade_19 : decode cX6_grade 19 = .ok (.invokevirtual 79, 3) := by decide +kernel
theorem dX6_grade_22 : decode cX6_grade 22 = .ok (.invokevirtual 51, 3) := by decide +kernel
theorem dX6_grade_25 : decode cX6_grade 25 = .ok (.ireturn, 1) := by decide +kernel
set_option maxRecDepth 20000 in
theorem ggX6_pause_X1_copyFrom : GoodIn wsX6_pause wsX1_copyFrom := goodIn_r _ [7, 8, 9, 10, 11, 12, 13, 14, 15, 16, 17, 18, 19, 20, 21, 22, 23, 24, 25, 26, 27, 28, 29, 30, 31, 32, 33, 34, 35, 36, 37, 38, 39, 40, 41, 42, 43, 44, 45, 46, 47, 48, 49, 50, 51, 52, 53, 54, 55, 56, 57, 58, 107, 108, 109, 110, 111, 112, 113, 114, 115, 116, 117, 118, 119, 120, 121, 122, 123, 124, 125, 126, 127, 128, 129, 130, 131, 132, 133, 134, 135] (by decide +kernel) (by decide +kernel)
set_option maxRecDepth 20000 in
theorem gX6_pause_X1_copyFrom : GoodIn wsX6_pause (wsV RX6 43 RX1 yX1_copyFrom wsX1_copyFrom) := goodIn_app (goodIn_of _ (by decide +kernel)) ggX6_pause_X1_copyFrom
set_option maxRecDepth 20000 in
theorem ggX6_pause_X1_passDays : GoodIn wsX6_pause wsX1_passDays := goodIn_r _ [62, 63, 17, 64, 20, 65, 66, 67, 6, 68, 10, 18, 9, 19, 69, 70, 71, 72, 11, 73, 74, 75, 76, 16, 77, 78, 79, 50, 80, 52, 107, 108, 109, 110, 111, 112, 113, 114, 115, 130, 131, 132, 133, 134, 135, 120, 121, 122, 123, 124, 125, 126, 127, 128, 129] (by decide +kernel) (by decide +kernel)
set_option maxRecDepth 20000 in
theorem gX6_pause_X1_passDays : GoodIn wsX6_pause (wsV RX6 82 RX1 yX1_passDays wsX1_passDays) := goodIn_app (goodIn_of _ (by decide +kernel)) ggX6_pause_X1_passDays
set_option maxRecDepth 20000 in
theorem ggX6_pause_X6_recorded : GoodIn wsX6_pause wsX6_recorded := goodIn_r _ [85, 86, 1, 87, 88, 89, 90, 91, 92, 93, 94, 95, 96, 97, 98, 99, 4, 5, 6, 7, 8, 9, 10, 11, 12, 13, 14, 15, 16, 17, 18, 19, 20, 21, 22, 23, 24, 25, 26, 27, 28, 29, 30, 31, 32, 33, 34, 35, 36, 37, 38, 39, 40, 41, 42, 43, 44, 45, 46, 47, 48, 49, 50, 51, 52, 53, 54, 55, 56, 57, 58, 100, 101, 102, 103, 104, 105, 106, 136, 137, 138, 107, 108, 109, 110, 111, 112, 113, 114, 115, 116, 117, 118, 119, 120, 121, 122, 123, 124, 125, 126, 127, 128, 129, 130, 131, 132, 133, 134, 135] (by decide +kernel) (by decide +kernel)
set_option maxRecDepth 20000 in
theorem gX6_pause_X6_recorded : GoodIn wsX6_pause (wsV RX6 51 RX6 yX6_recorded wsX6_recorded) := goodIn_app (goodIn_of _ (by decide +kernel)) ggX6_pause_X6_recorded
theorem dX6_pause_0 : decode cX6_pause 0 = .ok (.aload_n 0, 1) := by decide +kernel
theorem dX6_pause_1 : decode cX6_pause 1 = .ok (.getfield 16, 3) := by decide +kernel
theorem dX6_pause_4 : decode cX6_pause 4 = .ok (.aload_n 0, 1) := by decide +kernel
theorem dX6_pause_5 : decode cX6_pause 5 = .ok (.getfield 10, 3) := by decide +kernel
theorem dX6_pause_8 : decode cX6_pause 8 = .ok (.invokevirtual 43, 3) := by decide +kernel
theorem dX6_pause_11 : decode cX6_pause 11 = .ok (.aload_n 0, 1) := by decide +kernel
theorem dX6_pause_12 : decode cX6_pause 12 = .ok (.aload_n 0, 1) := by decide +kernel
theorem dX6_pause_13 : decode cX6_pause 13 = .ok (.getfield 10, 3) := by decide +kernel
theorem dX6_pause_16 : decode cX6_pause 16 = .ok (.iload_n 1, 1) := by decide +kernel
theorem dX6_pause_17 : decode cX6_pause 17 = .ok (.invokevirtual 82, 3) := by decide +kernel
theorem dX6_pause_20 : decode cX6_pause 20 = .ok (.invokevirtual 51, 3) := by decide +kernel
theorem dX6_pause_23 : decode cX6_pause 23 = .ok (.ireturn, 1) := by decide +kernel
set_option maxRecDepth 20000 in
theorem ggX6_set_X1_copyFrom : GoodIn wsX6_set wsX1_copyFrom := goodIn_r _ [7, 8, 9, 10, 11, 12, 13, 14, 15, 16, 17, 18, 19, 20, 21, 22, 23, 24, 25, 26, 27, 28, 29, 30, 31, 32, 33, 34, 35, 36, 37, 38, 39, 40, 41, 42, 43, 44, 45, 46, 47, 48, 49, 50, 51, 52, 53, 54, 55, 56, 57, 58, 90, 91, 92, 93, 94, 95, 96, 97, 98, 99, 100, 101, 102, 103, 104, 105, 106, 107, 108, 109, 110, 111, 112, 113, 114, 115, 116, 117, 118] (by decide +kernel) (by decide +kernel)
set_option maxRecDepth 20000 in
theorem gX6_set_X1_copyFrom : GoodIn wsX6_set (wsV RX6 43 RX1 yX1_copyFrom wsX1_copyFrom) := goodIn_app (goodIn_of _ (by decide +kernel)) ggX6_set_X1_copyFrom
set_option maxRecDepth 20000 in
theorem ggX6_set_X1_putSetting : GoodIn wsX6_set wsX1_putSetting := goodIn_r _ [62, 63, 18, 19, 90, 91, 92, 93, 94, 95, 96, 97, 98] (by decide +kernel) (by decide +kernel)
set_option maxRecDepth 20000 in
theorem gX6_set_X1_putSetting : GoodIn wsX6_set (wsV RX6 85 RX1 yX1_putSetting wsX1_putSetting) := goodIn_app (goodIn_of _ (by decide +kernel)) ggX6_set_X1_putSetting
set_option maxRecDepth 20000 in
theorem ggX6_set_X6_recorded : GoodIn wsX6_set wsX6_recorded := goodIn_r _ [68, 69, 1, 70, 71, 72, 73, 74, 75, 76, 77, 78, 79, 80, 81, 82, 4, 5, 6, 7, 8, 9, 10, 11, 12, 13, 14, 15, 16, 17, 18, 19, 20, 21, 22, 23, 24, 25, 26, 27, 28, 29, 30, 31, 32, 33, 34, 35, 36, 37, 38, 39, 40, 41, 42, 43, 44, 45, 46, 47, 48, 49, 50, 51, 52, 53, 54, 55, 56, 57, 58, 83, 84, 85, 86, 87, 88, 89, 119, 120, 121, 90, 91, 92, 93, 94, 95, 96, 97, 98, 99, 100, 101, 102, 103, 104, 105, 106, 107, 108, 109, 110, 111, 112, 113, 114, 115, 116, 117, 118] (by decide +kernel) (by decide +kernel)
set_option maxRecDepth 20000 in
theorem gX6_set_X6_recorded : GoodIn wsX6_set (wsV RX6 51 RX6 yX6_recorded wsX6_recorded) := goodIn_app (goodIn_of _ (by decide +kernel)) ggX6_set_X6_recorded
theorem dX6_set_0 : decode cX6_set 0 = .ok (.aload_n 0, 1) := by decide +kernel
theorem dX6_set_1 : decode cX6_set 1 = .ok (.getfield 16, 3) := by decide +kernel
theorem dX6_set_4 : decode cX6_set 4 = .ok (.aload_n 0, 1) := by decide +kernel
theorem dX6_set_5 : decode cX6_set 5 = .ok (.getfield 10, 3) := by decide +kernel
theorem dX6_set_8 : decode cX6_set 8 = .ok (.invokevirtual 43, 3) := by decide +kernel
theorem dX6_set_11 : decode cX6_set 11 = .ok (.aload_n 0, 1) := by decide +kernel
theorem dX6_set_12 : decode cX6_set 12 = .ok (.aload_n 0, 1) := by decide +kernel
theorem dX6_set_13 : decode cX6_set 13 = .ok (.getfield 10, 3) := by decide +kernel
theorem dX6_set_16 : decode cX6_set 16 = .ok (.iload_n 1, 1) := by decide +kernel
theorem dX6_set_17 : decode cX6_set 17 = .ok (.iload_n 2, 1) := by decide +kernel
theorem dX6_set_18 : decode cX6_set 18 = .ok (.invokevirtual 85, 3) := by decide +kernel
theorem dX6_set_21 : decode cX6_set 21 = .ok (.invokevirtual 51, 3) := by decide +kernel
theorem dX6_set_24 : decode cX6_set 24 = .ok (.ireturn, 1) := by decide +kernel
set_option maxRecDepth 20000 in
theorem ggX6_stoneOf_X5_has : GoodIn wsX6_stoneOf wsX5_has := goodIn_r _ [7, 8, 62, 63, 64, 65, 66, 67, 68, 69, 70, 71] (by decide +kernel) (by decide +kernel)
set_option maxRecDepth 20000 in
theorem gX6_stoneOf_X5_has : GoodIn wsX6_stoneOf (wsV RX6 92 RX5 yX5_has wsX5_has) := goodIn_app (goodIn_of _ (by decide +kernel)) ggX6_stoneOf_X5_has
set_option maxRecDepth 20000 in
theorem ggX6_stoneOf_X1_tellStone : GoodIn wsX6_stoneOf wsX1_tellStone := goodIn_r _ [13, 14, 15, 16, 17, 18, 19, 6, 20, 21, 22, 23, 24, 25, 26, 27, 28, 29, 12, 30, 31, 32, 33, 34, 35, 36, 37, 38, 39, 40, 41, 42, 43, 44, 45, 53, 54, 55, 56, 57, 58, 59, 60, 61, 62, 63, 64, 65, 66, 67, 68, 69, 70, 71, 72, 73, 74, 75] (by decide +kernel) (by decide +kernel)
set_option maxRecDepth 20000 in
theorem gX6_stoneOf_X1_tellStone : GoodIn wsX6_stoneOf (wsV RX6 99 RX1 yX1_tellStone wsX1_tellStone) := goodIn_app (goodIn_of _ (by decide +kernel)) ggX6_stoneOf_X1_tellStone
theorem dX6_stoneOf_0 : decode cX6_stoneOf 0 = .ok (.aload_n 0, 1) := by decide +kernel
theorem dX6_stoneOf_1 : decode cX6_stoneOf 1 = .ok (.getfield 10, 3) := by decide +kernel
theorem dX6_stoneOf_4 : decode cX6_stoneOf 4 = .ok (.getfield 88, 3) := by decide +kernel
theorem dX6_stoneOf_7 : decode cX6_stoneOf 7 = .ok (.iload_n 1, 1) := by decide +kernel
theorem dX6_stoneOf_8 : decode cX6_stoneOf 8 = .ok (.invokevirtual 92, 3) := by decide +kernel
theorem dX6_stoneOf_11 : decode cX6_stoneOf 11 = .ok (.ifCond .ne 6, 3) := by decide +kernel
theorem dX6_stoneOf_14 : decode cX6_stoneOf 14 = .ok (.ldc 98, 2) := by decide +kernel
theorem dX6_stoneOf_16 : decode cX6_stoneOf 16 = .ok (.ireturn, 1) := by decide +kernel
theorem dX6_stoneOf_17 : decode cX6_stoneOf 17 = .ok (.aload_n 0, 1) := by decide +kernel
theorem dX6_stoneOf_18 : decode cX6_stoneOf 18 = .ok (.getfield 10, 3) := by decide +kernel
theorem dX6_stoneOf_21 : decode cX6_stoneOf 21 = .ok (.iload_n 1, 1) := by decide +kernel
theorem dX6_stoneOf_22 : decode cX6_stoneOf 22 = .ok (.iload_n 2, 1) := by decide +kernel
theorem dX6_stoneOf_23 : decode cX6_stoneOf 23 = .ok (.invokevirtual 99, 3) := by decide +kernel
theorem dX6_stoneOf_26 : decode cX6_stoneOf 26 = .ok (.ireturn, 1) := by decide +kernel
set_option maxRecDepth 20000 in
theorem ggX6_dealerOf_X1_hasDealer : GoodIn wsX6_dealerOf wsX1_hasDealer := goodIn_r _ [7, 8, 63, 64, 65, 66, 67, 68, 69, 70, 71] (by decide +kernel) (by decide +kernel)
set_option maxRecDepth 20000 in
theorem gX6_dealerOf_X1_hasDealer : GoodIn wsX6_dealerOf (wsV RX6 102 RX1 yX1_hasDealer wsX1_hasDealer) := goodIn_app (goodIn_of _ (by decide +kernel)) ggX6_dealerOf_X1_hasDealer
set_option maxRecDepth 20000 in
theorem ggX6_dealerOf_X1_tellDealer : GoodIn wsX6_dealerOf wsX1_tellDealer := goodIn_r _ [12, 13, 14, 15, 16, 17, 18, 19, 20, 21, 22, 23, 24, 25, 6, 26, 27, 28, 29, 30, 31, 32, 33, 34, 35, 36, 37, 38, 39, 40, 41, 42, 43, 44, 45, 46, 47, 48, 49, 50, 51, 52, 53, 54, 55, 63, 64, 65, 66, 67, 68, 69, 70, 71, 72, 73, 74, 75, 76, 77, 78, 79, 80, 81, 82, 83, 84, 85] (by decide +kernel) (by decide +kernel)
set_option maxRecDepth 20000 in
theorem gX6_dealerOf_X1_tellDealer : GoodIn wsX6_dealerOf (wsV RX6 105 RX1 yX1_tellDealer wsX1_tellDealer) := goodIn_app (goodIn_of _ (by decide +kernel)) ggX6_dealerOf_X1_tellDealer
theorem dX6_dealerOf_0 : decode cX6_dealerOf 0 = .ok (.aload_n 0, 1) := by decide +kernel
theorem dX6_dealerOf_1 : decode cX6_dealerOf 1 = .ok (.getfield 10, 3) := by decide +kernel
theorem dX6_dealerOf_4 : decode cX6_dealerOf 4 = .ok (.iload_n 1, 1) := by decide +kernel
theorem dX6_dealerOf_5 : decode cX6_dealerOf 5 = .ok (.invokevirtual 102, 3) := by decide +kernel
theorem dX6_dealerOf_8 : decode cX6_dealerOf 8 = .ok (.ifCond .ne 6, 3) := by decide +kernel
theorem dX6_dealerOf_11 : decode cX6_dealerOf 11 = .ok (.ldc 98, 2) := by decide +kernel
theorem dX6_dealerOf_13 : decode cX6_dealerOf 13 = .ok (.ireturn, 1) := by decide +kernel
theorem dX6_dealerOf_14 : decode cX6_dealerOf 14 = .ok (.aload_n 0, 1) := by decide +kernel
theorem dX6_dealerOf_15 : decode cX6_dealerOf 15 = .ok (.getfield 10, 3) := by decide +kernel
theorem dX6_dealerOf_18 : decode cX6_dealerOf 18 = .ok (.iload_n 1, 1) := by decide +kernel
theorem dX6_dealerOf_19 : decode cX6_dealerOf 19 = .ok (.iload_n 2, 1) := by decide +kernel
theorem dX6_dealerOf_20 : decode cX6_dealerOf 20 = .ok (.invokevirtual 105, 3) := by decide +kernel
theorem dX6_dealerOf_23 : decode cX6_dealerOf 23 = .ok (.ireturn, 1) := by decide +kernel
set_option maxRecDepth 20000 in
theorem ggX6_memoOf_X2_has : GoodIn wsX6_memoOf wsX2_has := goodIn_r _ [7, 8, 48, 49, 50, 51, 52, 53] (by decide +kernel) (by decide +kernel)
set_option maxRecDepth 20000 in
theorem gX6_memoOf_X2_has : GoodIn wsX6_memoOf (wsV RX6 112 RX2 yX2_has wsX2_has) := goodIn_app (goodIn_of _ (by decide +kernel)) ggX6_memoOf_X2_has
set_option maxRecDepth 20000 in
theorem ggX6_memoOf_X1_tellMemo : GoodIn wsX6_memoOf wsX1_tellMemo := goodIn_r _ [13, 14, 15, 16, 17, 18, 19, 20, 21, 22, 23, 24, 25, 26, 27, 28, 29, 30, 12, 31, 39, 40, 41, 42, 43, 44, 45, 46, 47, 48, 49, 50, 51, 52, 53, 54, 55, 56, 57, 58, 59, 60, 61, 62, 63] (by decide +kernel) (by decide +kernel)
set_option maxRecDepth 20000 in
theorem gX6_memoOf_X1_tellMemo : GoodIn wsX6_memoOf (wsV RX6 115 RX1 yX1_tellMemo wsX1_tellMemo) := goodIn_app (goodIn_of _ (by decide +kernel)) ggX6_memoOf_X1_tellMemo
theorem dX6_memoOf_0 : decode cX6_memoOf 0 = .ok (.aload_n 0, 1) := by decide +kernel
theorem dX6_memoOf_1 : decode cX6_memoOf 1 = .ok (.getfield 10, 3) := by decide +kernel
theorem dX6_memoOf_4 : decode cX6_memoOf 4 = .ok (.getfield 108, 3) := by decide +kernel
theorem dX6_memoOf_7 : decode cX6_memoOf 7 = .ok (.iload_n 1, 1) := by decide +kernel
theorem dX6_memoOf_8 : decode cX6_memoOf 8 = .ok (.invokevirtual 112, 3) := by decide +kernel
theorem dX6_memoOf_11 : decode cX6_memoOf 11 = .ok (.ifCond .ne 6, 3) := by decide +kernel
theorem dX6_memoOf_14 : decode cX6_memoOf 14 = .ok (.ldc 98, 2) := by decide +kernel
theorem dX6_memoOf_16 : decode cX6_memoOf 16 = .ok (.ireturn, 1) := by decide +kernel
theorem dX6_memoOf_17 : decode cX6_memoOf 17 = .ok (.aload_n 0, 1) := by decide +kernel
theorem dX6_memoOf_18 : decode cX6_memoOf 18 = .ok (.getfield 10, 3) := by decide +kernel
theorem dX6_memoOf_21 : decode cX6_memoOf 21 = .ok (.iload_n 1, 1) := by decide +kernel
theorem dX6_memoOf_22 : decode cX6_memoOf 22 = .ok (.iload_n 2, 1) := by decide +kernel
theorem dX6_memoOf_23 : decode cX6_memoOf 23 = .ok (.invokevirtual 115, 3) := by decide +kernel
theorem dX6_memoOf_26 : decode cX6_memoOf 26 = .ok (.ireturn, 1) := by decide +kernel
set_option maxRecDepth 20000 in
theorem ggX6_rateOf_X6_isGrade : GoodIn wsX6_rateOf wsX6_isGrade := goodIn_r _ [7, 8, 9, 6, 10] (by decide +kernel) (by decide +kernel)
set_option maxRecDepth 20000 in
theorem gX6_rateOf_X6_isGrade : GoodIn wsX6_rateOf (va_wsS RX6 118 yX6_isGrade wsX6_isGrade) := goodIn_app (goodIn_of _ (by decide +kernel)) ggX6_rateOf_X6_isGrade
set_option maxRecDepth 20000 in
theorem ggX6_rateOf_X3_ownRate : GoodIn wsX6_rateOf wsX3_ownRate := goodIn_r _ [15, 16, 17, 18, 19, 14, 20, 21, 22, 23, 44, 45, 46, 47] (by decide +kernel) (by decide +kernel)
set_option maxRecDepth 20000 in
theorem gX6_rateOf_X3_ownRate : GoodIn wsX6_rateOf (wsV RX6 126 RX3 yX3_ownRate wsX3_ownRate) := goodIn_app (goodIn_of _ (by decide +kernel)) ggX6_rateOf_X3_ownRate
set_option maxRecDepth 20000 in
theorem ggX6_rateOf_X3_rateFor : GoodIn wsX6_rateOf wsX3_rateFor := goodIn_r _ [27, 16, 21, 22, 23, 44, 45, 46, 47] (by decide +kernel) (by decide +kernel)
set_option maxRecDepth 20000 in
theorem gX6_rateOf_X3_rateFor : GoodIn wsX6_rateOf (wsV RX6 131 RX3 yX3_rateFor wsX3_rateFor) := goodIn_app (goodIn_of _ (by decide +kernel)) ggX6_rateOf_X3_rateFor
theorem dX6_rateOf_0 : decode cX6_rateOf 0 = .ok (.iload_n 1, 1) := by decide +kernel
theorem dX6_rateOf_1 : decode cX6_rateOf 1 = .ok (.iload_n 2, 1) := by decide +kernel
theorem dX6_rateOf_2 : decode cX6_rateOf 2 = .ok (.iload_n 3, 1) := by decide +kernel
theorem dX6_rateOf_3 : decode cX6_rateOf 3 = .ok (.invokestatic 118, 3) := by decide +kernel
theorem dX6_rateOf_6 : decode cX6_rateOf 6 = .ok (.ifCond .eq 14, 3) := by decide +kernel
theorem dX6_rateOf_9 : decode cX6_rateOf 9 = .ok (.iload 4, 2) := by decide +kernel
theorem dX6_rateOf_11 : decode cX6_rateOf 11 = .ok (.ifCond .lt 9, 3) := by decide +kernel
theorem dX6_rateOf_14 : decode cX6_rateOf 14 = .ok (.iload 4, 2) := by decide +kernel
theorem dX6_rateOf_16 : decode cX6_rateOf 16 = .ok (.iconst 1, 1) := by decide +kernel
theorem dX6_rateOf_17 : decode cX6_rateOf 17 = .ok (.if_icmp .le 6, 3) := by decide +kernel
theorem dX6_rateOf_20 : decode cX6_rateOf 20 = .ok (.ldc 98, 2) := by decide +kernel
theorem dX6_rateOf_22 : decode cX6_rateOf 22 = .ok (.ireturn, 1) := by decide +kernel
theorem dX6_rateOf_23 : decode cX6_rateOf 23 = .ok (.iload 4, 2) := by decide +kernel
theorem dX6_rateOf_25 : decode cX6_rateOf 25 = .ok (.iconst 1, 1) := by decide +kernel
theorem dX6_rateOf_26 : decode cX6_rateOf 26 = .ok (.if_icmp .ne 19, 3) := by decide +kernel
theorem dX6_rateOf_29 : decode cX6_rateOf 29 = .ok (.aload_n 0, 1) := by decide +kernel
theorem dX6_rateOf_30 : decode cX6_rateOf 30 = .ok (.getfield 10, 3) := by decide +kernel
theorem dX6_rateOf_33 : decode cX6_rateOf 33 = .ok (.getfield 122, 3) := by decide +kernel
theorem dX6_rateOf_36 : decode cX6_rateOf 36 = .ok (.iload_n 1, 1) := by decide +kernel
theorem dX6_rateOf_37 : decode cX6_rateOf 37 = .ok (.iload_n 2, 1) := by decide +kernel
theorem dX6_rateOf_38 : decode cX6_rateOf 38 = .ok (.iload_n 3, 1) := by decide +kernel
theorem dX6_rateOf_39 : decode cX6_rateOf 39 = .ok (.invokevirtual 126, 3) := by decide +kernel
theorem dX6_rateOf_42 : decode cX6_rateOf 42 = .ok (.goto 16, 3) := by decide +kernel
theorem dX6_rateOf_45 : decode cX6_rateOf 45 = .ok (.aload_n 0, 1) := by decide +kernel
theorem dX6_rateOf_46 : decode cX6_rateOf 46 = .ok (.getfield 10, 3) := by decide +kernel
theorem dX6_rateOf_49 : decode cX6_rateOf 49 = .ok (.getfield 122, 3) := by decide +kernel
theorem dX6_rateOf_52 : decode cX6_rateOf 52 = .ok (.iload_n 1, 1) := by decide +kernel
theorem dX6_rateOf_53 : decode cX6_rateOf 53 = .ok (.iload_n 2, 1) := by decide +kernel
theorem dX6_rateOf_54 : decode cX6_rateOf 54 = .ok (.iload_n 3, 1) := by decide +kernel
theorem dX6_rateOf_55 : decode cX6_rateOf 55 = .ok (.invokevirtual 131, 3) := by decide +kernel
theorem dX6_rateOf_58 : decode cX6_rateOf 58 = .ok (.istore 5, 2) := by decide +kernel
theorem dX6_rateOf_60 : decode cX6_rateOf 60 = .ok (.iload 5, 2) := by decide +kernel
theorem dX6_rateOf_62 : decode cX6_rateOf 62 = .ok (.ifCond .ne 8, 3) := by decide +kernel
theorem dX6_rateOf_65 : decode cX6_rateOf 65 = .ok (.ldc 134, 2) := by decide +kernel
theorem dX6_rateOf_67 : decode cX6_rateOf 67 = .ok (.goto 5, 3) := by decide +kernel
theorem dX6_rateOf_70 : decode cX6_rateOf 70 = .ok (.iload 5, 2) := by decide +kernel
theorem dX6_rateOf_72 : decode cX6_rateOf 72 = .ok (.ireturn, 1) := by decide +kernel
set_option maxRecDepth 20000 in
theorem ggX6_count_X1_tellNumber : GoodIn wsX6_count wsX1_tellNumber := goodIn_r _ [9, 10, 11, 12, 13, 14, 15, 16, 17, 18, 19, 20, 21, 22, 23, 24, 25, 26, 27, 28, 29, 30, 31, 32, 33, 34, 35, 36, 37, 38, 39, 40, 41, 42, 8, 43, 44, 45, 46, 47, 48, 49, 50, 51, 52, 53, 54, 55, 56, 57, 58, 59, 60, 61, 62, 63, 64, 65, 66, 85, 86, 87, 88, 89, 90, 91, 92, 93, 94, 95, 96, 97, 98, 99, 100, 101, 102, 103, 104, 105, 106, 107, 108, 109, 110, 111, 112, 113] (by decide +kernel) (by decide +kernel)
set_option maxRecDepth 20000 in
theorem gX6_count_X1_tellNumber : GoodIn wsX6_count (wsV RX6 142 RX1 yX1_tellNumber wsX1_tellNumber) := goodIn_app (goodIn_of _ (by decide +kernel)) ggX6_count_X1_tellNumber
theorem dX6_count_0 : decode cX6_count 0 = .ok (.iload_n 1, 1) := by decide +kernel
theorem dX6_count_1 : decode cX6_count 1 = .ok (.tableswitch 56 11 13 #[27, 35, 43], 27) := by decide +kernel
theorem dX6_count_28 : decode cX6_count 28 = .ok (.aload_n 0, 1) := by decide +kernel
theorem dX6_count_29 : decode cX6_count 29 = .ok (.getfield 28, 3) := by decide +kernel
theorem dX6_count_32 : decode cX6_count 32 = .ok (.getfield 135, 3) := by decide +kernel
theorem dX6_count_35 : decode cX6_count 35 = .ok (.ireturn, 1) := by decide +kernel
theorem dX6_count_36 : decode cX6_count 36 = .ok (.aload_n 0, 1) := by decide +kernel
theorem dX6_count_37 : decode cX6_count 37 = .ok (.getfield 35, 3) := by decide +kernel
theorem dX6_count_40 : decode cX6_count 40 = .ok (.getfield 139, 3) := by decide +kernel
theorem dX6_count_43 : decode cX6_count 43 = .ok (.ireturn, 1) := by decide +kernel
theorem dX6_count_44 : decode cX6_count 44 = .ok (.aload_n 0, 1) := by decide +kernel
theorem dX6_count_45 : decode cX6_count 45 = .ok (.getfield 39, 3) := by decide +kernel
theorem dX6_count_48 : decode cX6_count 48 = .ok (.ifCond .eq 7, 3) := by decide +kernel
theorem dX6_count_51 : decode cX6_count 51 = .ok (.iconst 1, 1) := by decide +kernel
theorem dX6_count_52 : decode cX6_count 52 = .ok (.goto 4, 3) := by decide +kernel
theorem dX6_count_55 : decode cX6_count 55 = .ok (.iconst 0, 1) := by decide +kernel
theorem dX6_count_56 : decode cX6_count 56 = .ok (.ireturn, 1) := by decide +kernel
theorem dX6_count_57 : decode cX6_count 57 = .ok (.aload_n 0, 1) := by decide +kernel
theorem dX6_count_58 : decode cX6_count 58 = .ok (.getfield 10, 3) := by decide +kernel
theorem dX6_count_61 : decode cX6_count 61 = .ok (.iload_n 1, 1) := by decide +kernel
theorem dX6_count_62 : decode cX6_count 62 = .ok (.invokevirtual 142, 3) := by decide +kernel
theorem dX6_count_65 : decode cX6_count 65 = .ok (.ireturn, 1) := by decide +kernel
set_option maxRecDepth 20000 in
theorem ggX6_grades_X1_hasDealer : GoodIn wsX6_grades wsX1_hasDealer := goodIn_r _ [7, 8, 38, 39, 40, 41, 42, 43, 44, 45, 46] (by decide +kernel) (by decide +kernel)
set_option maxRecDepth 20000 in
theorem gX6_grades_X1_hasDealer : GoodIn wsX6_grades (wsV RX6 102 RX1 yX1_hasDealer wsX1_hasDealer) := goodIn_app (goodIn_of _ (by decide +kernel)) ggX6_grades_X1_hasDealer
set_option maxRecDepth 20000 in
theorem ggX6_grades_X5_unlikeGrades : GoodIn wsX6_grades wsX5_unlikeGrades := goodIn_r _ [13, 14, 15, 16, 17, 18, 12, 19, 20, 21, 22, 23, 24, 25, 26, 27, 28, 29, 30, 47, 48, 49, 50, 51, 52, 53, 54, 55, 56] (by decide +kernel) (by decide +kernel)
set_option maxRecDepth 20000 in
theorem gX6_grades_X5_unlikeGrades : GoodIn wsX6_grades (wsV RX6 152 RX5 yX5_unlikeGrades wsX5_unlikeGrades) := goodIn_app (goodIn_of _ (by decide +kernel)) ggX6_grades_X5_unlikeGrades
theorem dX6_grades_0 : decode cX6_grades 0 = .ok (.aload_n 0, 1) := by decide +kernel
theorem dX6_grades_1 : decode cX6_grades 1 = .ok (.getfield 10, 3) := by decide +kernel
theorem dX6_grades_4 : decode cX6_grades 4 = .ok (.iload_n 1, 1) := by decide +kernel
theorem dX6_grades_5 : decode cX6_grades 5 = .ok (.invokevirtual 102, 3) := by decide +kernel
theorem dX6_grades_8 : decode cX6_grades 8 = .ok (.ifCond .ne 6, 3) := by decide +kernel
theorem dX6_grades_11 : decode cX6_grades 11 = .ok (.ldc 98, 2) := by decide +kernel
theorem dX6_grades_13 : decode cX6_grades 13 = .ok (.ireturn, 1) := by decide +kernel
theorem dX6_grades_14 : decode cX6_grades 14 = .ok (.aload_n 0, 1) := by decide +kernel
theorem dX6_grades_15 : decode cX6_grades 15 = .ok (.getfield 10, 3) := by decide +kernel
theorem dX6_grades_18 : decode cX6_grades 18 = .ok (.getfield 88, 3) := by decide +kernel
theorem dX6_grades_21 : decode cX6_grades 21 = .ok (.iload_n 1, 1) := by decide +kernel
theorem dX6_grades_22 : decode cX6_grades 22 = .ok (.invokevirtual 152, 3) := by decide +kernel
theorem dX6_grades_25 : decode cX6_grades 25 = .ok (.ireturn, 1) := by decide +kernel
set_option maxRecDepth 20000 in
theorem ggX6_mark_X1_copyFrom : GoodIn wsX6_mark wsX1_copyFrom := goodIn_r _ [8, 9, 10, 11, 12, 13, 14, 15, 16, 17, 18, 19, 20, 21, 22, 23, 24, 25, 26, 27, 28, 29, 30, 31, 32, 33, 34, 35, 36, 37, 38, 39, 40, 41, 42, 43, 44, 45, 46, 47, 48, 49, 50, 51, 52, 53, 54, 55, 56, 57, 58, 59, 67, 68, 69, 70, 71, 72, 73, 74, 75, 76, 77, 78, 79, 80, 81, 82, 83, 84, 85, 86, 87, 88, 89, 90, 91, 92, 93, 94, 95] (by decide +kernel) (by decide +kernel)
set_option maxRecDepth 20000 in
theorem gX6_mark_X1_copyFrom : GoodIn wsX6_mark (wsV RX6 43 RX1 yX1_copyFrom wsX1_copyFrom) := goodIn_app (goodIn_of _ (by decide +kernel)) ggX6_mark_X1_copyFrom
theorem dX6_mark_0 : decode cX6_mark 0 = .ok (.aload_n 0, 1) := by decide +kernel
theorem dX6_mark_1 : decode cX6_mark 1 = .ok (.getfield 22, 3) := by decide +kernel
theorem dX6_mark_4 : decode cX6_mark 4 = .ok (.aload_n 0, 1) := by decide +kernel
theorem dX6_mark_5 : decode cX6_mark 5 = .ok (.getfield 10, 3) := by decide +kernel
theorem dX6_mark_8 : decode cX6_mark 8 = .ok (.invokevirtual 43, 3) := by decide +kernel
theorem dX6_mark_11 : decode cX6_mark 11 = .ok (.aload_n 0, 1) := by decide +kernel
theorem dX6_mark_12 : decode cX6_mark 12 = .ok (.iconst 1, 1) := by decide +kernel
theorem dX6_mark_13 : decode cX6_mark 13 = .ok (.putfield 39, 3) := by decide +kernel
theorem dX6_mark_16 : decode cX6_mark 16 = .ok (.aload_n 0, 1) := by decide +kernel
theorem dX6_mark_17 : decode cX6_mark 17 = .ok (.getfield 10, 3) := by decide +kernel
theorem dX6_mark_20 : decode cX6_mark 20 = .ok (.getfield 155, 3) := by decide +kernel
theorem dX6_mark_23 : decode cX6_mark 23 = .ok (.ireturn, 1) := by decide +kernel
set_option maxRecDepth 20000 in
theorem ggX6_restore_X0_push : GoodIn wsX6_restore wsX0_push := goodIn_r _ [10, 11, 12, 13, 14, 15, 16, 17, 18, 19, 20, 21, 22, 23, 24, 25, 26, 27, 28, 29, 30, 31, 32, 33, 34, 35, 36, 37, 38, 39, 40, 41, 42, 43, 44, 45, 46, 47, 48, 49, 50, 51, 52, 53, 54, 55, 56, 57, 58, 59, 60, 61, 62, 63, 64, 65, 66, 67, 68, 69, 70, 71, 72, 73, 91, 92, 93, 82, 83, 84, 85, 86, 87, 88, 89, 90, 94, 95, 96, 97, 98, 99, 100, 101, 102, 103, 104, 105, 106, 107, 108, 109, 110, 111, 112, 113] (by decide +kernel) (by decide +kernel)
set_option maxRecDepth 20000 in
theorem gX6_restore_X0_push : GoodIn wsX6_restore (wsV RX6 159 RX0 yX0_push wsX0_push) := goodIn_app (goodIn_of _ (by decide +kernel)) ggX6_restore_X0_push
set_option maxRecDepth 20000 in
theorem ggX6_restore_X1_copyFrom : GoodIn wsX6_restore wsX1_copyFrom := goodIn_r _ [22, 23, 24, 25, 26, 27, 28, 29, 30, 31, 32, 33, 34, 35, 36, 37, 38, 39, 40, 41, 42, 43, 44, 45, 46, 47, 48, 49, 50, 51, 52, 53, 54, 55, 56, 57, 58, 59, 60, 61, 62, 63, 64, 65, 66, 67, 68, 69, 70, 71, 72, 73, 82, 83, 84, 85, 86, 87, 88, 89, 90, 94, 95, 96, 97, 98, 99, 100, 101, 102, 103, 104, 105, 106, 107, 108, 109, 110, 111, 112, 113] (by decide +kernel) (by decide +kernel)
set_option maxRecDepth 20000 in
theorem gX6_restore_X1_copyFrom : GoodIn wsX6_restore (wsV RX6 43 RX1 yX1_copyFrom wsX1_copyFrom) := goodIn_app (goodIn_of _ (by decide +kernel)) ggX6_restore_X1_copyFrom
theorem dX6_restore_0 : decode cX6_restore 0 = .ok (.aload_n 0, 1) := by decide +kernel
theorem dX6_restore_1 : decode cX6_restore 1 = .ok (.getfield 39, 3) := by decide +kernel
theorem dX6_restore_4 : decode cX6_restore 4 = .ok (.ifCond .ne 6, 3) := by decide +kernel
theorem dX6_restore_7 : decode cX6_restore 7 = .ok (.ldc 158, 2) := by decide +kernel
theorem dX6_restore_9 : decode cX6_restore 9 = .ok (.ireturn, 1) := by decide +kernel
theorem dX6_restore_10 : decode cX6_restore 10 = .ok (.aload_n 0, 1) := by decide +kernel
theorem dX6_restore_11 : decode cX6_restore 11 = .ok (.getfield 28, 3) := by decide +kernel
theorem dX6_restore_14 : decode cX6_restore 14 = .ok (.aload_n 0, 1) := by decide +kernel
theorem dX6_restore_15 : decode cX6_restore 15 = .ok (.getfield 10, 3) := by decide +kernel
theorem dX6_restore_18 : decode cX6_restore 18 = .ok (.invokevirtual 159, 3) := by decide +kernel
theorem dX6_restore_21 : decode cX6_restore 21 = .ok (.aload_n 0, 1) := by decide +kernel
theorem dX6_restore_22 : decode cX6_restore 22 = .ok (.getfield 10, 3) := by decide +kernel
theorem dX6_restore_25 : decode cX6_restore 25 = .ok (.aload_n 0, 1) := by decide +kernel
theorem dX6_restore_26 : decode cX6_restore 26 = .ok (.getfield 22, 3) := by decide +kernel
theorem dX6_restore_29 : decode cX6_restore 29 = .ok (.invokevirtual 43, 3) := by decide +kernel
theorem dX6_restore_32 : decode cX6_restore 32 = .ok (.aload_n 0, 1) := by decide +kernel
theorem dX6_restore_33 : decode cX6_restore 33 = .ok (.getfield 10, 3) := by decide +kernel
theorem dX6_restore_36 : decode cX6_restore 36 = .ok (.getfield 155, 3) := by decide +kernel
theorem dX6_restore_39 : decode cX6_restore 39 = .ok (.ireturn, 1) := by decide +kernel
set_option maxRecDepth 20000 in
theorem ggX6_undo_X0_popInto : GoodIn wsX6_undo wsX0_popInto := goodIn_r _ [8, 9, 10, 11, 12, 13, 14, 15, 16, 17, 18, 19, 20, 21, 22, 23, 24, 25, 26, 27, 28, 29, 30, 31, 32, 33, 34, 35, 36, 37, 38, 39, 40, 41, 42, 43, 44, 45, 46, 47, 48, 49, 50, 51, 52, 53, 54, 55, 56, 57, 58, 59, 60, 61, 62, 63, 64, 65, 66, 67, 68, 69, 70, 71, 79, 80, 81, 82, 83, 84, 85, 86, 87, 88, 89, 90, 91, 92, 93, 94, 95, 96, 97, 98, 99, 100, 101, 102, 103, 104, 105, 106, 107, 108, 109, 110] (by decide +kernel) (by decide +kernel)
set_option maxRecDepth 20000 in
theorem gX6_undo_X0_popInto : GoodIn wsX6_undo (wsV RX6 162 RX0 yX0_popInto wsX0_popInto) := goodIn_app (goodIn_of _ (by decide +kernel)) ggX6_undo_X0_popInto
theorem dX6_undo_0 : decode cX6_undo 0 = .ok (.aload_n 0, 1) := by decide +kernel
theorem dX6_undo_1 : decode cX6_undo 1 = .ok (.getfield 28, 3) := by decide +kernel
theorem dX6_undo_4 : decode cX6_undo 4 = .ok (.getfield 135, 3) := by decide +kernel
theorem dX6_undo_7 : decode cX6_undo 7 = .ok (.ifCond .ne 6, 3) := by decide +kernel
theorem dX6_undo_10 : decode cX6_undo 10 = .ok (.ldc 158, 2) := by decide +kernel
theorem dX6_undo_12 : decode cX6_undo 12 = .ok (.ireturn, 1) := by decide +kernel
theorem dX6_undo_13 : decode cX6_undo 13 = .ok (.aload_n 0, 1) := by decide +kernel
theorem dX6_undo_14 : decode cX6_undo 14 = .ok (.getfield 28, 3) := by decide +kernel
theorem dX6_undo_17 : decode cX6_undo 17 = .ok (.aload_n 0, 1) := by decide +kernel
theorem dX6_undo_18 : decode cX6_undo 18 = .ok (.getfield 10, 3) := by decide +kernel
theorem dX6_undo_21 : decode cX6_undo 21 = .ok (.invokevirtual 162, 3) := by decide +kernel
theorem dX6_undo_24 : decode cX6_undo 24 = .ok (.aload_n 0, 1) := by decide +kernel
theorem dX6_undo_25 : decode cX6_undo 25 = .ok (.getfield 28, 3) := by decide +kernel
theorem dX6_undo_28 : decode cX6_undo 28 = .ok (.getfield 135, 3) := by decide +kernel
theorem dX6_undo_31 : decode cX6_undo 31 = .ok (.ireturn, 1) := by decide +kernel
set_option maxRecDepth 20000 in
theorem ggX6_type_X4_append : GoodIn wsX6_type wsX4_append := goodIn_r _ [7, 8, 9, 10, 18, 19, 20, 21, 22, 23, 24, 25] (by decide +kernel) (by decide +kernel)
set_option maxRecDepth 20000 in
theorem gX6_type_X4_append : GoodIn wsX6_type (wsV RX6 165 RX4 yX4_append wsX4_append) := goodIn_app (goodIn_of _ (by decide +kernel)) ggX6_type_X4_append
theorem dX6_type_0 : decode cX6_type 0 = .ok (.iload_n 1, 1) := by decide +kernel
theorem dX6_type_1 : decode cX6_type 1 = .ok (.bipush 32, 2) := by decide +kernel
theorem dX6_type_3 : decode cX6_type 3 = .ok (.if_icmp .lt 9, 3) := by decide +kernel
theorem dX6_type_6 : decode cX6_type 6 = .ok (.iload_n 1, 1) := by decide +kernel
theorem dX6_type_7 : decode cX6_type 7 = .ok (.bipush 126, 2) := by decide +kernel
theorem dX6_type_9 : decode cX6_type 9 = .ok (.if_icmp .le 6, 3) := by decide +kernel
theorem dX6_type_12 : decode cX6_type 12 = .ok (.ldc 98, 2) := by decide +kernel
theorem dX6_type_14 : decode cX6_type 14 = .ok (.ireturn, 1) := by decide +kernel
theorem dX6_type_15 : decode cX6_type 15 = .ok (.aload_n 0, 1) := by decide +kernel
theorem dX6_type_16 : decode cX6_type 16 = .ok (.getfield 35, 3) := by decide +kernel
theorem dX6_type_19 : decode cX6_type 19 = .ok (.iload_n 1, 1) := by decide +kernel
theorem dX6_type_20 : decode cX6_type 20 = .ok (.i2c, 1) := by decide +kernel
theorem dX6_type_21 : decode cX6_type 21 = .ok (.invokevirtual 165, 3) := by decide +kernel
theorem dX6_type_24 : decode cX6_type 24 = .ok (.ireturn, 1) := by decide +kernel
theorem dX6_clearText_0 : decode cX6_clearText 0 = .ok (.aload_n 0, 1) := by decide +kernel
theorem dX6_clearText_1 : decode cX6_clearText 1 = .ok (.getfield 35, 3) := by decide +kernel
theorem dX6_clearText_4 : decode cX6_clearText 4 = .ok (.getfield 139, 3) := by decide +kernel
theorem dX6_clearText_7 : decode cX6_clearText 7 = .ok (.istore_n 1, 1) := by decide +kernel
theorem dX6_clearText_8 : decode cX6_clearText 8 = .ok (.aload_n 0, 1) := by decide +kernel
theorem dX6_clearText_9 : decode cX6_clearText 9 = .ok (.getfield 35, 3) := by decide +kernel
theorem dX6_clearText_12 : decode cX6_clearText 12 = .ok (.iconst 0, 1) := by decide +kernel
theorem dX6_clearText_13 : decode cX6_clearText 13 = .ok (.putfield 139, 3) := by decide +kernel
theorem dX6_clearText_16 : decode cX6_clearText 16 = .ok (.iload_n 1, 1) := by decide +kernel
theorem dX6_clearText_17 : decode cX6_clearText 17 = .ok (.ireturn, 1) := by decide +kernel
set_option maxRecDepth 20000 in
theorem ggX6_fault_X1_copyFrom : GoodIn wsX6_fault wsX1_copyFrom := goodIn_r _ [9, 10, 11, 12, 13, 14, 15, 16, 17, 18, 19, 20, 21, 22, 23, 24, 25, 26, 27, 28, 29, 30, 31, 32, 33, 34, 35, 36, 37, 38, 39, 40, 41, 42, 43, 44, 45, 46, 47, 48, 49, 50, 51, 52, 53, 54, 55, 56, 57, 58, 59, 60, 290, 291, 292, 293, 294, 295, 296, 297, 298, 299, 300, 301, 302, 303, 304, 305, 306, 307, 308, 309, 310, 311, 312, 313, 314, 315, 316, 317, 318] (by decide +kernel) (by decide +kernel)
set_option maxRecDepth 20000 in
theorem gX6_fault_X1_copyFrom : GoodIn wsX6_fault (wsV RX6 43 RX1 yX1_copyFrom wsX1_copyFrom) := goodIn_app (goodIn_of _ (by decide +kernel)) ggX6_fault_X1_copyFrom
set_option maxRecDepth 20000 in
theorem ggX6_fault_X4_runOn : GoodIn wsX6_fault wsX4_runOn := goodIn_r _ [65, 66, 67, 68, 69, 70, 71, 72, 64, 73, 74, 75, 76, 77, 78, 79, 80, 81, 82, 83, 84, 85, 86, 87, 88, 89, 90, 91, 92, 93, 94, 95, 96, 97, 98, 99, 100, 101, 102, 103, 104, 105, 106, 107, 108, 109, 110, 111, 112, 113, 114, 115, 116, 117, 118, 119, 120, 121, 122, 123, 124, 125, 126, 127, 128, 129, 130, 131, 132, 133, 134, 135, 136, 137, 138, 139, 140, 141, 142, 143, 144, 145, 146, 147, 148, 149, 150, 151, 152, 153, 154, 155, 156, 157, 158, 159, 160, 161, 162, 163, 164, 165, 166, 167, 36, 168, 38, 169, 170, 171, 8, 172, 11, 173, 174, 12, 19, 175, 176, 177, 178, 179, 18, 180, 181, 182, 183, 184, 185, 186, 187, 10, 188, 189, 190, 191, 39, 192, 193, 194, 26, 195, 32, 28, 30, 31, 196, 197, 198, 52, 199, 54, 55, 57, 58, 59, 60, 200, 201, 202, 203, 204, 205, 206, 207, 208, 45, 209, 210, 211, 212, 213, 214, 215, 216, 217, 218, 219, 220, 221, 222, 223, 224, 225, 226, 227, 13, 228, 229, 230, 231, 232, 233, 234, 235, 236, 237, 238, 239, 240, 47, 241, 242, 243, 244, 245, 246, 247, 248, 249, 250, 251, 252, 253, 254, 255, 256, 257, 258, 259, 260, 261, 262, 263, 264, 265, 266, 267, 268, 269, 270, 271, 272, 273, 274, 22, 275, 276, 277, 278, 20, 21, 319, 320, 321, 322, 323, 324, 325, 326, 290, 291, 292, 293, 294, 295, 296, 297, 298, 303, 304, 305, 306, 307, 308, 309, 310, 311, 312, 299, 300, 301, 302, 313, 314, 315, 316, 317, 318] (by decide +kernel) (by decide +kernel)
set_option maxRecDepth 20000 in
theorem gX6_fault_X4_runOn : GoodIn wsX6_fault (wsV RX6 169 RX4 yX4_runOn wsX4_runOn) := goodIn_app (goodIn_of _ (by decide +kernel)) ggX6_fault_X4_runOn
set_option maxRecDepth 20000 in
theorem ggX6_fault_X4_tellFault : GoodIn wsX6_fault wsX4_tellFault := goodIn_r _ [282, 66, 68, 159, 160, 319, 320, 321, 322, 323, 324, 325, 326] (by decide +kernel) (by decide +kernel)
set_option maxRecDepth 20000 in
theorem gX6_fault_X4_tellFault : GoodIn wsX6_fault (wsV RX6 173 RX4 yX4_tellFault wsX4_tellFault) := goodIn_app (goodIn_of _ (by decide +kernel)) ggX6_fault_X4_tellFault
theorem dX6_fault_0 : decode cX6_fault 0 = .ok (.iload_n 1, 1) := by decide +kernel
theorem dX6_fault_1 : decode cX6_fault 1 = .ok (.ifCond .lt 8, 3) := by decide +kernel
theorem dX6_fault_4 : decode cX6_fault 4 = .ok (.iload_n 1, 1) := by decide +kernel
theorem dX6_fault_5 : decode cX6_fault 5 = .ok (.iconst 2, 1) := by decide +kernel
theorem dX6_fault_6 : decode cX6_fault 6 = .ok (.if_icmp .le 6, 3) := by decide +kernel
theorem dX6_fault_9 : decode cX6_fault 9 = .ok (.ldc 98, 2) := by decide +kernel
theorem dX6_fault_11 : decode cX6_fault 11 = .ok (.ireturn, 1) := by decide +kernel
theorem dX6_fault_12 : decode cX6_fault 12 = .ok (.aload_n 0, 1) := by decide +kernel
theorem dX6_fault_13 : decode cX6_fault 13 = .ok (.getfield 19, 3) := by decide +kernel
theorem dX6_fault_16 : decode cX6_fault 16 = .ok (.aload_n 0, 1) := by decide +kernel
theorem dX6_fault_17 : decode cX6_fault 17 = .ok (.getfield 10, 3) := by decide +kernel
theorem dX6_fault_20 : decode cX6_fault 20 = .ok (.invokevirtual 43, 3) := by decide +kernel
theorem dX6_fault_23 : decode cX6_fault 23 = .ok (.aload_n 0, 1) := by decide +kernel
theorem dX6_fault_24 : decode cX6_fault 24 = .ok (.getfield 35, 3) := by decide +kernel
theorem dX6_fault_27 : decode cX6_fault 27 = .ok (.aload_n 0, 1) := by decide +kernel
theorem dX6_fault_28 : decode cX6_fault 28 = .ok (.getfield 19, 3) := by decide +kernel
theorem dX6_fault_31 : decode cX6_fault 31 = .ok (.invokevirtual 169, 3) := by decide +kernel
theorem dX6_fault_34 : decode cX6_fault 34 = .ok (.pop, 1) := by decide +kernel
theorem dX6_fault_35 : decode cX6_fault 35 = .ok (.aload_n 0, 1) := by decide +kernel
theorem dX6_fault_36 : decode cX6_fault 36 = .ok (.getfield 35, 3) := by decide +kernel
theorem dX6_fault_39 : decode cX6_fault 39 = .ok (.iload_n 1, 1) := by decide +kernel
theorem dX6_fault_40 : decode cX6_fault 40 = .ok (.invokevirtual 173, 3) := by decide +kernel
theorem dX6_fault_43 : decode cX6_fault 43 = .ok (.ireturn, 1) := by decide +kernel
set_option maxRecDepth 20000 in
theorem ggX6_play_X1_copyFrom : GoodIn wsX6_play wsX1_copyFrom := goodIn_r _ [10, 11, 12, 13, 14, 15, 16, 17, 18, 19, 20, 21, 22, 23, 24, 25, 26, 27, 28, 29, 30, 31, 32, 33, 34, 35, 36, 37, 38, 39, 40, 41, 42, 43, 44, 45, 46, 47, 48, 49, 50, 51, 52, 53, 54, 55, 56, 57, 58, 59, 60, 61, 304, 305, 306, 307, 308, 309, 310, 311, 312, 313, 314, 315, 316, 317, 318, 319, 320, 321, 322, 323, 324, 325, 326, 327, 328, 329, 330, 331, 332] (by decide +kernel) (by decide +kernel)
set_option maxRecDepth 20000 in
theorem gX6_play_X1_copyFrom : GoodIn wsX6_play (wsV RX6 43 RX1 yX1_copyFrom wsX1_copyFrom) := goodIn_app (goodIn_of _ (by decide +kernel)) ggX6_play_X1_copyFrom
set_option maxRecDepth 20000 in
theorem ggX6_play_X4_runOn : GoodIn wsX6_play wsX4_runOn := goodIn_r _ [66, 67, 68, 69, 70, 71, 72, 73, 65, 74, 75, 76, 77, 78, 79, 80, 81, 82, 83, 84, 85, 86, 87, 88, 89, 90, 91, 92, 93, 94, 95, 96, 97, 98, 99, 100, 101, 102, 103, 104, 105, 106, 107, 108, 109, 110, 111, 112, 113, 114, 115, 116, 117, 118, 119, 120, 121, 122, 123, 124, 125, 126, 127, 128, 129, 130, 131, 132, 133, 134, 135, 136, 137, 138, 139, 140, 141, 142, 143, 144, 145, 146, 147, 148, 149, 150, 151, 152, 153, 154, 155, 156, 157, 158, 159, 160, 161, 162, 163, 164, 165, 166, 167, 168, 37, 169, 39, 170, 171, 172, 9, 173, 12, 174, 175, 13, 20, 176, 177, 178, 179, 180, 19, 181, 182, 183, 184, 185, 186, 187, 188, 11, 189, 190, 191, 192, 40, 193, 194, 195, 27, 196, 33, 29, 31, 32, 197, 198, 199, 53, 200, 55, 56, 58, 59, 60, 61, 201, 202, 203, 204, 205, 206, 207, 208, 209, 46, 210, 211, 212, 213, 214, 215, 216, 217, 218, 219, 220, 221, 222, 223, 224, 225, 226, 227, 228, 14, 229, 230, 231, 232, 233, 234, 235, 236, 237, 238, 239, 240, 241, 48, 242, 243, 244, 245, 246, 247, 248, 249, 250, 251, 252, 253, 254, 255, 256, 257, 258, 259, 260, 261, 262, 263, 264, 265, 266, 267, 268, 269, 270, 271, 272, 273, 274, 275, 23, 276, 277, 278, 279, 21, 22, 333, 334, 335, 336, 337, 338, 339, 340, 304, 305, 306, 307, 308, 309, 310, 311, 312, 317, 318, 319, 320, 321, 322, 323, 324, 325, 326, 313, 314, 315, 316, 327, 328, 329, 330, 331, 332] (by decide +kernel) (by decide +kernel)
set_option maxRecDepth 20000 in
theorem gX6_play_X4_runOn : GoodIn wsX6_play (wsV RX6 169 RX4 yX4_runOn wsX4_runOn) := goodIn_app (goodIn_of _ (by decide +kernel)) ggX6_play_X4_runOn
set_option maxRecDepth 20000 in
theorem ggX6_play_X4_hasFault : GoodIn wsX6_play wsX4_hasFault := goodIn_r _ [283, 67, 333, 334, 335, 336, 337, 338, 339, 340] (by decide +kernel) (by decide +kernel)
set_option maxRecDepth 20000 in
theorem gX6_play_X4_hasFault : GoodIn wsX6_play (wsV RX6 176 RX4 yX4_hasFault wsX4_hasFault) := goodIn_app (goodIn_of _ (by decide +kernel)) ggX6_play_X4_hasFault
set_option maxRecDepth 20000 in
theorem ggX6_play_X0_push : GoodIn wsX6_play wsX0_push := goodIn_r _ [288, 289, 290, 291, 292, 293, 294, 295, 296, 7, 8, 9, 10, 11, 12, 13, 14, 15, 16, 17, 18, 19, 20, 21, 22, 23, 24, 25, 26, 27, 28, 29, 30, 31, 32, 33, 34, 35, 36, 37, 38, 39, 40, 41, 42, 43, 44, 45, 46, 47, 48, 49, 50, 51, 52, 53, 54, 55, 56, 57, 58, 59, 60, 61, 341, 342, 343, 304, 305, 306, 307, 308, 309, 310, 311, 312, 313, 314, 315, 316, 317, 318, 319, 320, 321, 322, 323, 324, 325, 326, 327, 328, 329, 330, 331, 332] (by decide +kernel) (by decide +kernel)
set_option maxRecDepth 20000 in
theorem gX6_play_X0_push : GoodIn wsX6_play (wsV RX6 159 RX0 yX0_push wsX0_push) := goodIn_app (goodIn_of _ (by decide +kernel)) ggX6_play_X0_push
theorem dX6_play_0 : decode cX6_play 0 = .ok (.aload_n 0, 1) := by decide +kernel
theorem dX6_play_1 : decode cX6_play 1 = .ok (.getfield 19, 3) := by decide +kernel
theorem dX6_play_4 : decode cX6_play 4 = .ok (.aload_n 0, 1) := by decide +kernel
theorem dX6_play_5 : decode cX6_play 5 = .ok (.getfield 10, 3) := by decide +kernel
theorem dX6_play_8 : decode cX6_play 8 = .ok (.invokevirtual 43, 3) := by decide +kernel
theorem dX6_play_11 : decode cX6_play 11 = .ok (.aload_n 0, 1) := by decide +kernel
theorem dX6_play_12 : decode cX6_play 12 = .ok (.getfield 35, 3) := by decide +kernel
theorem dX6_play_15 : decode cX6_play 15 = .ok (.aload_n 0, 1) := by decide +kernel
theorem dX6_play_16 : decode cX6_play 16 = .ok (.getfield 19, 3) := by decide +kernel
theorem dX6_play_19 : decode cX6_play 19 = .ok (.invokevirtual 169, 3) := by decide +kernel
theorem dX6_play_22 : decode cX6_play 22 = .ok (.istore_n 1, 1) := by decide +kernel
theorem dX6_play_23 : decode cX6_play 23 = .ok (.aload_n 0, 1) := by decide +kernel
theorem dX6_play_24 : decode cX6_play 24 = .ok (.getfield 35, 3) := by decide +kernel
theorem dX6_play_27 : decode cX6_play 27 = .ok (.invokevirtual 176, 3) := by decide +kernel
theorem dX6_play_30 : decode cX6_play 30 = .ok (.ifCond .eq 6, 3) := by decide +kernel
theorem dX6_play_33 : decode cX6_play 33 = .ok (.ldc 158, 2) := by decide +kernel
theorem dX6_play_35 : decode cX6_play 35 = .ok (.ireturn, 1) := by decide +kernel
theorem dX6_play_36 : decode cX6_play 36 = .ok (.aload_n 0, 1) := by decide +kernel
theorem dX6_play_37 : decode cX6_play 37 = .ok (.getfield 28, 3) := by decide +kernel
theorem dX6_play_40 : decode cX6_play 40 = .ok (.aload_n 0, 1) := by decide +kernel
theorem dX6_play_41 : decode cX6_play 41 = .ok (.getfield 10, 3) := by decide +kernel
theorem dX6_play_44 : decode cX6_play 44 = .ok (.invokevirtual 159, 3) := by decide +kernel
theorem dX6_play_47 : decode cX6_play 47 = .ok (.aload_n 0, 1) := by decide +kernel
theorem dX6_play_48 : decode cX6_play 48 = .ok (.getfield 10, 3) := by decide +kernel
theorem dX6_play_51 : decode cX6_play 51 = .ok (.aload_n 0, 1) := by decide +kernel
theorem dX6_play_52 : decode cX6_play 52 = .ok (.getfield 19, 3) := by decide +kernel
theorem dX6_play_55 : decode cX6_play 55 = .ok (.invokevirtual 43, 3) := by decide +kernel
theorem dX6_play_58 : decode cX6_play 58 = .ok (.iload_n 1, 1) := by decide +kernel
theorem dX6_play_59 : decode cX6_play 59 = .ok (.ireturn, 1) := by decide +kernel
set_option maxRecDepth 20000 in
theorem ggX6_recorded_X0_push : GoodIn wsX6_recorded wsX0_push := goodIn_r _ [7, 8, 9, 10, 11, 12, 13, 14, 15, 16, 17, 18, 19, 20, 21, 22, 23, 24, 25, 26, 27, 28, 29, 30, 31, 32, 33, 34, 35, 36, 37, 38, 39, 40, 41, 42, 43, 44, 45, 46, 47, 48, 49, 50, 51, 52, 53, 54, 55, 56, 57, 58, 59, 60, 61, 62, 63, 64, 65, 66, 67, 68, 69, 70, 78, 79, 80, 81, 82, 83, 84, 85, 86, 87, 88, 89, 90, 91, 92, 93, 94, 95, 96, 97, 98, 99, 100, 101, 102, 103, 104, 105, 106, 107, 108, 109] (by decide +kernel) (by decide +kernel)
set_option maxRecDepth 20000 in
theorem gX6_recorded_X0_push : GoodIn wsX6_recorded (wsV RX6 159 RX0 yX0_push wsX0_push) := goodIn_app (goodIn_of _ (by decide +kernel)) ggX6_recorded_X0_push
theorem dX6_recorded_0 : decode cX6_recorded 0 = .ok (.iload_n 1, 1) := by decide +kernel
