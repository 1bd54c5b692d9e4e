set_option maxRecDepth 20000 in
theorem ggX0_init_X1_init : GoodIn wsX0_init wsX1_init := goodIn_r _ [11, 12, 2, 3, 13, 14, 15, 16, 17, 18, 19, 20, 21, 22, 23, 24, 25, 26, 27, 28, 29, 30, 31, 32, 33, 34, 35, 36, 37, 38, 39, 40, 41, 42, 43, 44, 45, 46, 47, 48, 49, 50, 51, 52, 53, 54, 55, 56, 57, 58, 59, 60, 73, 74, 75, 76, 64, 65, 66, 67, 68, 69, 70, 71, 72, 77, 78, 79, 80, 81, 82, 83, 84, 85, 86, 87, 88, 89, 90, 91, 92] (by decide +kernel) (by decide +kernel)
set_option maxRecDepth 20000 in
theorem gX0_init_X1_init_n22 : GoodIn wsX0_init (wsX1_init) := ggX0_init_X1_init
theorem dX0_init_0 : decode cX0_init 0 = .ok (.aload_n 0, 1) := by decide +kernel
theorem dX0_init_1 : decode cX0_init 1 = .ok (.invokespecial 1, 3) := by decide +kernel
theorem dX0_init_4 : decode cX0_init 4 = .ok (.aload_n 0, 1) := by decide +kernel
theorem dX0_init_5 : decode cX0_init 5 = .ok (.iconst 4, 1) := by decide +kernel
theorem dX0_init_6 : decode cX0_init 6 = .ok (.anewarray 9, 3) := by decide +kernel
theorem dX0_init_9 : decode cX0_init 9 = .ok (.putfield 11, 3) := by decide +kernel
theorem dX0_init_12 : decode cX0_init 12 = .ok (.aload_n 0, 1) := by decide +kernel
theorem dX0_init_13 : decode cX0_init 13 = .ok (.iconst 0, 1) := by decide +kernel
theorem dX0_init_14 : decode cX0_init 14 = .ok (.putfield 15, 3) := by decide +kernel
theorem dX0_init_17 : decode cX0_init 17 = .ok (.aload_n 0, 1) := by decide +kernel
theorem dX0_init_18 : decode cX0_init 18 = .ok (.iconst 0, 1) := by decide +kernel
theorem dX0_init_19 : decode cX0_init 19 = .ok (.putfield 19, 3) := by decide +kernel
theorem dX0_init_22 : decode cX0_init 22 = .ok (.iconst 0, 1) := by decide +kernel
theorem dX0_init_23 : decode cX0_init 23 = .ok (.istore_n 1, 1) := by decide +kernel
theorem dX0_init_24 : decode cX0_init 24 = .ok (.iload_n 1, 1) := by decide +kernel
theorem dX0_init_25 : decode cX0_init 25 = .ok (.iconst 4, 1) := by decide +kernel
theorem dX0_init_26 : decode cX0_init 26 = .ok (.if_icmp .ge 22, 3) := by decide +kernel
theorem dX0_init_29 : decode cX0_init 29 = .ok (.aload_n 0, 1) := by decide +kernel
theorem dX0_init_30 : decode cX0_init 30 = .ok (.getfield 11, 3) := by decide +kernel
theorem dX0_init_33 : decode cX0_init 33 = .ok (.iload_n 1, 1) := by decide +kernel
theorem dX0_init_34 : decode cX0_init 34 = .ok (.new 9, 3) := by decide +kernel
theorem dX0_init_37 : decode cX0_init 37 = .ok (.dup, 1) := by decide +kernel
theorem dX0_init_38 : decode cX0_init 38 = .ok (.invokespecial 22, 3) := by decide +kernel
theorem dX0_init_41 : decode cX0_init 41 = .ok (.aastore, 1) := by decide +kernel
theorem dX0_init_42 : decode cX0_init 42 = .ok (.iinc 1 1, 3) := by decide +kernel
theorem dX0_init_45 : decode cX0_init 45 = .ok (.goto (-21), 3) := by decide +kernel
theorem dX0_init_48 : decode cX0_init 48 = .ok (.return_, 1) := by decide +kernel
set_option maxRecDepth 20000 in
theorem ggX0_push_J9_floorMod_7cf53 : GoodIn wsX0_push wsJ9_floorMod_7cf53 := goodIn_r _ [7] (by decide +kernel) (by decide +kernel)
set_option maxRecDepth 20000 in
theorem gX0_push_J9_floorMod_7cf53 : GoodIn wsX0_push (va_wsS RX0 23 yJ9_floorMod_7cf53 wsJ9_floorMod_7cf53) := goodIn_app (goodIn_of _ (by decide +kernel)) ggX0_push_J9_floorMod_7cf53
set_option maxRecDepth 20000 in
theorem ggX0_push_X1_copyFrom : GoodIn wsX0_push wsX1_copyFrom := goodIn_r _ [12, 13, 14, 15, 16, 17, 18, 19, 20, 21, 22, 23, 24, 25, 26, 27, 28, 29, 30, 31, 32, 33, 34, 35, 36, 37, 38, 39, 40, 41, 42, 43, 44, 45, 46, 47, 48, 49, 50, 51, 52, 53, 54, 55, 56, 57, 58, 59, 60, 61, 62, 63, 67, 68, 69, 70, 71, 72, 73, 74, 75, 76, 77, 78, 79, 80, 81, 82, 83, 84, 85, 86, 87, 88, 89, 90, 91, 92, 93, 94, 95] (by decide +kernel) (by decide +kernel)
set_option maxRecDepth 20000 in
theorem gX0_push_X1_copyFrom : GoodIn wsX0_push (wsV RX0 29 RX1 yX1_copyFrom wsX1_copyFrom) := goodIn_app (goodIn_of _ (by decide +kernel)) ggX0_push_X1_copyFrom
theorem dX0_push_0 : decode cX0_push 0 = .ok (.aload_n 0, 1) := by decide +kernel
theorem dX0_push_1 : decode cX0_push 1 = .ok (.getfield 19, 3) := by decide +kernel
theorem dX0_push_4 : decode cX0_push 4 = .ok (.iconst 4, 1) := by decide +kernel
theorem dX0_push_5 : decode cX0_push 5 = .ok (.if_icmp .ne 25, 3) := by decide +kernel
theorem dX0_push_8 : decode cX0_push 8 = .ok (.aload_n 0, 1) := by decide +kernel
theorem dX0_push_9 : decode cX0_push 9 = .ok (.aload_n 0, 1) := by decide +kernel
theorem dX0_push_10 : decode cX0_push 10 = .ok (.getfield 15, 3) := by decide +kernel
theorem dX0_push_13 : decode cX0_push 13 = .ok (.iconst 1, 1) := by decide +kernel
theorem dX0_push_14 : decode cX0_push 14 = .ok (.iadd, 1) := by decide +kernel
theorem dX0_push_15 : decode cX0_push 15 = .ok (.iconst 4, 1) := by decide +kernel
theorem dX0_push_16 : decode cX0_push 16 = .ok (.irem, 1) := by decide +kernel
theorem dX0_push_17 : decode cX0_push 17 = .ok (.putfield 15, 3) := by decide +kernel
theorem dX0_push_20 : decode cX0_push 20 = .ok (.aload_n 0, 1) := by decide +kernel
theorem dX0_push_21 : decode cX0_push 21 = .ok (.dup, 1) := by decide +kernel
theorem dX0_push_22 : decode cX0_push 22 = .ok (.getfield 19, 3) := by decide +kernel
theorem dX0_push_25 : decode cX0_push 25 = .ok (.iconst 1, 1) := by decide +kernel
theorem dX0_push_26 : decode cX0_push 26 = .ok (.isub, 1) := by decide +kernel
theorem dX0_push_27 : decode cX0_push 27 = .ok (.putfield 19, 3) := by decide +kernel
theorem dX0_push_30 : decode cX0_push 30 = .ok (.aload_n 0, 1) := by decide +kernel
theorem dX0_push_31 : decode cX0_push 31 = .ok (.getfield 11, 3) := by decide +kernel
theorem dX0_push_34 : decode cX0_push 34 = .ok (.aload_n 0, 1) := by decide +kernel
theorem dX0_push_35 : decode cX0_push 35 = .ok (.getfield 15, 3) := by decide +kernel
theorem dX0_push_38 : decode cX0_push 38 = .ok (.aload_n 0, 1) := by decide +kernel
theorem dX0_push_39 : decode cX0_push 39 = .ok (.getfield 19, 3) := by decide +kernel
theorem dX0_push_42 : decode cX0_push 42 = .ok (.iadd, 1) := by decide +kernel
theorem dX0_push_43 : decode cX0_push 43 = .ok (.iconst 4, 1) := by decide +kernel
theorem dX0_push_44 : decode cX0_push 44 = .ok (.invokestatic 23, 3) := by decide +kernel
theorem dX0_push_47 : decode cX0_push 47 = .ok (.aaload, 1) := by decide +kernel
theorem dX0_push_48 : decode cX0_push 48 = .ok (.astore_n 2, 1) := by decide +kernel
theorem dX0_push_49 : decode cX0_push 49 = .ok (.aload_n 2, 1) := by decide +kernel
theorem dX0_push_50 : decode cX0_push 50 = .ok (.ifnull 18, 3) := by decide +kernel
theorem dX0_push_53 : decode cX0_push 53 = .ok (.aload_n 2, 1) := by decide +kernel
theorem dX0_push_54 : decode cX0_push 54 = .ok (.aload_n 1, 1) := by decide +kernel
theorem dX0_push_55 : decode cX0_push 55 = .ok (.invokevirtual 29, 3) := by decide +kernel
theorem dX0_push_58 : decode cX0_push 58 = .ok (.aload_n 0, 1) := by decide +kernel
theorem dX0_push_59 : decode cX0_push 59 = .ok (.dup, 1) := by decide +kernel
theorem dX0_push_60 : decode cX0_push 60 = .ok (.getfield 19, 3) := by decide +kernel
theorem dX0_push_63 : decode cX0_push 63 = .ok (.iconst 1, 1) := by decide +kernel
theorem dX0_push_64 : decode cX0_push 64 = .ok (.iadd, 1) := by decide +kernel
theorem dX0_push_65 : decode cX0_push 65 = .ok (.putfield 19, 3) := by decide +kernel
theorem dX0_push_68 : decode cX0_push 68 = .ok (.return_, 1) := by decide +kernel
set_option maxRecDepth 20000 in
theorem ggX0_popInto_J9_floorMod_7cf53 : GoodIn wsX0_popInto wsJ9_floorMod_7cf53 := goodIn_r _ [7] (by decide +kernel) (by decide +kernel)
set_option maxRecDepth 20000 in
theorem gX0_popInto_J9_floorMod_7cf53 : GoodIn wsX0_popInto (va_wsS RX0 23 yJ9_floorMod_7cf53 wsJ9_floorMod_7cf53) := goodIn_app (goodIn_of _ (by decide +kernel)) ggX0_popInto_J9_floorMod_7cf53
set_option maxRecDepth 20000 in
theorem ggX0_popInto_X1_copyFrom : GoodIn wsX0_popInto wsX1_copyFrom := goodIn_r _ [12, 13, 14, 15, 16, 17, 18, 19, 20, 21, 22, 23, 24, 25, 26, 27, 28, 29, 30, 31, 32, 33, 34, 35, 36, 37, 38, 39, 40, 41, 42, 43, 44, 45, 46, 47, 48, 49, 50, 51, 52, 53, 54, 55, 56, 57, 58, 59, 60, 61, 62, 63, 67, 68, 69, 70, 71, 72, 73, 74, 75, 76, 77, 78, 79, 80, 81, 82, 83, 84, 85, 86, 87, 88, 89, 90, 91, 92, 93, 94, 95] (by decide +kernel) (by decide +kernel)
set_option maxRecDepth 20000 in
theorem gX0_popInto_X1_copyFrom : GoodIn wsX0_popInto (wsV RX0 29 RX1 yX1_copyFrom wsX1_copyFrom) := goodIn_app (goodIn_of _ (by decide +kernel)) ggX0_popInto_X1_copyFrom
theorem dX0_popInto_0 : decode cX0_popInto 0 = .ok (.aload_n 0, 1) := by decide +kernel
theorem dX0_popInto_1 : decode cX0_popInto 1 = .ok (.getfield 19, 3) := by decide +kernel
theorem dX0_popInto_4 : decode cX0_popInto 4 = .ok (.ifCond .ne 4, 3) := by decide +kernel
theorem dX0_popInto_7 : decode cX0_popInto 7 = .ok (.return_, 1) := by decide +kernel
theorem dX0_popInto_8 : decode cX0_popInto 8 = .ok (.aload_n 0, 1) := by decide +kernel
theorem dX0_popInto_9 : decode cX0_popInto 9 = .ok (.getfield 11, 3) := by decide +kernel
theorem dX0_popInto_12 : decode cX0_popInto 12 = .ok (.aload_n 0, 1) := by decide +kernel
theorem dX0_popInto_13 : decode cX0_popInto 13 = .ok (.getfield 15, 3) := by decide +kernel
theorem dX0_popInto_16 : decode cX0_popInto 16 = .ok (.aload_n 0, 1) := by decide +kernel
theorem dX0_popInto_17 : decode cX0_popInto 17 = .ok (.getfield 19, 3) := by decide +kernel
theorem dX0_popInto_20 : decode cX0_popInto 20 = .ok (.iadd, 1) := by decide +kernel
theorem dX0_popInto_21 : decode cX0_popInto 21 = .ok (.iconst 1, 1) := by decide +kernel
theorem dX0_popInto_22 : decode cX0_popInto 22 = .ok (.isub, 1) := by decide +kernel
theorem dX0_popInto_23 : decode cX0_popInto 23 = .ok (.iconst 4, 1) := by decide +kernel
theorem dX0_popInto_24 : decode cX0_popInto 24 = .ok (.invokestatic 23, 3) := by decide +kernel
theorem dX0_popInto_27 : decode cX0_popInto 27 = .ok (.aaload, 1) := by decide +kernel
theorem dX0_popInto_28 : decode cX0_popInto 28 = .ok (.astore_n 2, 1) := by decide +kernel
theorem dX0_popInto_29 : decode cX0_popInto 29 = .ok (.aload_n 2, 1) := by decide +kernel
theorem dX0_popInto_30 : decode cX0_popInto 30 = .ok (.ifnull 18, 3) := by decide +kernel
theorem dX0_popInto_33 : decode cX0_popInto 33 = .ok (.aload_n 1, 1) := by decide +kernel
theorem dX0_popInto_34 : decode cX0_popInto 34 = .ok (.aload_n 2, 1) := by decide +kernel
theorem dX0_popInto_35 : decode cX0_popInto 35 = .ok (.invokevirtual 29, 3) := by decide +kernel
theorem dX0_popInto_38 : decode cX0_popInto 38 = .ok (.aload_n 0, 1) := by decide +kernel
theorem dX0_popInto_39 : decode cX0_popInto 39 = .ok (.dup, 1) := by decide +kernel
theorem dX0_popInto_40 : decode cX0_popInto 40 = .ok (.getfield 19, 3) := by decide +kernel
theorem dX0_popInto_43 : decode cX0_popInto 43 = .ok (.iconst 1, 1) := by decide +kernel
theorem dX0_popInto_44 : decode cX0_popInto 44 = .ok (.isub, 1) := by decide +kernel
theorem dX0_popInto_45 : decode cX0_popInto 45 = .ok (.putfield 19, 3) := by decide +kernel
theorem dX0_popInto_48 : decode cX0_popInto 48 = .ok (.return_, 1) := by decide +kernel
set_option maxRecDepth 20000 in
theorem ggX1_init_X3_init : GoodIn wsX1_init wsX3_init := goodIn_r _ [24, 25, 2, 3, 16, 26, 27, 28, 29, 52, 53, 54, 55] (by decide +kernel) (by decide +kernel)
set_option maxRecDepth 20000 in
theorem gX1_init_X3_init_n11 : GoodIn wsX1_init (wsX3_init) := ggX1_init_X3_init
set_option maxRecDepth 20000 in
theorem ggX1_init_X5_init : GoodIn wsX1_init wsX5_init := goodIn_r _ [31, 32, 2, 3, 33, 16, 34, 35, 36, 37, 38, 39, 40, 41, 42, 65, 66, 67, 68, 69, 70, 71, 72, 73, 74] (by decide +kernel) (by decide +kernel)
set_option maxRecDepth 20000 in
theorem gX1_init_X5_init_n20 : GoodIn wsX1_init (wsX5_init) := ggX1_init_X5_init
set_option maxRecDepth 20000 in
theorem ggX1_init_X2_init : GoodIn wsX1_init wsX2_init := goodIn_r _ [44, 45, 2, 3, 46, 16, 47, 48, 49, 50, 51, 75, 76, 77, 78, 79, 80] (by decide +kernel) (by decide +kernel)
set_option maxRecDepth 20000 in
theorem gX1_init_X2_init_n27 : GoodIn wsX1_init (wsX2_init) := ggX1_init_X2_init
theorem dX1_init_0 : decode cX1_init 0 = .ok (.aload_n 0, 1) := by decide +kernel
theorem dX1_init_1 : decode cX1_init 1 = .ok (.invokespecial 3, 3) := by decide +kernel
theorem dX1_init_4 : decode cX1_init 4 = .ok (.aload_n 0, 1) := by decide +kernel
theorem dX1_init_5 : decode cX1_init 5 = .ok (.new 9, 3) := by decide +kernel
theorem dX1_init_8 : decode cX1_init 8 = .ok (.dup, 1) := by decide +kernel
theorem dX1_init_9 : decode cX1_init 9 = .ok (.invokespecial 11, 3) := by decide +kernel
theorem dX1_init_12 : decode cX1_init 12 = .ok (.putfield 12, 3) := by decide +kernel
theorem dX1_init_15 : decode cX1_init 15 = .ok (.aload_n 0, 1) := by decide +kernel
theorem dX1_init_16 : decode cX1_init 16 = .ok (.new 18, 3) := by decide +kernel
theorem dX1_init_19 : decode cX1_init 19 = .ok (.dup, 1) := by decide +kernel
theorem dX1_init_20 : decode cX1_init 20 = .ok (.invokespecial 20, 3) := by decide +kernel
theorem dX1_init_23 : decode cX1_init 23 = .ok (.putfield 21, 3) := by decide +kernel
theorem dX1_init_26 : decode cX1_init 26 = .ok (.aload_n 0, 1) := by decide +kernel
theorem dX1_init_27 : decode cX1_init 27 = .ok (.new 25, 3) := by decide +kernel
theorem dX1_init_30 : decode cX1_init 30 = .ok (.dup, 1) := by decide +kernel
theorem dX1_init_31 : decode cX1_init 31 = .ok (.invokespecial 27, 3) := by decide +kernel
theorem dX1_init_34 : decode cX1_init 34 = .ok (.putfield 28, 3) := by decide +kernel
theorem dX1_init_37 : decode cX1_init 37 = .ok (.aload_n 0, 1) := by decide +kernel
theorem dX1_init_38 : decode cX1_init 38 = .ok (.bipush 6, 2) := by decide +kernel
theorem dX1_init_40 : decode cX1_init 40 = .ok (.newarray .int, 2) := by decide +kernel
theorem dX1_init_42 : decode cX1_init 42 = .ok (.putfield 32, 3) := by decide +kernel
theorem dX1_init_45 : decode cX1_init 45 = .ok (.aload_n 0, 1) := by decide +kernel
theorem dX1_init_46 : decode cX1_init 46 = .ok (.iconst 0, 1) := by decide +kernel
theorem dX1_init_47 : decode cX1_init 47 = .ok (.putfield 36, 3) := by decide +kernel
theorem dX1_init_50 : decode cX1_init 50 = .ok (.aload_n 0, 1) := by decide +kernel
theorem dX1_init_51 : decode cX1_init 51 = .ok (.iconst 0, 1) := by decide +kernel
theorem dX1_init_52 : decode cX1_init 52 = .ok (.putfield 40, 3) := by decide +kernel
theorem dX1_init_55 : decode cX1_init 55 = .ok (.aload_n 0, 1) := by decide +kernel
theorem dX1_init_56 : decode cX1_init 56 = .ok (.iconst 3, 1) := by decide +kernel
theorem dX1_init_57 : decode cX1_init 57 = .ok (.putfield 43, 3) := by decide +kernel
theorem dX1_init_60 : decode cX1_init 60 = .ok (.aload_n 0, 1) := by decide +kernel
theorem dX1_init_61 : decode cX1_init 61 = .ok (.bipush 10, 2) := by decide +kernel
theorem dX1_init_63 : decode cX1_init 63 = .ok (.putfield 46, 3) := by decide +kernel
theorem dX1_init_66 : decode cX1_init 66 = .ok (.aload_n 0, 1) := by decide +kernel
theorem dX1_init_67 : decode cX1_init 67 = .ok (.iconst 0, 1) := by decide +kernel
theorem dX1_init_68 : decode cX1_init 68 = .ok (.putfield 49, 3) := by decide +kernel
theorem dX1_init_71 : decode cX1_init 71 = .ok (.return_, 1) := by decide +kernel
set_option maxRecDepth 20000 in
theorem ggX1_copyFrom_X3_copyFrom : GoodIn wsX1_copyFrom wsX3_copyFrom := goodIn_r _ [18, 19, 20, 6, 7, 8, 21, 22, 23, 61, 62, 63, 64] (by decide +kernel) (by decide +kernel)
set_option maxRecDepth 20000 in
theorem gX1_copyFrom_X3_copyFrom : GoodIn wsX1_copyFrom (wsV RX1 52 RX3 yX3_copyFrom wsX3_copyFrom) := goodIn_app (goodIn_of _ (by decide +kernel)) ggX1_copyFrom_X3_copyFrom
set_option maxRecDepth 20000 in
theorem ggX1_copyFrom_X5_copyFrom : GoodIn wsX1_copyFrom wsX5_copyFrom := goodIn_r _ [28, 29, 30, 31, 6, 7, 8, 32, 33, 34, 35, 36, 37, 38, 39, 65, 66, 67, 68, 69, 70, 71, 72, 73, 74] (by decide +kernel) (by decide +kernel)
set_option maxRecDepth 20000 in
theorem gX1_copyFrom_X5_copyFrom : GoodIn wsX1_copyFrom (wsV RX1 56 RX5 yX5_copyFrom wsX5_copyFrom) := goodIn_app (goodIn_of _ (by decide +kernel)) ggX1_copyFrom_X5_copyFrom
set_option maxRecDepth 20000 in
theorem ggX1_copyFrom_X2_copyFrom : GoodIn wsX1_copyFrom wsX2_copyFrom := goodIn_r _ [44, 45, 46, 47, 6, 7, 8, 48, 49, 50, 51, 75, 76, 77, 78, 79, 80] (by decide +kernel) (by decide +kernel)
set_option maxRecDepth 20000 in
theorem gX1_copyFrom_X2_copyFrom : GoodIn wsX1_copyFrom (wsV RX1 59 RX2 yX2_copyFrom wsX2_copyFrom) := goodIn_app (goodIn_of _ (by decide +kernel)) ggX1_copyFrom_X2_copyFrom
theorem dX1_copyFrom_0 : decode cX1_copyFrom 0 = .ok (.aload_n 0, 1) := by decide +kernel
theorem dX1_copyFrom_1 : decode cX1_copyFrom 1 = .ok (.getfield 12, 3) := by decide +kernel
theorem dX1_copyFrom_4 : decode cX1_copyFrom 4 = .ok (.aload_n 1, 1) := by decide +kernel
theorem dX1_copyFrom_5 : decode cX1_copyFrom 5 = .ok (.getfield 12, 3) := by decide +kernel
theorem dX1_copyFrom_8 : decode cX1_copyFrom 8 = .ok (.invokevirtual 52, 3) := by decide +kernel
theorem dX1_copyFrom_11 : decode cX1_copyFrom 11 = .ok (.aload_n 0, 1) := by decide +kernel
theorem dX1_copyFrom_12 : decode cX1_copyFrom 12 = .ok (.getfield 21, 3) := by decide +kernel
theorem dX1_copyFrom_15 : decode cX1_copyFrom 15 = .ok (.aload_n 1, 1) := by decide +kernel
theorem dX1_copyFrom_16 : decode cX1_copyFrom 16 = .ok (.getfield 21, 3) := by decide +kernel
theorem dX1_copyFrom_19 : decode cX1_copyFrom 19 = .ok (.invokevirtual 56, 3) := by decide +kernel
theorem dX1_copyFrom_22 : decode cX1_copyFrom 22 = .ok (.aload_n 0, 1) := by decide +kernel
theorem dX1_copyFrom_23 : decode cX1_copyFrom 23 = .ok (.getfield 28, 3) := by decide +kernel
theorem dX1_copyFrom_26 : decode cX1_copyFrom 26 = .ok (.aload_n 1, 1) := by decide +kernel
theorem dX1_copyFrom_27 : decode cX1_copyFrom 27 = .ok (.getfield 28, 3) := by decide +kernel
theorem dX1_copyFrom_30 : decode cX1_copyFrom 30 = .ok (.invokevirtual 59, 3) := by decide +kernel
theorem dX1_copyFrom_33 : decode cX1_copyFrom 33 = .ok (.aload_n 1, 1) := by decide +kernel
theorem dX1_copyFrom_34 : decode cX1_copyFrom 34 = .ok (.getfield 32, 3) := by decide +kernel
theorem dX1_copyFrom_37 : decode cX1_copyFrom 37 = .ok (.iconst 0, 1) := by decide +kernel
theorem dX1_copyFrom_38 : decode cX1_copyFrom 38 = .ok (.aload_n 0, 1) := by decide +kernel
theorem dX1_copyFrom_39 : decode cX1_copyFrom 39 = .ok (.getfield 32, 3) := by decide +kernel
theorem dX1_copyFrom_42 : decode cX1_copyFrom 42 = .ok (.iconst 0, 1) := by decide +kernel
theorem dX1_copyFrom_43 : decode cX1_copyFrom 43 = .ok (.bipush 6, 2) := by decide +kernel
theorem dX1_copyFrom_45 : decode cX1_copyFrom 45 = .ok (.invokestatic 62, 3) := by decide +kernel
theorem dX1_copyFrom_48 : decode cX1_copyFrom 48 = .ok (.aload_n 0, 1) := by decide +kernel
theorem dX1_copyFrom_49 : decode cX1_copyFrom 49 = .ok (.aload_n 1, 1) := by decide +kernel
theorem dX1_copyFrom_50 : decode cX1_copyFrom 50 = .ok (.getfield 36, 3) := by decide +kernel
theorem dX1_copyFrom_53 : decode cX1_copyFrom 53 = .ok (.putfield 36, 3) := by decide +kernel
theorem dX1_copyFrom_56 : decode cX1_copyFrom 56 = .ok (.aload_n 0, 1) := by decide +kernel
theorem dX1_copyFrom_57 : decode cX1_copyFrom 57 = .ok (.aload_n 1, 1) := by decide +kernel
theorem dX1_copyFrom_58 : decode cX1_copyFrom 58 = .ok (.getfield 40, 3) := by decide +kernel
theorem dX1_copyFrom_61 : decode cX1_copyFrom 61 = .ok (.putfield 40, 3) := by decide +kernel
theorem dX1_copyFrom_64 : decode cX1_copyFrom 64 = .ok (.aload_n 0, 1) := by decide +kernel
theorem dX1_copyFrom_65 : decode cX1_copyFrom 65 = .ok (.aload_n 1, 1) := by decide +kernel
theorem dX1_copyFrom_66 : decode cX1_copyFrom 66 = .ok (.getfield 43, 3) := by decide +kernel
theorem dX1_copyFrom_69 : decode cX1_copyFrom 69 = .ok (.putfield 43, 3) := by decide +kernel
theorem dX1_copyFrom_72 : decode cX1_copyFrom 72 = .ok (.aload_n 0, 1) := by decide +kernel
theorem dX1_copyFrom_73 : decode cX1_copyFrom 73 = .ok (.aload_n 1, 1) := by decide +kernel
theorem dX1_copyFrom_74 : decode cX1_copyFrom 74 = .ok (.getfield 46, 3) := by decide +kernel
theorem dX1_copyFrom_77 : decode cX1_copyFrom 77 = .ok (.putfield 46, 3) := by decide +kernel
theorem dX1_copyFrom_80 : decode cX1_copyFrom 80 = .ok (.aload_n 0, 1) := by decide +kernel
theorem dX1_copyFrom_81 : decode cX1_copyFrom 81 = .ok (.aload_n 1, 1) := by decide +kernel
theorem dX1_copyFrom_82 : decode cX1_copyFrom 82 = .ok (.getfield 49, 3) := by decide +kernel
theorem dX1_copyFrom_85 : decode cX1_copyFrom 85 = .ok (.putfield 49, 3) := by decide +kernel
theorem dX1_copyFrom_88 : decode cX1_copyFrom 88 = .ok (.return_, 1) := by decide +kernel
theorem dX1_hasDealer_0 : decode cX1_hasDealer 0 = .ok (.iload_n 1, 1) := by decide +kernel
theorem dX1_hasDealer_1 : decode cX1_hasDealer 1 = .ok (.ifCond .lt 21, 3) := by decide +kernel
theorem dX1_hasDealer_4 : decode cX1_hasDealer 4 = .ok (.iload_n 1, 1) := by decide +kernel
theorem dX1_hasDealer_5 : decode cX1_hasDealer 5 = .ok (.aload_n 0, 1) := by decide +kernel
theorem dX1_hasDealer_6 : decode cX1_hasDealer 6 = .ok (.getfield 36, 3) := by decide +kernel
theorem dX1_hasDealer_9 : decode cX1_hasDealer 9 = .ok (.if_icmp .ge 13, 3) := by decide +kernel
theorem dX1_hasDealer_12 : decode cX1_hasDealer 12 = .ok (.iload_n 1, 1) := by decide +kernel
theorem dX1_hasDealer_13 : decode cX1_hasDealer 13 = .ok (.bipush 6, 2) := by decide +kernel
theorem dX1_hasDealer_15 : decode cX1_hasDealer 15 = .ok (.if_icmp .ge 7, 3) := by decide +kernel
theorem dX1_hasDealer_18 : decode cX1_hasDealer 18 = .ok (.iconst 1, 1) := by decide +kernel
theorem dX1_hasDealer_19 : decode cX1_hasDealer 19 = .ok (.goto 4, 3) := by decide +kernel
theorem dX1_hasDealer_22 : decode cX1_hasDealer 22 = .ok (.iconst 0, 1) := by decide +kernel
theorem dX1_hasDealer_23 : decode cX1_hasDealer 23 = .ok (.ireturn, 1) := by decide +kernel
theorem dX1_addDealer_0 : decode cX1_addDealer 0 = .ok (.aload_n 0, 1) := by decide +kernel
theorem dX1_addDealer_1 : decode cX1_addDealer 1 = .ok (.getfield 36, 3) := by decide +kernel
theorem dX1_addDealer_4 : decode cX1_addDealer 4 = .ok (.ifCond .lt 12, 3) := by decide +kernel
theorem dX1_addDealer_7 : decode cX1_addDealer 7 = .ok (.aload_n 0, 1) := by decide +kernel
theorem dX1_addDealer_8 : decode cX1_addDealer 8 = .ok (.getfield 36, 3) := by decide +kernel
theorem dX1_addDealer_11 : decode cX1_addDealer 11 = .ok (.bipush 6, 2) := by decide +kernel
theorem dX1_addDealer_13 : decode cX1_addDealer 13 = .ok (.if_icmp .lt 6, 3) := by decide +kernel
theorem dX1_addDealer_16 : decode cX1_addDealer 16 = .ok (.ldc 68, 2) := by decide +kernel
theorem dX1_addDealer_18 : decode cX1_addDealer 18 = .ok (.ireturn, 1) := by decide +kernel
theorem dX1_addDealer_19 : decode cX1_addDealer 19 = .ok (.aload_n 0, 1) := by decide +kernel
theorem dX1_addDealer_20 : decode cX1_addDealer 20 = .ok (.getfield 32, 3) := by decide +kernel
theorem dX1_addDealer_23 : decode cX1_addDealer 23 = .ok (.aload_n 0, 1) := by decide +kernel
theorem dX1_addDealer_24 : decode cX1_addDealer 24 = .ok (.getfield 36, 3) := by decide +kernel
theorem dX1_addDealer_27 : decode cX1_addDealer 27 = .ok (.iconst 0, 1) := by decide +kernel
theorem dX1_addDealer_28 : decode cX1_addDealer 28 = .ok (.iastore, 1) := by decide +kernel
theorem dX1_addDealer_29 : decode cX1_addDealer 29 = .ok (.aload_n 0, 1) := by decide +kernel
theorem dX1_addDealer_30 : decode cX1_addDealer 30 = .ok (.dup, 1) := by decide +kernel
theorem dX1_addDealer_31 : decode cX1_addDealer 31 = .ok (.getfield 36, 3) := by decide +kernel
theorem dX1_addDealer_34 : decode cX1_addDealer 34 = .ok (.iconst 1, 1) := by decide +kernel
theorem dX1_addDealer_35 : decode cX1_addDealer 35 = .ok (.iadd, 1) := by decide +kernel
theorem dX1_addDealer_36 : decode cX1_addDealer 36 = .ok (.putfield 36, 3) := by decide +kernel
theorem dX1_addDealer_39 : decode cX1_addDealer 39 = .ok (.aload_n 0, 1) := by decide +kernel
theorem dX1_addDealer_40 : decode cX1_addDealer 40 = .ok (.getfield 36, 3) := by decide +kernel
theorem dX1_addDealer_43 : decode cX1_addDealer 43 = .ok (.iconst 1, 1) := by decide +kernel
theorem dX1_addDealer_44 : decode cX1_addDealer 44 = .ok (.isub, 1) := by decide +kernel
theorem dX1_addDealer_45 : decode cX1_addDealer 45 = .ok (.ireturn, 1) := by decide +kernel
set_option maxRecDepth 20000 in
theorem ggX1_addStone_X1_hasDealer : GoodIn wsX1_addStone wsX1_hasDealer := goodIn_r _ [8, 9, 28, 29, 30, 31, 32, 33, 34, 35, 36] (by decide +kernel) (by decide +kernel)
set_option maxRecDepth 20000 in
theorem gX1_addStone_X1_hasDealer : GoodIn wsX1_addStone (wsV RX1 69 RX1 yX1_hasDealer wsX1_hasDealer) := goodIn_app (goodIn_of _ (by decide +kernel)) ggX1_addStone_X1_hasDealer
set_option maxRecDepth 20000 in
theorem ggX1_addStone_X6_isLook : GoodIn wsX1_addStone wsX6_isLook := goodIn_r _ [12] (by decide +kernel) (by decide +kernel)
set_option maxRecDepth 20000 in
theorem gX1_addStone_X6_isLook_n73 : GoodIn wsX1_addStone (wsX6_isLook) := ggX1_addStone_X6_isLook
set_option maxRecDepth 20000 in
theorem ggX1_addStone_X5_add : GoodIn wsX1_addStone wsX5_add := goodIn_r _ [17, 18, 19, 20, 21, 22, 23, 24, 25, 26, 27, 37, 38, 39, 40, 41, 42, 43, 44, 45, 46] (by decide +kernel) (by decide +kernel)
set_option maxRecDepth 20000 in
theorem gX1_addStone_X5_add : GoodIn wsX1_addStone (wsV RX1 78 RX5 yX5_add wsX5_add) := goodIn_app (goodIn_of _ (by decide +kernel)) ggX1_addStone_X5_add
theorem dX1_addStone_0 : decode cX1_addStone 0 = .ok (.aload_n 0, 1) := by decide +kernel
theorem dX1_addStone_1 : decode cX1_addStone 1 = .ok (.iload_n 1, 1) := by decide +kernel
theorem dX1_addStone_2 : decode cX1_addStone 2 = .ok (.invokevirtual 69, 3) := by decide +kernel
theorem dX1_addStone_5 : decode cX1_addStone 5 = .ok (.ifCond .eq 24, 3) := by decide +kernel
theorem dX1_addStone_8 : decode cX1_addStone 8 = .ok (.iload_n 2, 1) := by decide +kernel
theorem dX1_addStone_9 : decode cX1_addStone 9 = .ok (.iconst 1, 1) := by decide +kernel
theorem dX1_addStone_10 : decode cX1_addStone 10 = .ok (.if_icmp .lt 19, 3) := by decide +kernel
theorem dX1_addStone_13 : decode cX1_addStone 13 = .ok (.iload_n 2, 1) := by decide +kernel
theorem dX1_addStone_14 : decode cX1_addStone 14 = .ok (.sipush 999, 3) := by decide +kernel
theorem dX1_addStone_17 : decode cX1_addStone 17 = .ok (.if_icmp .gt 12, 3) := by decide +kernel
theorem dX1_addStone_20 : decode cX1_addStone 20 = .ok (.iload_n 3, 1) := by decide +kernel
theorem dX1_addStone_21 : decode cX1_addStone 21 = .ok (.iload 4, 2) := by decide +kernel
theorem dX1_addStone_23 : decode cX1_addStone 23 = .ok (.invokestatic 73, 3) := by decide +kernel
theorem dX1_addStone_26 : decode cX1_addStone 26 = .ok (.ifCond .ne 6, 3) := by decide +kernel
theorem dX1_addStone_29 : decode cX1_addStone 29 = .ok (.ldc 77, 2) := by decide +kernel
theorem dX1_addStone_31 : decode cX1_addStone 31 = .ok (.ireturn, 1) := by decide +kernel
theorem dX1_addStone_32 : decode cX1_addStone 32 = .ok (.aload_n 0, 1) := by decide +kernel
theorem dX1_addStone_33 : decode cX1_addStone 33 = .ok (.getfield 21, 3) := by decide +kernel
theorem dX1_addStone_36 : decode cX1_addStone 36 = .ok (.iload_n 1, 1) := by decide +kernel
theorem dX1_addStone_37 : decode cX1_addStone 37 = .ok (.iload_n 2, 1) := by decide +kernel
theorem dX1_addStone_38 : decode cX1_addStone 38 = .ok (.iload_n 3, 1) := by decide +kernel
theorem dX1_addStone_39 : decode cX1_addStone 39 = .ok (.iload 4, 2) := by decide +kernel
theorem dX1_addStone_41 : decode cX1_addStone 41 = .ok (.invokevirtual 78, 3) := by decide +kernel
theorem dX1_addStone_44 : decode cX1_addStone 44 = .ok (.istore 5, 2) := by decide +kernel
theorem dX1_addStone_46 : decode cX1_addStone 46 = .ok (.iload 5, 2) := by decide +kernel
theorem dX1_addStone_48 : decode cX1_addStone 48 = .ok (.iconst (-1), 1) := by decide +kernel
theorem dX1_addStone_49 : decode cX1_addStone 49 = .ok (.if_icmp .ne 8, 3) := by decide +kernel
theorem dX1_addStone_52 : decode cX1_addStone 52 = .ok (.ldc 68, 2) := by decide +kernel
theorem dX1_addStone_54 : decode cX1_addStone 54 = .ok (.goto 5, 3) := by decide +kernel
theorem dX1_addStone_57 : decode cX1_addStone 57 = .ok (.iload 5, 2) := by decide +kernel
theorem dX1_addStone_59 : decode cX1_addStone 59 = .ok (.ireturn, 1) := by decide +kernel
set_option maxRecDepth 20000 in
theorem ggX1_putRate_X6_isGrade : GoodIn wsX1_putRate wsX6_isGrade := goodIn_r _ [6, 7, 8, 5, 9] (by decide +kernel) (by decide +kernel)
set_option maxRecDepth 20000 in
theorem gX1_putRate_X6_isGrade_n82 : GoodIn wsX1_putRate (wsX6_isGrade) := ggX1_putRate_X6_isGrade
set_option maxRecDepth 20000 in
theorem ggX1_putRate_X3_ownRate : GoodIn wsX1_putRate wsX3_ownRate := goodIn_r _ [14, 15, 16, 17, 18, 13, 19, 20, 21, 22, 40, 41, 42, 43] (by decide +kernel) (by decide +kernel)
set_option maxRecDepth 20000 in
theorem gX1_putRate_X3_ownRate : GoodIn wsX1_putRate (wsV RX1 86 RX3 yX3_ownRate wsX3_ownRate) := goodIn_app (goodIn_of _ (by decide +kernel)) ggX1_putRate_X3_ownRate
set_option maxRecDepth 20000 in
theorem ggX1_putRate_X3_change : GoodIn wsX1_putRate wsX3_change := goodIn_r _ [26, 15, 16, 17, 18, 13, 19, 20, 21, 22, 40, 41, 42, 43] (by decide +kernel) (by decide +kernel)
set_option maxRecDepth 20000 in
theorem gX1_putRate_X3_change : GoodIn wsX1_putRate (wsV RX1 90 RX3 yX3_change wsX3_change) := goodIn_app (goodIn_of _ (by decide +kernel)) ggX1_putRate_X3_change
set_option maxRecDepth 20000 in
theorem ggX1_putRate_X3_add : GoodIn wsX1_putRate wsX3_add := goodIn_r _ [30, 15, 20, 21, 22, 40, 41, 42, 43] (by decide +kernel) (by decide +kernel)
set_option maxRecDepth 20000 in
theorem gX1_putRate_X3_add : GoodIn wsX1_putRate (wsV RX1 94 RX3 yX3_add wsX3_add) := goodIn_app (goodIn_of _ (by decide +kernel)) ggX1_putRate_X3_add
theorem dX1_putRate_0 : decode cX1_putRate 0 = .ok (.iload_n 1, 1) := by decide +kernel
theorem dX1_putRate_1 : decode cX1_putRate 1 = .ok (.iload_n 2, 1) := by decide +kernel
theorem dX1_putRate_2 : decode cX1_putRate 2 = .ok (.iload_n 3, 1) := by decide +kernel
theorem dX1_putRate_3 : decode cX1_putRate 3 = .ok (.invokestatic 82, 3) := by decide +kernel
theorem dX1_putRate_6 : decode cX1_putRate 6 = .ok (.ifCond .eq 17, 3) := by decide +kernel
theorem dX1_putRate_9 : decode cX1_putRate 9 = .ok (.iload 4, 2) := by decide +kernel
theorem dX1_putRate_11 : decode cX1_putRate 11 = .ok (.iconst 1, 1) := by decide +kernel
theorem dX1_putRate_12 : decode cX1_putRate 12 = .ok (.if_icmp .lt 11, 3) := by decide +kernel
theorem dX1_putRate_15 : decode cX1_putRate 15 = .ok (.iload 4, 2) := by decide +kernel
theorem dX1_putRate_17 : decode cX1_putRate 17 = .ok (.sipush 9999, 3) := by decide +kernel
theorem dX1_putRate_20 : decode cX1_putRate 20 = .ok (.if_icmp .le 6, 3) := by decide +kernel
theorem dX1_putRate_23 : decode cX1_putRate 23 = .ok (.ldc 77, 2) := by decide +kernel
theorem dX1_putRate_25 : decode cX1_putRate 25 = .ok (.ireturn, 1) := by decide +kernel
theorem dX1_putRate_26 : decode cX1_putRate 26 = .ok (.aload_n 0, 1) := by decide +kernel
theorem dX1_putRate_27 : decode cX1_putRate 27 = .ok (.getfield 12, 3) := by decide +kernel
theorem dX1_putRate_30 : decode cX1_putRate 30 = .ok (.iload_n 1, 1) := by decide +kernel
theorem dX1_putRate_31 : decode cX1_putRate 31 = .ok (.iload_n 2, 1) := by decide +kernel
theorem dX1_putRate_32 : decode cX1_putRate 32 = .ok (.iload_n 3, 1) := by decide +kernel
theorem dX1_putRate_33 : decode cX1_putRate 33 = .ok (.invokevirtual 86, 3) := by decide +kernel
theorem dX1_putRate_36 : decode cX1_putRate 36 = .ok (.istore 5, 2) := by decide +kernel
theorem dX1_putRate_38 : decode cX1_putRate 38 = .ok (.iload 5, 2) := by decide +kernel
theorem dX1_putRate_40 : decode cX1_putRate 40 = .ok (.ifCond .eq 18, 3) := by decide +kernel
theorem dX1_putRate_43 : decode cX1_putRate 43 = .ok (.aload_n 0, 1) := by decide +kernel
theorem dX1_putRate_44 : decode cX1_putRate 44 = .ok (.getfield 12, 3) := by decide +kernel
theorem dX1_putRate_47 : decode cX1_putRate 47 = .ok (.iload_n 1, 1) := by decide +kernel
theorem dX1_putRate_48 : decode cX1_putRate 48 = .ok (.iload_n 2, 1) := by decide +kernel
theorem dX1_putRate_49 : decode cX1_putRate 49 = .ok (.iload_n 3, 1) := by decide +kernel
theorem dX1_putRate_50 : decode cX1_putRate 50 = .ok (.iload 4, 2) := by decide +kernel
theorem dX1_putRate_52 : decode cX1_putRate 52 = .ok (.invokevirtual 90, 3) := by decide +kernel
theorem dX1_putRate_55 : decode cX1_putRate 55 = .ok (.iload 5, 2) := by decide +kernel
theorem dX1_putRate_57 : decode cX1_putRate 57 = .ok (.ireturn, 1) := by decide +kernel
theorem dX1_putRate_58 : decode cX1_putRate 58 = .ok (.aload_n 0, 1) := by decide +kernel
theorem dX1_putRate_59 : decode cX1_putRate 59 = .ok (.getfield 12, 3) := by decide +kernel
theorem dX1_putRate_62 : decode cX1_putRate 62 = .ok (.iload_n 1, 1) := by decide +kernel
theorem dX1_putRate_63 : decode cX1_putRate 63 = .ok (.iload_n 2, 1) := by decide +kernel
theorem dX1_putRate_64 : decode cX1_putRate 64 = .ok (.iload_n 3, 1) := by decide +kernel
theorem dX1_putRate_65 : decode cX1_putRate 65 = .ok (.iload 4, 2) := by decide +kernel
theorem dX1_putRate_67 : decode cX1_putRate 67 = .ok (.invokevirtual 94, 3) := by decide +kernel
theorem dX1_putRate_70 : decode cX1_putRate 70 = .ok (.ifCond .eq 7, 3) := by decide +kernel
theorem dX1_putRate_73 : decode cX1_putRate 73 = .ok (.iconst 0, 1) := by decide +kernel
theorem dX1_putRate_74 : decode cX1_putRate 74 = .ok (.goto 5, 3) := by decide +kernel
theorem dX1_putRate_77 : decode cX1_putRate 77 = .ok (.ldc 68, 2) := by decide +kernel
theorem dX1_putRate_79 : decode cX1_putRate 79 = .ok (.ireturn, 1) := by decide +kernel
set_option maxRecDepth 20000 in
theorem ggX1_takeRate_X6_isGrade : GoodIn wsX1_takeRate wsX6_isGrade := goodIn_r _ [6, 7, 8, 5, 9] (by decide +kernel) (by decide +kernel)
set_option maxRecDepth 20000 in
theorem gX1_takeRate_X6_isGrade_n82 : GoodIn wsX1_takeRate (wsX6_isGrade) := ggX1_takeRate_X6_isGrade
set_option maxRecDepth 20000 in
theorem ggX1_takeRate_X3_ownRate : GoodIn wsX1_takeRate wsX3_ownRate := goodIn_r _ [14, 15, 16, 17, 18, 13, 19, 20, 21, 22, 36, 37, 38, 39] (by decide +kernel) (by decide +kernel)
set_option maxRecDepth 20000 in
theorem gX1_takeRate_X3_ownRate : GoodIn wsX1_takeRate (wsV RX1 86 RX3 yX3_ownRate wsX3_ownRate) := goodIn_app (goodIn_of _ (by decide +kernel)) ggX1_takeRate_X3_ownRate
set_option maxRecDepth 20000 in
theorem ggX1_takeRate_X3_change : GoodIn wsX1_takeRate wsX3_change := goodIn_r _ [26, 15, 16, 17, 18, 13, 19, 20, 21, 22, 36, 37, 38, 39] (by decide +kernel) (by decide +kernel)
set_option maxRecDepth 20000 in
theorem gX1_takeRate_X3_change : GoodIn wsX1_takeRate (wsV RX1 90 RX3 yX3_change wsX3_change) := goodIn_app (goodIn_of _ (by decide +kernel)) ggX1_takeRate_X3_change
theorem dX1_takeRate_0 : decode cX1_takeRate 0 = .ok (.iload_n 1, 1) := by decide +kernel
theorem dX1_takeRate_1 : decode cX1_takeRate 1 = .ok (.iload_n 2, 1) := by decide +kernel
theorem dX1_takeRate_2 : decode cX1_takeRate 2 = .ok (.iload_n 3, 1) := by decide +kernel
theorem dX1_takeRate_3 : decode cX1_takeRate 3 = .ok (.invokestatic 82, 3) := by decide +kernel
theorem dX1_takeRate_6 : decode cX1_takeRate 6 = .ok (.ifCond .ne 6, 3) := by decide +kernel
theorem dX1_takeRate_9 : decode cX1_takeRate 9 = .ok (.ldc 77, 2) := by decide +kernel
theorem dX1_takeRate_11 : decode cX1_takeRate 11 = .ok (.ireturn, 1) := by decide +kernel
theorem dX1_takeRate_12 : decode cX1_takeRate 12 = .ok (.aload_n 0, 1) := by decide +kernel
theorem dX1_takeRate_13 : decode cX1_takeRate 13 = .ok (.getfield 12, 3) := by decide +kernel
theorem dX1_takeRate_16 : decode cX1_takeRate 16 = .ok (.iload_n 1, 1) := by decide +kernel
theorem dX1_takeRate_17 : decode cX1_takeRate 17 = .ok (.iload_n 2, 1) := by decide +kernel
theorem dX1_takeRate_18 : decode cX1_takeRate 18 = .ok (.iload_n 3, 1) := by decide +kernel
theorem dX1_takeRate_19 : decode cX1_takeRate 19 = .ok (.invokevirtual 86, 3) := by decide +kernel
theorem dX1_takeRate_22 : decode cX1_takeRate 22 = .ok (.istore 4, 2) := by decide +kernel
theorem dX1_takeRate_24 : decode cX1_takeRate 24 = .ok (.iload 4, 2) := by decide +kernel
theorem dX1_takeRate_26 : decode cX1_takeRate 26 = .ok (.ifCond .ne 6, 3) := by decide +kernel
theorem dX1_takeRate_29 : decode cX1_takeRate 29 = .ok (.ldc 97, 2) := by decide +kernel
theorem dX1_takeRate_31 : decode cX1_takeRate 31 = .ok (.ireturn, 1) := by decide +kernel
theorem dX1_takeRate_32 : decode cX1_takeRate 32 = .ok (.aload_n 0, 1) := by decide +kernel
theorem dX1_takeRate_33 : decode cX1_takeRate 33 = .ok (.getfield 12, 3) := by decide +kernel
theorem dX1_takeRate_36 : decode cX1_takeRate 36 = .ok (.iload_n 1, 1) := by decide +kernel
theorem dX1_takeRate_37 : decode cX1_takeRate 37 = .ok (.iload_n 2, 1) := by decide +kernel
theorem dX1_takeRate_38 : decode cX1_takeRate 38 = .ok (.iload_n 3, 1) := by decide +kernel
theorem dX1_takeRate_39 : decode cX1_takeRate 39 = .ok (.iconst 0, 1) := by decide +kernel
theorem dX1_takeRate_40 : decode cX1_takeRate 40 = .ok (.invokevirtual 90, 3) := by decide +kernel
theorem dX1_takeRate_43 : decode cX1_takeRate 43 = .ok (.iload 4, 2) := by decide +kernel
theorem dX1_takeRate_45 : decode cX1_takeRate 45 = .ok (.ireturn, 1) := by decide +kernel
set_option maxRecDepth 20000 in
theorem ggX1_lendStones_X1_hasDealer : GoodIn wsX1_lendStones wsX1_hasDealer := goodIn_r _ [11, 12, 48, 49, 50, 51, 52, 53, 54, 55, 56] (by decide +kernel) (by decide +kernel)
set_option maxRecDepth 20000 in
theorem gX1_lendStones_X1_hasDealer : GoodIn wsX1_lendStones (wsV RX1 69 RX1 yX1_hasDealer wsX1_hasDealer) := goodIn_app (goodIn_of _ (by decide +kernel)) ggX1_lendStones_X1_hasDealer
set_option maxRecDepth 20000 in
theorem ggX1_lendStones_X1_canLend : GoodIn wsX1_lendStones wsX1_canLend := goodIn_r _ [16, 1, 17, 18, 19, 10, 20, 21, 22, 23, 24, 25, 26, 27, 28, 29, 30, 31, 32, 33, 34, 35, 36, 48, 49, 50, 51, 52, 53, 54, 55, 56, 57, 58, 59, 60, 61, 62, 63, 64, 65, 66, 67, 68, 69, 70] (by decide +kernel) (by decide +kernel)
set_option maxRecDepth 20000 in
theorem gX1_lendStones_X1_canLend : GoodIn wsX1_lendStones (wsV RX1 101 RX1 yX1_canLend wsX1_canLend) := goodIn_app (goodIn_of _ (by decide +kernel)) ggX1_lendStones_X1_canLend
set_option maxRecDepth 20000 in
theorem ggX1_lendStones_X2_add : GoodIn wsX1_lendStones wsX2_add := goodIn_r _ [41, 42, 43, 44, 45, 46, 47, 71, 72, 73, 74, 75, 76] (by decide +kernel) (by decide +kernel)
set_option maxRecDepth 20000 in
theorem gX1_lendStones_X2_add : GoodIn wsX1_lendStones (wsV RX1 104 RX2 yX2_add wsX2_add) := goodIn_app (goodIn_of _ (by decide +kernel)) ggX1_lendStones_X2_add
set_option maxRecDepth 20000 in
theorem ggX1_lendStones_X1_priceOf : GoodIn wsX1_lendStones wsX1_priceOf := goodIn_r _ [20, 21, 1, 22, 23, 24, 25, 26, 27, 28, 29, 30, 31, 32, 33, 34, 35, 36, 48, 49, 50, 51, 52, 53, 54, 55, 56, 57, 58, 59, 60, 61, 62, 63, 64, 65, 66, 67, 68, 69, 70] (by decide +kernel) (by decide +kernel)
set_option maxRecDepth 20000 in
theorem gX1_lendStones_X1_priceOf : GoodIn wsX1_lendStones (wsV RX1 113 RX1 yX1_priceOf wsX1_priceOf) := goodIn_app (goodIn_of _ (by decide +kernel)) ggX1_lendStones_X1_priceOf
theorem dX1_lendStones_0 : decode cX1_lendStones 0 = .ok (.aload_n 0, 1) := by decide +kernel
theorem dX1_lendStones_1 : decode cX1_lendStones 1 = .ok (.iload_n 1, 1) := by decide +kernel
theorem dX1_lendStones_2 : decode cX1_lendStones 2 = .ok (.invokevirtual 69, 3) := by decide +kernel
theorem dX1_lendStones_5 : decode cX1_lendStones 5 = .ok (.ifCond .eq 45, 3) := by decide +kernel
theorem dX1_lendStones_8 : decode cX1_lendStones 8 = .ok (.aload_n 0, 1) := by decide +kernel
theorem dX1_lendStones_9 : decode cX1_lendStones 9 = .ok (.iload_n 2, 1) := by decide +kernel
theorem dX1_lendStones_10 : decode cX1_lendStones 10 = .ok (.invokevirtual 69, 3) := by decide +kernel
theorem dX1_lendStones_13 : decode cX1_lendStones 13 = .ok (.ifCond .eq 37, 3) := by decide +kernel
theorem dX1_lendStones_16 : decode cX1_lendStones 16 = .ok (.iload_n 1, 1) := by decide +kernel
theorem dX1_lendStones_17 : decode cX1_lendStones 17 = .ok (.iload_n 2, 1) := by decide +kernel
theorem dX1_lendStones_18 : decode cX1_lendStones 18 = .ok (.if_icmp .eq 32, 3) := by decide +kernel
theorem dX1_lendStones_21 : decode cX1_lendStones 21 = .ok (.iload_n 3, 1) := by decide +kernel
theorem dX1_lendStones_22 : decode cX1_lendStones 22 = .ok (.iconst 1, 1) := by decide +kernel
theorem dX1_lendStones_23 : decode cX1_lendStones 23 = .ok (.if_icmp .lt 27, 3) := by decide +kernel
theorem dX1_lendStones_26 : decode cX1_lendStones 26 = .ok (.iload_n 3, 1) := by decide +kernel
theorem dX1_lendStones_27 : decode cX1_lendStones 27 = .ok (.bipush 90, 2) := by decide +kernel
theorem dX1_lendStones_29 : decode cX1_lendStones 29 = .ok (.if_icmp .gt 21, 3) := by decide +kernel
theorem dX1_lendStones_32 : decode cX1_lendStones 32 = .ok (.iload 4, 2) := by decide +kernel
theorem dX1_lendStones_34 : decode cX1_lendStones 34 = .ok (.ifCond .le 16, 3) := by decide +kernel
theorem dX1_lendStones_37 : decode cX1_lendStones 37 = .ok (.iload 4, 2) := by decide +kernel
theorem dX1_lendStones_39 : decode cX1_lendStones 39 = .ok (.aload_n 0, 1) := by decide +kernel
theorem dX1_lendStones_40 : decode cX1_lendStones 40 = .ok (.getfield 21, 3) := by decide +kernel
theorem dX1_lendStones_43 : decode cX1_lendStones 43 = .ok (.getfield 98, 3) := by decide +kernel
theorem dX1_lendStones_46 : decode cX1_lendStones 46 = .ok (.ishr, 1) := by decide +kernel
theorem dX1_lendStones_47 : decode cX1_lendStones 47 = .ok (.ifCond .eq 6, 3) := by decide +kernel
theorem dX1_lendStones_50 : decode cX1_lendStones 50 = .ok (.ldc 77, 2) := by decide +kernel
theorem dX1_lendStones_52 : decode cX1_lendStones 52 = .ok (.ireturn, 1) := by decide +kernel
theorem dX1_lendStones_53 : decode cX1_lendStones 53 = .ok (.aload_n 0, 1) := by decide +kernel
theorem dX1_lendStones_54 : decode cX1_lendStones 54 = .ok (.iload_n 1, 1) := by decide +kernel
theorem dX1_lendStones_55 : decode cX1_lendStones 55 = .ok (.iload 4, 2) := by decide +kernel
theorem dX1_lendStones_57 : decode cX1_lendStones 57 = .ok (.invokevirtual 101, 3) := by decide +kernel
theorem dX1_lendStones_60 : decode cX1_lendStones 60 = .ok (.ifCond .ne 6, 3) := by decide +kernel
theorem dX1_lendStones_63 : decode cX1_lendStones 63 = .ok (.ldc 97, 2) := by decide +kernel
theorem dX1_lendStones_65 : decode cX1_lendStones 65 = .ok (.ireturn, 1) := by decide +kernel
theorem dX1_lendStones_66 : decode cX1_lendStones 66 = .ok (.aload_n 0, 1) := by decide +kernel
theorem dX1_lendStones_67 : decode cX1_lendStones 67 = .ok (.getfield 28, 3) := by decide +kernel
theorem dX1_lendStones_70 : decode cX1_lendStones 70 = .ok (.iload_n 1, 1) := by decide +kernel
theorem dX1_lendStones_71 : decode cX1_lendStones 71 = .ok (.iload_n 2, 1) := by decide +kernel
theorem dX1_lendStones_72 : decode cX1_lendStones 72 = .ok (.aload_n 0, 1) := by decide +kernel
theorem dX1_lendStones_73 : decode cX1_lendStones 73 = .ok (.getfield 40, 3) := by decide +kernel
theorem dX1_lendStones_76 : decode cX1_lendStones 76 = .ok (.iload_n 3, 1) := by decide +kernel
theorem dX1_lendStones_77 : decode cX1_lendStones 77 = .ok (.iadd, 1) := by decide +kernel
theorem dX1_lendStones_78 : decode cX1_lendStones 78 = .ok (.iload 4, 2) := by decide +kernel
theorem dX1_lendStones_80 : decode cX1_lendStones 80 = .ok (.invokevirtual 104, 3) := by decide +kernel
theorem dX1_lendStones_83 : decode cX1_lendStones 83 = .ok (.istore 5, 2) := by decide +kernel
theorem dX1_lendStones_85 : decode cX1_lendStones 85 = .ok (.iload 5, 2) := by decide +kernel
theorem dX1_lendStones_87 : decode cX1_lendStones 87 = .ok (.iconst (-1), 1) := by decide +kernel
theorem dX1_lendStones_88 : decode cX1_lendStones 88 = .ok (.if_icmp .ne 6, 3) := by decide +kernel
theorem dX1_lendStones_91 : decode cX1_lendStones 91 = .ok (.ldc 68, 2) := by decide +kernel
theorem dX1_lendStones_93 : decode cX1_lendStones 93 = .ok (.ireturn, 1) := by decide +kernel
theorem dX1_lendStones_94 : decode cX1_lendStones 94 = .ok (.iconst 0, 1) := by decide +kernel
theorem dX1_lendStones_95 : decode cX1_lendStones 95 = .ok (.istore 6, 2) := by decide +kernel
theorem dX1_lendStones_97 : decode cX1_lendStones 97 = .ok (.iload 6, 2) := by decide +kernel
theorem dX1_lendStones_99 : decode cX1_lendStones 99 = .ok (.aload_n 0, 1) := by decide +kernel
theorem dX1_lendStones_100 : decode cX1_lendStones 100 = .ok (.getfield 21, 3) := by decide +kernel
theorem dX1_lendStones_103 : decode cX1_lendStones 103 = .ok (.getfield 98, 3) := by decide +kernel
theorem dX1_lendStones_106 : decode cX1_lendStones 106 = .ok (.if_icmp .ge 59, 3) := by decide +kernel
theorem dX1_lendStones_109 : decode cX1_lendStones 109 = .ok (.iload 4, 2) := by decide +kernel
theorem dX1_lendStones_111 : decode cX1_lendStones 111 = .ok (.iload 6, 2) := by decide +kernel
theorem dX1_lendStones_113 : decode cX1_lendStones 113 = .ok (.ishr, 1) := by decide +kernel
theorem dX1_lendStones_114 : decode cX1_lendStones 114 = .ok (.iconst 1, 1) := by decide +kernel
theorem dX1_lendStones_115 : decode cX1_lendStones 115 = .ok (.iand, 1) := by decide +kernel
theorem dX1_lendStones_116 : decode cX1_lendStones 116 = .ok (.iconst 1, 1) := by decide +kernel
theorem dX1_lendStones_117 : decode cX1_lendStones 117 = .ok (.if_icmp .ne 42, 3) := by decide +kernel
theorem dX1_lendStones_120 : decode cX1_lendStones 120 = .ok (.aload_n 0, 1) := by decide +kernel
theorem dX1_lendStones_121 : decode cX1_lendStones 121 = .ok (.getfield 21, 3) := by decide +kernel
theorem dX1_lendStones_124 : decode cX1_lendStones 124 = .ok (.getfield 105, 3) := by decide +kernel
theorem dX1_lendStones_127 : decode cX1_lendStones 127 = .ok (.iload 6, 2) := by decide +kernel
theorem dX1_lendStones_129 : decode cX1_lendStones 129 = .ok (.iload_n 2, 1) := by decide +kernel
theorem dX1_lendStones_130 : decode cX1_lendStones 130 = .ok (.iastore, 1) := by decide +kernel
theorem dX1_lendStones_131 : decode cX1_lendStones 131 = .ok (.aload_n 0, 1) := by decide +kernel
theorem dX1_lendStones_132 : decode cX1_lendStones 132 = .ok (.getfield 21, 3) := by decide +kernel
theorem dX1_lendStones_135 : decode cX1_lendStones 135 = .ok (.getfield 108, 3) := by decide +kernel
theorem dX1_lendStones_138 : decode cX1_lendStones 138 = .ok (.iload 6, 2) := by decide +kernel
theorem dX1_lendStones_140 : decode cX1_lendStones 140 = .ok (.iload 5, 2) := by decide +kernel
theorem dX1_lendStones_142 : decode cX1_lendStones 142 = .ok (.iastore, 1) := by decide +kernel
theorem dX1_lendStones_143 : decode cX1_lendStones 143 = .ok (.aload_n 0, 1) := by decide +kernel
theorem dX1_lendStones_144 : decode cX1_lendStones 144 = .ok (.getfield 21, 3) := by decide +kernel
theorem dX1_lendStones_147 : decode cX1_lendStones 147 = .ok (.getfield 110, 3) := by decide +kernel
theorem dX1_lendStones_150 : decode cX1_lendStones 150 = .ok (.iload 6, 2) := by decide +kernel
theorem dX1_lendStones_152 : decode cX1_lendStones 152 = .ok (.aload_n 0, 1) := by decide +kernel
theorem dX1_lendStones_153 : decode cX1_lendStones 153 = .ok (.iload 6, 2) := by decide +kernel
theorem dX1_lendStones_155 : decode cX1_lendStones 155 = .ok (.invokevirtual 113, 3) := by decide +kernel
theorem dX1_lendStones_158 : decode cX1_lendStones 158 = .ok (.iastore, 1) := by decide +kernel
theorem dX1_lendStones_159 : decode cX1_lendStones 159 = .ok (.iinc 6 1, 3) := by decide +kernel
theorem dX1_lendStones_162 : decode cX1_lendStones 162 = .ok (.goto (-65), 3) := by decide +kernel
theorem dX1_lendStones_165 : decode cX1_lendStones 165 = .ok (.iload 5, 2) := by decide +kernel
theorem dX1_lendStones_167 : decode cX1_lendStones 167 = .ok (.ireturn, 1) := by decide +kernel
set_option maxRecDepth 20000 in
theorem ggX1_giveBack_X5_has : GoodIn wsX1_giveBack wsX5_has := goodIn_r _ [8, 9, 35, 36, 37, 38, 39, 40, 41, 42, 43, 44] (by decide +kernel) (by decide +kernel)
set_option maxRecDepth 20000 in
theorem gX1_giveBack_X5_has : GoodIn wsX1_giveBack (wsV RX1 117 RX5 yX5_has wsX5_has) := goodIn_app (goodIn_of _ (by decide +kernel)) ggX1_giveBack_X5_has
set_option maxRecDepth 20000 in
theorem ggX1_giveBack_X5_isOut : GoodIn wsX1_giveBack wsX5_isOut := goodIn_r _ [13, 14, 35, 36, 37, 38, 39, 40, 41, 42, 43, 44] (by decide +kernel) (by decide +kernel)
set_option maxRecDepth 20000 in
theorem gX1_giveBack_X5_isOut : GoodIn wsX1_giveBack (wsV RX1 120 RX5 yX5_isOut wsX5_isOut) := goodIn_app (goodIn_of _ (by decide +kernel)) ggX1_giveBack_X5_isOut
set_option maxRecDepth 20000 in
theorem ggX1_giveBack_X5_setWhere : GoodIn wsX1_giveBack wsX5_setWhere := goodIn_r _ [18, 9, 35, 36, 37, 38, 39, 40, 41, 42, 43, 44] (by decide +kernel) (by decide +kernel)
set_option maxRecDepth 20000 in
theorem gX1_giveBack_X5_setWhere : GoodIn wsX1_giveBack (wsV RX1 126 RX5 yX5_setWhere wsX5_setWhere) := goodIn_app (goodIn_of _ (by decide +kernel)) ggX1_giveBack_X5_setWhere
set_option maxRecDepth 20000 in
theorem ggX1_giveBack_J6_bitCount_0f7a4 : GoodIn wsX1_giveBack wsJ6_bitCount_0f7a4 := goodIn_r _ [22, 23, 24, 25] (by decide +kernel) (by decide +kernel)
set_option maxRecDepth 20000 in
theorem gX1_giveBack_J6_bitCount_0f7a4 : GoodIn wsX1_giveBack (va_wsS RX1 130 yJ6_bitCount_0f7a4 wsJ6_bitCount_0f7a4) := goodIn_app (goodIn_of _ (by decide +kernel)) ggX1_giveBack_J6_bitCount_0f7a4
theorem dX1_giveBack_0 : decode cX1_giveBack 0 = .ok (.aload_n 0, 1) := by decide +kernel
theorem dX1_giveBack_1 : decode cX1_giveBack 1 = .ok (.getfield 21, 3) := by decide +kernel
theorem dX1_giveBack_4 : decode cX1_giveBack 4 = .ok (.iload_n 1, 1) := by decide +kernel
theorem dX1_giveBack_5 : decode cX1_giveBack 5 = .ok (.invokevirtual 117, 3) := by decide +kernel
theorem dX1_giveBack_8 : decode cX1_giveBack 8 = .ok (.ifCond .ne 6, 3) := by decide +kernel
theorem dX1_giveBack_11 : decode cX1_giveBack 11 = .ok (.ldc 77, 2) := by decide +kernel
theorem dX1_giveBack_13 : decode cX1_giveBack 13 = .ok (.ireturn, 1) := by decide +kernel
theorem dX1_giveBack_14 : decode cX1_giveBack 14 = .ok (.aload_n 0, 1) := by decide +kernel
theorem dX1_giveBack_15 : decode cX1_giveBack 15 = .ok (.getfield 21, 3) := by decide +kernel
theorem dX1_giveBack_18 : decode cX1_giveBack 18 = .ok (.iload_n 1, 1) := by decide +kernel
theorem dX1_giveBack_19 : decode cX1_giveBack 19 = .ok (.invokevirtual 120, 3) := by decide +kernel
theorem dX1_giveBack_22 : decode cX1_giveBack 22 = .ok (.ifCond .ne 6, 3) := by decide +kernel
theorem dX1_giveBack_25 : decode cX1_giveBack 25 = .ok (.ldc 97, 2) := by decide +kernel
theorem dX1_giveBack_27 : decode cX1_giveBack 27 = .ok (.ireturn, 1) := by decide +kernel
theorem dX1_giveBack_28 : decode cX1_giveBack 28 = .ok (.aload_n 0, 1) := by decide +kernel
theorem dX1_giveBack_29 : decode cX1_giveBack 29 = .ok (.getfield 21, 3) := by decide +kernel
theorem dX1_giveBack_32 : decode cX1_giveBack 32 = .ok (.getfield 108, 3) := by decide +kernel
theorem dX1_giveBack_35 : decode cX1_giveBack 35 = .ok (.iload_n 1, 1) := by decide +kernel
theorem dX1_giveBack_36 : decode cX1_giveBack 36 = .ok (.iaload, 1) := by decide +kernel
theorem dX1_giveBack_37 : decode cX1_giveBack 37 = .ok (.istore_n 2, 1) := by decide +kernel
theorem dX1_giveBack_38 : decode cX1_giveBack 38 = .ok (.aload_n 0, 1) := by decide +kernel
theorem dX1_giveBack_39 : decode cX1_giveBack 39 = .ok (.getfield 21, 3) := by decide +kernel
theorem dX1_giveBack_42 : decode cX1_giveBack 42 = .ok (.getfield 105, 3) := by decide +kernel
theorem dX1_giveBack_45 : decode cX1_giveBack 45 = .ok (.iload_n 1, 1) := by decide +kernel
theorem dX1_giveBack_46 : decode cX1_giveBack 46 = .ok (.aload_n 0, 1) := by decide +kernel
theorem dX1_giveBack_47 : decode cX1_giveBack 47 = .ok (.getfield 21, 3) := by decide +kernel
theorem dX1_giveBack_50 : decode cX1_giveBack 50 = .ok (.getfield 123, 3) := by decide +kernel
theorem dX1_giveBack_53 : decode cX1_giveBack 53 = .ok (.iload_n 1, 1) := by decide +kernel
theorem dX1_giveBack_54 : decode cX1_giveBack 54 = .ok (.iaload, 1) := by decide +kernel
theorem dX1_giveBack_55 : decode cX1_giveBack 55 = .ok (.iastore, 1) := by decide +kernel
theorem dX1_giveBack_56 : decode cX1_giveBack 56 = .ok (.aload_n 0, 1) := by decide +kernel
theorem dX1_giveBack_57 : decode cX1_giveBack 57 = .ok (.getfield 21, 3) := by decide +kernel
theorem dX1_giveBack_60 : decode cX1_giveBack 60 = .ok (.getfield 108, 3) := by decide +kernel
theorem dX1_giveBack_63 : decode cX1_giveBack 63 = .ok (.iload_n 1, 1) := by decide +kernel
theorem dX1_giveBack_64 : decode cX1_giveBack 64 = .ok (.iconst (-1), 1) := by decide +kernel
theorem dX1_giveBack_65 : decode cX1_giveBack 65 = .ok (.iastore, 1) := by decide +kernel
theorem dX1_giveBack_66 : decode cX1_giveBack 66 = .ok (.aload_n 0, 1) := by decide +kernel
theorem dX1_giveBack_67 : decode cX1_giveBack 67 = .ok (.getfield 21, 3) := by decide +kernel
theorem dX1_giveBack_70 : decode cX1_giveBack 70 = .ok (.aload_n 0, 1) := by decide +kernel
theorem dX1_giveBack_71 : decode cX1_giveBack 71 = .ok (.getfield 21, 3) := by decide +kernel
theorem dX1_giveBack_74 : decode cX1_giveBack 74 = .ok (.getfield 108, 3) := by decide +kernel
theorem dX1_giveBack_77 : decode cX1_giveBack 77 = .ok (.iload_n 2, 1) := by decide +kernel
theorem dX1_giveBack_78 : decode cX1_giveBack 78 = .ok (.invokevirtual 126, 3) := by decide +kernel
theorem dX1_giveBack_81 : decode cX1_giveBack 81 = .ok (.invokestatic 130, 3) := by decide +kernel
theorem dX1_giveBack_84 : decode cX1_giveBack 84 = .ok (.ireturn, 1) := by decide +kernel
set_option maxRecDepth 20000 in
theorem ggX1_keepStone_X5_has : GoodIn wsX1_keepStone wsX5_has := goodIn_r _ [8, 9, 42, 43, 44, 45, 46, 47, 48, 49, 50, 51] (by decide +kernel) (by decide +kernel)
set_option maxRecDepth 20000 in
theorem gX1_keepStone_X5_has : GoodIn wsX1_keepStone (wsV RX1 117 RX5 yX5_has wsX5_has) := goodIn_app (goodIn_of _ (by decide +kernel)) ggX1_keepStone_X5_has
set_option maxRecDepth 20000 in
theorem ggX1_keepStone_X5_isOut : GoodIn wsX1_keepStone wsX5_isOut := goodIn_r _ [13, 14, 42, 43, 44, 45, 46, 47, 48, 49, 50, 51] (by decide +kernel) (by decide +kernel)
set_option maxRecDepth 20000 in
theorem gX1_keepStone_X5_isOut : GoodIn wsX1_keepStone (wsV RX1 120 RX5 yX5_isOut wsX5_isOut) := goodIn_app (goodIn_of _ (by decide +kernel)) ggX1_keepStone_X5_isOut
set_option maxRecDepth 20000 in
theorem ggX1_keepStone_X1_keepFor : GoodIn wsX1_keepStone wsX1_keepFor := goodIn_r _ [19, 1, 20, 21, 22, 23, 24, 18, 25, 26, 27, 28, 29, 30, 31, 32, 33, 34, 35, 36, 37, 38, 39, 40, 41, 42, 43, 44, 45, 46, 47, 48, 49, 50, 51, 52, 53, 54, 55, 56, 57] (by decide +kernel) (by decide +kernel)
set_option maxRecDepth 20000 in
theorem gX1_keepStone_X1_keepFor : GoodIn wsX1_keepStone (wsV RX1 135 RX1 yX1_keepFor wsX1_keepFor) := goodIn_app (goodIn_of _ (by decide +kernel)) ggX1_keepStone_X1_keepFor
theorem dX1_keepStone_0 : decode cX1_keepStone 0 = .ok (.aload_n 0, 1) := by decide +kernel
theorem dX1_keepStone_1 : decode cX1_keepStone 1 = .ok (.getfield 21, 3) := by decide +kernel
theorem dX1_keepStone_4 : decode cX1_keepStone 4 = .ok (.iload_n 1, 1) := by decide +kernel
theorem dX1_keepStone_5 : decode cX1_keepStone 5 = .ok (.invokevirtual 117, 3) := by decide +kernel
theorem dX1_keepStone_8 : decode cX1_keepStone 8 = .ok (.ifCond .ne 6, 3) := by decide +kernel
theorem dX1_keepStone_11 : decode cX1_keepStone 11 = .ok (.ldc 77, 2) := by decide +kernel
theorem dX1_keepStone_13 : decode cX1_keepStone 13 = .ok (.ireturn, 1) := by decide +kernel
theorem dX1_keepStone_14 : decode cX1_keepStone 14 = .ok (.aload_n 0, 1) := by decide +kernel
theorem dX1_keepStone_15 : decode cX1_keepStone 15 = .ok (.getfield 21, 3) := by decide +kernel
theorem dX1_keepStone_18 : decode cX1_keepStone 18 = .ok (.iload_n 1, 1) := by decide +kernel
theorem dX1_keepStone_19 : decode cX1_keepStone 19 = .ok (.invokevirtual 120, 3) := by decide +kernel
theorem dX1_keepStone_22 : decode cX1_keepStone 22 = .ok (.ifCond .ne 6, 3) := by decide +kernel
theorem dX1_keepStone_25 : decode cX1_keepStone 25 = .ok (.ldc 97, 2) := by decide +kernel
theorem dX1_keepStone_27 : decode cX1_keepStone 27 = .ok (.ireturn, 1) := by decide +kernel
theorem dX1_keepStone_28 : decode cX1_keepStone 28 = .ok (.aload_n 0, 1) := by decide +kernel
theorem dX1_keepStone_29 : decode cX1_keepStone 29 = .ok (.getfield 21, 3) := by decide +kernel
theorem dX1_keepStone_32 : decode cX1_keepStone 32 = .ok (.getfield 110, 3) := by decide +kernel
theorem dX1_keepStone_35 : decode cX1_keepStone 35 = .ok (.iload_n 1, 1) := by decide +kernel
theorem dX1_keepStone_36 : decode cX1_keepStone 36 = .ok (.iaload, 1) := by decide +kernel
theorem dX1_keepStone_37 : decode cX1_keepStone 37 = .ok (.istore_n 2, 1) := by decide +kernel
theorem dX1_keepStone_38 : decode cX1_keepStone 38 = .ok (.aload_n 0, 1) := by decide +kernel
theorem dX1_keepStone_39 : decode cX1_keepStone 39 = .ok (.iload_n 1, 1) := by decide +kernel
theorem dX1_keepStone_40 : decode cX1_keepStone 40 = .ok (.iload_n 2, 1) := by decide +kernel
theorem dX1_keepStone_41 : decode cX1_keepStone 41 = .ok (.invokevirtual 135, 3) := by decide +kernel
theorem dX1_keepStone_44 : decode cX1_keepStone 44 = .ok (.iload_n 2, 1) := by decide +kernel
theorem dX1_keepStone_45 : decode cX1_keepStone 45 = .ok (.ireturn, 1) := by decide +kernel
set_option maxRecDepth 20000 in
theorem ggX1_sellStone_X5_has : GoodIn wsX1_sellStone wsX5_has := goodIn_r _ [10, 11, 37, 38, 39, 40, 41, 42, 43, 44, 45, 46] (by decide +kernel) (by decide +kernel)
set_option maxRecDepth 20000 in
theorem gX1_sellStone_X5_has : GoodIn wsX1_sellStone (wsV RX1 117 RX5 yX5_has wsX5_has) := goodIn_app (goodIn_of _ (by decide +kernel)) ggX1_sellStone_X5_has
set_option maxRecDepth 20000 in
theorem ggX1_sellStone_X5_isOut : GoodIn wsX1_sellStone wsX5_isOut := goodIn_r _ [15, 16, 37, 38, 39, 40, 41, 42, 43, 44, 45, 46] (by decide +kernel) (by decide +kernel)
set_option maxRecDepth 20000 in
theorem gX1_sellStone_X5_isOut : GoodIn wsX1_sellStone (wsV RX1 120 RX5 yX5_isOut wsX5_isOut) := goodIn_app (goodIn_of _ (by decide +kernel)) ggX1_sellStone_X5_isOut
set_option maxRecDepth 20000 in
theorem ggX1_sellStone_X5_isSold : GoodIn wsX1_sellStone wsX5_isSold := goodIn_r _ [20, 21, 37, 38, 39, 40, 41, 42, 43, 44, 45, 46] (by decide +kernel) (by decide +kernel)
set_option maxRecDepth 20000 in
theorem gX1_sellStone_X5_isSold : GoodIn wsX1_sellStone (wsV RX1 139 RX5 yX5_isSold wsX5_isSold) := goodIn_app (goodIn_of _ (by decide +kernel)) ggX1_sellStone_X5_isSold
set_option maxRecDepth 20000 in
theorem ggX1_sellStone_X1_hasDealer : GoodIn wsX1_sellStone wsX1_hasDealer := goodIn_r _ [26, 27, 28, 29, 30, 31, 32, 33, 34, 35, 36] (by decide +kernel) (by decide +kernel)
set_option maxRecDepth 20000 in
theorem gX1_sellStone_X1_hasDealer : GoodIn wsX1_sellStone (wsV RX1 69 RX1 yX1_hasDealer wsX1_hasDealer) := goodIn_app (goodIn_of _ (by decide +kernel)) ggX1_sellStone_X1_hasDealer
theorem dX1_sellStone_0 : decode cX1_sellStone 0 = .ok (.aload_n 0, 1) := by decide +kernel
theorem dX1_sellStone_1 : decode cX1_sellStone 1 = .ok (.getfield 21, 3) := by decide +kernel
theorem dX1_sellStone_4 : decode cX1_sellStone 4 = .ok (.iload_n 1, 1) := by decide +kernel
theorem dX1_sellStone_5 : decode cX1_sellStone 5 = .ok (.invokevirtual 117, 3) := by decide +kernel
theorem dX1_sellStone_8 : decode cX1_sellStone 8 = .ok (.ifCond .eq 15, 3) := by decide +kernel
theorem dX1_sellStone_11 : decode cX1_sellStone 11 = .ok (.iload_n 2, 1) := by decide +kernel
theorem dX1_sellStone_12 : decode cX1_sellStone 12 = .ok (.iconst 1, 1) := by decide +kernel
theorem dX1_sellStone_13 : decode cX1_sellStone 13 = .ok (.if_icmp .lt 10, 3) := by decide +kernel
theorem dX1_sellStone_16 : decode cX1_sellStone 16 = .ok (.iload_n 2, 1) := by decide +kernel
theorem dX1_sellStone_17 : decode cX1_sellStone 17 = .ok (.sipush 9999, 3) := by decide +kernel
theorem dX1_sellStone_20 : decode cX1_sellStone 20 = .ok (.if_icmp .le 6, 3) := by decide +kernel
theorem dX1_sellStone_23 : decode cX1_sellStone 23 = .ok (.ldc 77, 2) := by decide +kernel
theorem dX1_sellStone_25 : decode cX1_sellStone 25 = .ok (.ireturn, 1) := by decide +kernel
theorem dX1_sellStone_26 : decode cX1_sellStone 26 = .ok (.aload_n 0, 1) := by decide +kernel
theorem dX1_sellStone_27 : decode cX1_sellStone 27 = .ok (.getfield 21, 3) := by decide +kernel
theorem dX1_sellStone_30 : decode cX1_sellStone 30 = .ok (.getfield 123, 3) := by decide +kernel
theorem dX1_sellStone_33 : decode cX1_sellStone 33 = .ok (.iload_n 1, 1) := by decide +kernel
theorem dX1_sellStone_34 : decode cX1_sellStone 34 = .ok (.iaload, 1) := by decide +kernel
theorem dX1_sellStone_35 : decode cX1_sellStone 35 = .ok (.istore_n 3, 1) := by decide +kernel
theorem dX1_sellStone_36 : decode cX1_sellStone 36 = .ok (.aload_n 0, 1) := by decide +kernel
theorem dX1_sellStone_37 : decode cX1_sellStone 37 = .ok (.getfield 21, 3) := by decide +kernel
theorem dX1_sellStone_40 : decode cX1_sellStone 40 = .ok (.iload_n 1, 1) := by decide +kernel
theorem dX1_sellStone_41 : decode cX1_sellStone 41 = .ok (.invokevirtual 120, 3) := by decide +kernel
theorem dX1_sellStone_44 : decode cX1_sellStone 44 = .ok (.ifCond .ne 22, 3) := by decide +kernel
theorem dX1_sellStone_47 : decode cX1_sellStone 47 = .ok (.aload_n 0, 1) := by decide +kernel
theorem dX1_sellStone_48 : decode cX1_sellStone 48 = .ok (.getfield 21, 3) := by decide +kernel
theorem dX1_sellStone_51 : decode cX1_sellStone 51 = .ok (.iload_n 1, 1) := by decide +kernel
theorem dX1_sellStone_52 : decode cX1_sellStone 52 = .ok (.invokevirtual 139, 3) := by decide +kernel
theorem dX1_sellStone_55 : decode cX1_sellStone 55 = .ok (.ifCond .ne 11, 3) := by decide +kernel
theorem dX1_sellStone_58 : decode cX1_sellStone 58 = .ok (.aload_n 0, 1) := by decide +kernel
theorem dX1_sellStone_59 : decode cX1_sellStone 59 = .ok (.iload_n 3, 1) := by decide +kernel
theorem dX1_sellStone_60 : decode cX1_sellStone 60 = .ok (.invokevirtual 69, 3) := by decide +kernel
theorem dX1_sellStone_63 : decode cX1_sellStone 63 = .ok (.ifCond .ne 6, 3) := by decide +kernel
theorem dX1_sellStone_66 : decode cX1_sellStone 66 = .ok (.ldc 97, 2) := by decide +kernel
theorem dX1_sellStone_68 : decode cX1_sellStone 68 = .ok (.ireturn, 1) := by decide +kernel
theorem dX1_sellStone_69 : decode cX1_sellStone 69 = .ok (.aload_n 0, 1) := by decide +kernel
theorem dX1_sellStone_70 : decode cX1_sellStone 70 = .ok (.getfield 21, 3) := by decide +kernel
theorem dX1_sellStone_73 : decode cX1_sellStone 73 = .ok (.getfield 142, 3) := by decide +kernel
theorem dX1_sellStone_76 : decode cX1_sellStone 76 = .ok (.iload_n 1, 1) := by decide +kernel
theorem dX1_sellStone_77 : decode cX1_sellStone 77 = .ok (.iload_n 2, 1) := by decide +kernel
theorem dX1_sellStone_78 : decode cX1_sellStone 78 = .ok (.iastore, 1) := by decide +kernel
theorem dX1_sellStone_79 : decode cX1_sellStone 79 = .ok (.aload_n 0, 1) := by decide +kernel
theorem dX1_sellStone_80 : decode cX1_sellStone 80 = .ok (.getfield 21, 3) := by decide +kernel
theorem dX1_sellStone_83 : decode cX1_sellStone 83 = .ok (.getfield 123, 3) := by decide +kernel
theorem dX1_sellStone_86 : decode cX1_sellStone 86 = .ok (.iload_n 1, 1) := by decide +kernel
theorem dX1_sellStone_87 : decode cX1_sellStone 87 = .ok (.iconst (-1), 1) := by decide +kernel
theorem dX1_sellStone_88 : decode cX1_sellStone 88 = .ok (.iastore, 1) := by decide +kernel
theorem dX1_sellStone_89 : decode cX1_sellStone 89 = .ok (.aload_n 0, 1) := by decide +kernel
theorem dX1_sellStone_90 : decode cX1_sellStone 90 = .ok (.getfield 21, 3) := by decide +kernel
theorem dX1_sellStone_93 : decode cX1_sellStone 93 = .ok (.getfield 105, 3) := by decide +kernel
theorem dX1_sellStone_96 : decode cX1_sellStone 96 = .ok (.iload_n 1, 1) := by decide +kernel
theorem dX1_sellStone_97 : decode cX1_sellStone 97 = .ok (.iconst (-1), 1) := by decide +kernel
theorem dX1_sellStone_98 : decode cX1_sellStone 98 = .ok (.iastore, 1) := by decide +kernel
theorem dX1_sellStone_99 : decode cX1_sellStone 99 = .ok (.aload_n 0, 1) := by decide +kernel
theorem dX1_sellStone_100 : decode cX1_sellStone 100 = .ok (.getfield 32, 3) := by decide +kernel
theorem dX1_sellStone_103 : decode cX1_sellStone 103 = .ok (.iload_n 3, 1) := by decide +kernel
theorem dX1_sellStone_104 : decode cX1_sellStone 104 = .ok (.dup2, 1) := by decide +kernel
theorem dX1_sellStone_105 : decode cX1_sellStone 105 = .ok (.iaload, 1) := by decide +kernel
theorem dX1_sellStone_106 : decode cX1_sellStone 106 = .ok (.iload_n 2, 1) := by decide +kernel
theorem dX1_sellStone_107 : decode cX1_sellStone 107 = .ok (.iadd, 1) := by decide +kernel
theorem dX1_sellStone_108 : decode cX1_sellStone 108 = .ok (.iastore, 1) := by decide +kernel
theorem dX1_sellStone_109 : decode cX1_sellStone 109 = .ok (.aload_n 0, 1) := by decide +kernel
theorem dX1_sellStone_110 : decode cX1_sellStone 110 = .ok (.getfield 32, 3) := by decide +kernel
theorem dX1_sellStone_113 : decode cX1_sellStone 113 = .ok (.iload_n 3, 1) := by decide +kernel
theorem dX1_sellStone_114 : decode cX1_sellStone 114 = .ok (.iaload, 1) := by decide +kernel
theorem dX1_sellStone_115 : decode cX1_sellStone 115 = .ok (.ldc 145, 2) := by decide +kernel
theorem dX1_sellStone_117 : decode cX1_sellStone 117 = .ok (.iadd, 1) := by decide +kernel
theorem dX1_sellStone_118 : decode cX1_sellStone 118 = .ok (.ireturn, 1) := by decide +kernel
set_option maxRecDepth 20000 in
theorem ggX1_regrade_X5_has : GoodIn wsX1_regrade wsX5_has := goodIn_r _ [8, 9, 52, 53, 54, 55, 56, 57, 58, 59, 60, 61] (by decide +kernel) (by decide +kernel)
set_option maxRecDepth 20000 in
theorem gX1_regrade_X5_has : GoodIn wsX1_regrade (wsV RX1 117 RX5 yX5_has wsX5_has) := goodIn_app (goodIn_of _ (by decide +kernel)) ggX1_regrade_X5_has
set_option maxRecDepth 20000 in
theorem ggX1_regrade_X6_isLook : GoodIn wsX1_regrade wsX6_isLook := goodIn_r _ [12] (by decide +kernel) (by decide +kernel)
set_option maxRecDepth 20000 in
theorem gX1_regrade_X6_isLook_n73 : GoodIn wsX1_regrade (wsX6_isLook) := ggX1_regrade_X6_isLook
set_option maxRecDepth 20000 in
theorem ggX1_regrade_X5_isSold : GoodIn wsX1_regrade wsX5_isSold := goodIn_r _ [16, 17, 52, 53, 54, 55, 56, 57, 58, 59, 60, 61] (by decide +kernel) (by decide +kernel)
