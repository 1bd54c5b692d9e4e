theorem dX7_undo_4 : decode cX7_undo 4 = .ok (.ifCond .ne 6, 3) := by decide +kernel
theorem dX7_undo_7 : decode cX7_undo 7 = .ok (.ldc 69, 2) := by decide +kernel
theorem dX7_undo_9 : decode cX7_undo 9 = .ok (.ireturn, 1) := by decide +kernel
theorem dX7_undo_10 : decode cX7_undo 10 = .ok (.aload_n 0, 1) := by decide +kernel
theorem dX7_undo_11 : decode cX7_undo 11 = .ok (.dup, 1) := by decide +kernel
theorem dX7_undo_12 : decode cX7_undo 12 = .ok (.getfield 32, 3) := by decide +kernel
theorem dX7_undo_15 : decode cX7_undo 15 = .ok (.iconst 1, 1) := by decide +kernel
theorem dX7_undo_16 : decode cX7_undo 16 = .ok (.isub, 1) := by decide +kernel
theorem dX7_undo_17 : decode cX7_undo 17 = .ok (.putfield 32, 3) := by decide +kernel
theorem dX7_undo_20 : decode cX7_undo 20 = .ok (.iconst 0, 1) := by decide +kernel
theorem dX7_undo_21 : decode cX7_undo 21 = .ok (.istore_n 1, 1) := by decide +kernel
theorem dX7_undo_22 : decode cX7_undo 22 = .ok (.iload_n 1, 1) := by decide +kernel
theorem dX7_undo_23 : decode cX7_undo 23 = .ok (.sipush 664, 3) := by decide +kernel
theorem dX7_undo_26 : decode cX7_undo 26 = .ok (.if_icmp .ge 30, 3) := by decide +kernel
theorem dX7_undo_29 : decode cX7_undo 29 = .ok (.aload_n 0, 1) := by decide +kernel
theorem dX7_undo_30 : decode cX7_undo 30 = .ok (.getfield 7, 3) := by decide +kernel
theorem dX7_undo_33 : decode cX7_undo 33 = .ok (.iload_n 1, 1) := by decide +kernel
theorem dX7_undo_34 : decode cX7_undo 34 = .ok (.aload_n 0, 1) := by decide +kernel
theorem dX7_undo_35 : decode cX7_undo 35 = .ok (.getfield 19, 3) := by decide +kernel
theorem dX7_undo_38 : decode cX7_undo 38 = .ok (.sipush 664, 3) := by decide +kernel
theorem dX7_undo_41 : decode cX7_undo 41 = .ok (.aload_n 0, 1) := by decide +kernel
theorem dX7_undo_42 : decode cX7_undo 42 = .ok (.getfield 32, 3) := by decide +kernel
theorem dX7_undo_45 : decode cX7_undo 45 = .ok (.imul, 1) := by decide +kernel
theorem dX7_undo_46 : decode cX7_undo 46 = .ok (.iload_n 1, 1) := by decide +kernel
theorem dX7_undo_47 : decode cX7_undo 47 = .ok (.iadd, 1) := by decide +kernel
theorem dX7_undo_48 : decode cX7_undo 48 = .ok (.iaload, 1) := by decide +kernel
theorem dX7_undo_49 : decode cX7_undo 49 = .ok (.iastore, 1) := by decide +kernel
theorem dX7_undo_50 : decode cX7_undo 50 = .ok (.iinc 1 1, 3) := by decide +kernel
theorem dX7_undo_53 : decode cX7_undo 53 = .ok (.goto (-31), 3) := by decide +kernel
theorem dX7_undo_56 : decode cX7_undo 56 = .ok (.aload_n 0, 1) := by decide +kernel
theorem dX7_undo_57 : decode cX7_undo 57 = .ok (.getfield 32, 3) := by decide +kernel
theorem dX7_undo_60 : decode cX7_undo 60 = .ok (.ireturn, 1) := by decide +kernel
set_option maxRecDepth 20000 in
theorem ggX7_type_X7_in : GoodIn wsX7_type wsX7_in := goodIn_r _ [8] (by decide +kernel) (by decide +kernel)
set_option maxRecDepth 20000 in
theorem gX7_type_X7_in : GoodIn wsX7_type (va_wsS RX7 36 yX7_in wsX7_in) := goodIn_app (goodIn_of _ (by decide +kernel)) ggX7_type_X7_in
theorem dX7_type_0 : decode cX7_type 0 = .ok (.iload_n 1, 1) := by decide +kernel
theorem dX7_type_1 : decode cX7_type 1 = .ok (.bipush 32, 2) := by decide +kernel
theorem dX7_type_3 : decode cX7_type 3 = .ok (.bipush 126, 2) := by decide +kernel
theorem dX7_type_5 : decode cX7_type 5 = .ok (.invokestatic 36, 3) := by decide +kernel
theorem dX7_type_8 : decode cX7_type 8 = .ok (.ifCond .ne 6, 3) := by decide +kernel
theorem dX7_type_11 : decode cX7_type 11 = .ok (.ldc 28, 2) := by decide +kernel
theorem dX7_type_13 : decode cX7_type 13 = .ok (.ireturn, 1) := by decide +kernel
theorem dX7_type_14 : decode cX7_type 14 = .ok (.aload_n 0, 1) := by decide +kernel
theorem dX7_type_15 : decode cX7_type 15 = .ok (.getfield 152, 3) := by decide +kernel
theorem dX7_type_18 : decode cX7_type 18 = .ok (.bipush 60, 2) := by decide +kernel
theorem dX7_type_20 : decode cX7_type 20 = .ok (.if_icmp .ne 6, 3) := by decide +kernel
theorem dX7_type_23 : decode cX7_type 23 = .ok (.ldc 70, 2) := by decide +kernel
theorem dX7_type_25 : decode cX7_type 25 = .ok (.ireturn, 1) := by decide +kernel
theorem dX7_type_26 : decode cX7_type 26 = .ok (.aload_n 0, 1) := by decide +kernel
theorem dX7_type_27 : decode cX7_type 27 = .ok (.getfield 22, 3) := by decide +kernel
theorem dX7_type_30 : decode cX7_type 30 = .ok (.aload_n 0, 1) := by decide +kernel
theorem dX7_type_31 : decode cX7_type 31 = .ok (.getfield 152, 3) := by decide +kernel
theorem dX7_type_34 : decode cX7_type 34 = .ok (.iload_n 1, 1) := by decide +kernel
theorem dX7_type_35 : decode cX7_type 35 = .ok (.iastore, 1) := by decide +kernel
theorem dX7_type_36 : decode cX7_type 36 = .ok (.aload_n 0, 1) := by decide +kernel
theorem dX7_type_37 : decode cX7_type 37 = .ok (.dup, 1) := by decide +kernel
theorem dX7_type_38 : decode cX7_type 38 = .ok (.getfield 152, 3) := by decide +kernel
theorem dX7_type_41 : decode cX7_type 41 = .ok (.iconst 1, 1) := by decide +kernel
theorem dX7_type_42 : decode cX7_type 42 = .ok (.iadd, 1) := by decide +kernel
theorem dX7_type_43 : decode cX7_type 43 = .ok (.putfield 152, 3) := by decide +kernel
theorem dX7_type_46 : decode cX7_type 46 = .ok (.aload_n 0, 1) := by decide +kernel
theorem dX7_type_47 : decode cX7_type 47 = .ok (.getfield 152, 3) := by decide +kernel
theorem dX7_type_50 : decode cX7_type 50 = .ok (.ireturn, 1) := by decide +kernel
theorem dX7_clearText_0 : decode cX7_clearText 0 = .ok (.aload_n 0, 1) := by decide +kernel
theorem dX7_clearText_1 : decode cX7_clearText 1 = .ok (.getfield 152, 3) := by decide +kernel
theorem dX7_clearText_4 : decode cX7_clearText 4 = .ok (.istore_n 1, 1) := by decide +kernel
theorem dX7_clearText_5 : decode cX7_clearText 5 = .ok (.aload_n 0, 1) := by decide +kernel
theorem dX7_clearText_6 : decode cX7_clearText 6 = .ok (.iconst 0, 1) := by decide +kernel
theorem dX7_clearText_7 : decode cX7_clearText 7 = .ok (.putfield 152, 3) := by decide +kernel
theorem dX7_clearText_10 : decode cX7_clearText 10 = .ok (.iload_n 1, 1) := by decide +kernel
theorem dX7_clearText_11 : decode cX7_clearText 11 = .ok (.ireturn, 1) := by decide +kernel
theorem dX7_here_0 : decode cX7_here 0 = .ok (.aload_n 0, 1) := by decide +kernel
theorem dX7_here_1 : decode cX7_here 1 = .ok (.getfield 166, 3) := by decide +kernel
theorem dX7_here_4 : decode cX7_here 4 = .ok (.aload_n 0, 1) := by decide +kernel
theorem dX7_here_5 : decode cX7_here 5 = .ok (.getfield 152, 3) := by decide +kernel
theorem dX7_here_8 : decode cX7_here 8 = .ok (.if_icmp .ge 15, 3) := by decide +kernel
theorem dX7_here_11 : decode cX7_here 11 = .ok (.aload_n 0, 1) := by decide +kernel
theorem dX7_here_12 : decode cX7_here 12 = .ok (.getfield 22, 3) := by decide +kernel
theorem dX7_here_15 : decode cX7_here 15 = .ok (.aload_n 0, 1) := by decide +kernel
theorem dX7_here_16 : decode cX7_here 16 = .ok (.getfield 166, 3) := by decide +kernel
theorem dX7_here_19 : decode cX7_here 19 = .ok (.iaload, 1) := by decide +kernel
theorem dX7_here_20 : decode cX7_here 20 = .ok (.goto 4, 3) := by decide +kernel
theorem dX7_here_23 : decode cX7_here 23 = .ok (.iconst (-1), 1) := by decide +kernel
theorem dX7_here_24 : decode cX7_here 24 = .ok (.ireturn, 1) := by decide +kernel
set_option maxRecDepth 20000 in
theorem ggX7_isDigit_X7_here : GoodIn wsX7_isDigit wsX7_here := goodIn_r _ [5, 6, 7, 8, 12, 13, 14, 15, 16, 17, 18, 19, 20, 21, 22, 23, 24] (by decide +kernel) (by decide +kernel)
set_option maxRecDepth 20000 in
theorem gX7_isDigit_X7_here : GoodIn wsX7_isDigit (wsV RX7 169 RX7 yX7_here wsX7_here) := goodIn_app (goodIn_of _ (by decide +kernel)) ggX7_isDigit_X7_here
set_option maxRecDepth 20000 in
theorem ggX7_isDigit_X7_in : GoodIn wsX7_isDigit wsX7_in := goodIn_r _ [11] (by decide +kernel) (by decide +kernel)
set_option maxRecDepth 20000 in
theorem gX7_isDigit_X7_in : GoodIn wsX7_isDigit (va_wsS RX7 36 yX7_in wsX7_in) := goodIn_app (goodIn_of _ (by decide +kernel)) ggX7_isDigit_X7_in
theorem dX7_isDigit_0 : decode cX7_isDigit 0 = .ok (.aload_n 0, 1) := by decide +kernel
theorem dX7_isDigit_1 : decode cX7_isDigit 1 = .ok (.invokevirtual 169, 3) := by decide +kernel
theorem dX7_isDigit_4 : decode cX7_isDigit 4 = .ok (.bipush 48, 2) := by decide +kernel
theorem dX7_isDigit_6 : decode cX7_isDigit 6 = .ok (.bipush 57, 2) := by decide +kernel
theorem dX7_isDigit_8 : decode cX7_isDigit 8 = .ok (.invokestatic 36, 3) := by decide +kernel
theorem dX7_isDigit_11 : decode cX7_isDigit 11 = .ok (.ireturn, 1) := by decide +kernel
set_option maxRecDepth 20000 in
theorem ggX7_takesSign_X7_here : GoodIn wsX7_takesSign wsX7_here := goodIn_r _ [7, 2, 8, 9, 10, 11, 12, 13, 14, 15, 16, 17, 18, 19, 20, 21, 22] (by decide +kernel) (by decide +kernel)
set_option maxRecDepth 20000 in
theorem gX7_takesSign_X7_here : GoodIn wsX7_takesSign (wsV RX7 169 RX7 yX7_here wsX7_here) := goodIn_app (goodIn_of _ (by decide +kernel)) ggX7_takesSign_X7_here
theorem dX7_takesSign_0 : decode cX7_takesSign 0 = .ok (.aload_n 0, 1) := by decide +kernel
theorem dX7_takesSign_1 : decode cX7_takesSign 1 = .ok (.aload_n 0, 1) := by decide +kernel
theorem dX7_takesSign_2 : decode cX7_takesSign 2 = .ok (.getfield 172, 3) := by decide +kernel
theorem dX7_takesSign_5 : decode cX7_takesSign 5 = .ok (.ifCond .eq 15, 3) := by decide +kernel
theorem dX7_takesSign_8 : decode cX7_takesSign 8 = .ok (.aload_n 0, 1) := by decide +kernel
theorem dX7_takesSign_9 : decode cX7_takesSign 9 = .ok (.invokevirtual 169, 3) := by decide +kernel
theorem dX7_takesSign_12 : decode cX7_takesSign 12 = .ok (.iload_n 1, 1) := by decide +kernel
theorem dX7_takesSign_13 : decode cX7_takesSign 13 = .ok (.if_icmp .ne 7, 3) := by decide +kernel
theorem dX7_takesSign_16 : decode cX7_takesSign 16 = .ok (.iconst 1, 1) := by decide +kernel
theorem dX7_takesSign_17 : decode cX7_takesSign 17 = .ok (.goto 4, 3) := by decide +kernel
theorem dX7_takesSign_20 : decode cX7_takesSign 20 = .ok (.iconst 0, 1) := by decide +kernel
theorem dX7_takesSign_21 : decode cX7_takesSign 21 = .ok (.putfield 172, 3) := by decide +kernel
theorem dX7_takesSign_24 : decode cX7_takesSign 24 = .ok (.aload_n 0, 1) := by decide +kernel
theorem dX7_takesSign_25 : decode cX7_takesSign 25 = .ok (.dup, 1) := by decide +kernel
theorem dX7_takesSign_26 : decode cX7_takesSign 26 = .ok (.getfield 166, 3) := by decide +kernel
theorem dX7_takesSign_29 : decode cX7_takesSign 29 = .ok (.aload_n 0, 1) := by decide +kernel
theorem dX7_takesSign_30 : decode cX7_takesSign 30 = .ok (.getfield 172, 3) := by decide +kernel
theorem dX7_takesSign_33 : decode cX7_takesSign 33 = .ok (.ifCond .eq 7, 3) := by decide +kernel
theorem dX7_takesSign_36 : decode cX7_takesSign 36 = .ok (.iconst 1, 1) := by decide +kernel
theorem dX7_takesSign_37 : decode cX7_takesSign 37 = .ok (.goto 4, 3) := by decide +kernel
theorem dX7_takesSign_40 : decode cX7_takesSign 40 = .ok (.iconst 0, 1) := by decide +kernel
theorem dX7_takesSign_41 : decode cX7_takesSign 41 = .ok (.iadd, 1) := by decide +kernel
theorem dX7_takesSign_42 : decode cX7_takesSign 42 = .ok (.putfield 166, 3) := by decide +kernel
theorem dX7_takesSign_45 : decode cX7_takesSign 45 = .ok (.return_, 1) := by decide +kernel
set_option maxRecDepth 20000 in
theorem ggX7_number_X7_isDigit : GoodIn wsX7_number wsX7_isDigit := goodIn_r _ [7, 8, 9, 10, 6, 11, 2, 12, 13, 14, 15, 16, 17, 18, 19, 20, 21, 22, 23, 24, 25, 26, 27, 28, 29] (by decide +kernel) (by decide +kernel)
set_option maxRecDepth 20000 in
theorem gX7_number_X7_isDigit : GoodIn wsX7_number (wsV RX7 175 RX7 yX7_isDigit wsX7_isDigit) := goodIn_app (goodIn_of _ (by decide +kernel)) ggX7_number_X7_isDigit
set_option maxRecDepth 20000 in
theorem ggX7_number_X7_here : GoodIn wsX7_number wsX7_here := goodIn_r _ [11, 2, 12, 13, 17, 18, 19, 20, 21, 22, 23, 24, 25, 26, 27, 28, 29] (by decide +kernel) (by decide +kernel)
set_option maxRecDepth 20000 in
theorem gX7_number_X7_here : GoodIn wsX7_number (wsV RX7 169 RX7 yX7_here wsX7_here) := goodIn_app (goodIn_of _ (by decide +kernel)) ggX7_number_X7_here
theorem dX7_number_0 : decode cX7_number 0 = .ok (.aload_n 0, 1) := by decide +kernel
theorem dX7_number_1 : decode cX7_number 1 = .ok (.aload_n 0, 1) := by decide +kernel
theorem dX7_number_2 : decode cX7_number 2 = .ok (.getfield 172, 3) := by decide +kernel
theorem dX7_number_5 : decode cX7_number 5 = .ok (.ifCond .eq 14, 3) := by decide +kernel
theorem dX7_number_8 : decode cX7_number 8 = .ok (.aload_n 0, 1) := by decide +kernel
theorem dX7_number_9 : decode cX7_number 9 = .ok (.invokevirtual 175, 3) := by decide +kernel
theorem dX7_number_12 : decode cX7_number 12 = .ok (.ifCond .eq 7, 3) := by decide +kernel
theorem dX7_number_15 : decode cX7_number 15 = .ok (.iconst 1, 1) := by decide +kernel
theorem dX7_number_16 : decode cX7_number 16 = .ok (.goto 4, 3) := by decide +kernel
theorem dX7_number_19 : decode cX7_number 19 = .ok (.iconst 0, 1) := by decide +kernel
theorem dX7_number_20 : decode cX7_number 20 = .ok (.putfield 172, 3) := by decide +kernel
theorem dX7_number_23 : decode cX7_number 23 = .ok (.iconst 0, 1) := by decide +kernel
theorem dX7_number_24 : decode cX7_number 24 = .ok (.istore_n 1, 1) := by decide +kernel
theorem dX7_number_25 : decode cX7_number 25 = .ok (.iconst 0, 1) := by decide +kernel
theorem dX7_number_26 : decode cX7_number 26 = .ok (.istore_n 2, 1) := by decide +kernel
theorem dX7_number_27 : decode cX7_number 27 = .ok (.iload_n 2, 1) := by decide +kernel
theorem dX7_number_28 : decode cX7_number 28 = .ok (.iconst 4, 1) := by decide +kernel
theorem dX7_number_29 : decode cX7_number 29 = .ok (.if_icmp .ge 46, 3) := by decide +kernel
theorem dX7_number_32 : decode cX7_number 32 = .ok (.aload_n 0, 1) := by decide +kernel
theorem dX7_number_33 : decode cX7_number 33 = .ok (.getfield 172, 3) := by decide +kernel
theorem dX7_number_36 : decode cX7_number 36 = .ok (.ifCond .eq 39, 3) := by decide +kernel
theorem dX7_number_39 : decode cX7_number 39 = .ok (.aload_n 0, 1) := by decide +kernel
theorem dX7_number_40 : decode cX7_number 40 = .ok (.invokevirtual 175, 3) := by decide +kernel
theorem dX7_number_43 : decode cX7_number 43 = .ok (.ifCond .eq 32, 3) := by decide +kernel
theorem dX7_number_46 : decode cX7_number 46 = .ok (.bipush 10, 2) := by decide +kernel
theorem dX7_number_48 : decode cX7_number 48 = .ok (.iload_n 1, 1) := by decide +kernel
theorem dX7_number_49 : decode cX7_number 49 = .ok (.imul, 1) := by decide +kernel
theorem dX7_number_50 : decode cX7_number 50 = .ok (.aload_n 0, 1) := by decide +kernel
theorem dX7_number_51 : decode cX7_number 51 = .ok (.invokevirtual 169, 3) := by decide +kernel
theorem dX7_number_54 : decode cX7_number 54 = .ok (.iadd, 1) := by decide +kernel
theorem dX7_number_55 : decode cX7_number 55 = .ok (.bipush 48, 2) := by decide +kernel
theorem dX7_number_57 : decode cX7_number 57 = .ok (.isub, 1) := by decide +kernel
theorem dX7_number_58 : decode cX7_number 58 = .ok (.istore_n 1, 1) := by decide +kernel
theorem dX7_number_59 : decode cX7_number 59 = .ok (.aload_n 0, 1) := by decide +kernel
theorem dX7_number_60 : decode cX7_number 60 = .ok (.dup, 1) := by decide +kernel
theorem dX7_number_61 : decode cX7_number 61 = .ok (.getfield 166, 3) := by decide +kernel
theorem dX7_number_64 : decode cX7_number 64 = .ok (.iconst 1, 1) := by decide +kernel
theorem dX7_number_65 : decode cX7_number 65 = .ok (.iadd, 1) := by decide +kernel
theorem dX7_number_66 : decode cX7_number 66 = .ok (.putfield 166, 3) := by decide +kernel
theorem dX7_number_69 : decode cX7_number 69 = .ok (.iinc 2 1, 3) := by decide +kernel
theorem dX7_number_72 : decode cX7_number 72 = .ok (.goto (-45), 3) := by decide +kernel
theorem dX7_number_75 : decode cX7_number 75 = .ok (.iload_n 1, 1) := by decide +kernel
theorem dX7_number_76 : decode cX7_number 76 = .ok (.ireturn, 1) := by decide +kernel
set_option maxRecDepth 20000 in
theorem ggX7_word_X7_here : GoodIn wsX7_word wsX7_here := goodIn_r _ [6, 1, 7, 8, 12, 13, 14, 15, 16, 17, 18, 19, 20, 21, 22, 23, 24] (by decide +kernel) (by decide +kernel)
set_option maxRecDepth 20000 in
theorem gX7_word_X7_here : GoodIn wsX7_word (wsV RX7 169 RX7 yX7_here wsX7_here) := goodIn_app (goodIn_of _ (by decide +kernel)) ggX7_word_X7_here
set_option maxRecDepth 20000 in
theorem ggX7_word_X7_in : GoodIn wsX7_word wsX7_in := goodIn_r _ [11] (by decide +kernel) (by decide +kernel)
set_option maxRecDepth 20000 in
theorem gX7_word_X7_in : GoodIn wsX7_word (va_wsS RX7 36 yX7_in wsX7_in) := goodIn_app (goodIn_of _ (by decide +kernel)) ggX7_word_X7_in
theorem dX7_word_0 : decode cX7_word 0 = .ok (.iconst 0, 1) := by decide +kernel
theorem dX7_word_1 : decode cX7_word 1 = .ok (.istore_n 1, 1) := by decide +kernel
theorem dX7_word_2 : decode cX7_word 2 = .ok (.iconst 0, 1) := by decide +kernel
theorem dX7_word_3 : decode cX7_word 3 = .ok (.istore_n 2, 1) := by decide +kernel
theorem dX7_word_4 : decode cX7_word 4 = .ok (.aload_n 0, 1) := by decide +kernel
theorem dX7_word_5 : decode cX7_word 5 = .ok (.invokevirtual 169, 3) := by decide +kernel
theorem dX7_word_8 : decode cX7_word 8 = .ok (.bipush 97, 2) := by decide +kernel
theorem dX7_word_10 : decode cX7_word 10 = .ok (.bipush 122, 2) := by decide +kernel
theorem dX7_word_12 : decode cX7_word 12 = .ok (.invokestatic 36, 3) := by decide +kernel
theorem dX7_word_15 : decode cX7_word 15 = .ok (.ifCond .eq 43, 3) := by decide +kernel
theorem dX7_word_18 : decode cX7_word 18 = .ok (.iinc 2 1, 3) := by decide +kernel
theorem dX7_word_21 : decode cX7_word 21 = .ok (.iload_n 2, 1) := by decide +kernel
theorem dX7_word_22 : decode cX7_word 22 = .ok (.iconst 5, 1) := by decide +kernel
theorem dX7_word_23 : decode cX7_word 23 = .ok (.if_icmp .le 7, 3) := by decide +kernel
theorem dX7_word_26 : decode cX7_word 26 = .ok (.iconst (-1), 1) := by decide +kernel
theorem dX7_word_27 : decode cX7_word 27 = .ok (.goto 17, 3) := by decide +kernel
theorem dX7_word_30 : decode cX7_word 30 = .ok (.bipush 32, 2) := by decide +kernel
theorem dX7_word_32 : decode cX7_word 32 = .ok (.iload_n 1, 1) := by decide +kernel
theorem dX7_word_33 : decode cX7_word 33 = .ok (.imul, 1) := by decide +kernel
theorem dX7_word_34 : decode cX7_word 34 = .ok (.aload_n 0, 1) := by decide +kernel
theorem dX7_word_35 : decode cX7_word 35 = .ok (.invokevirtual 169, 3) := by decide +kernel
theorem dX7_word_38 : decode cX7_word 38 = .ok (.iadd, 1) := by decide +kernel
theorem dX7_word_39 : decode cX7_word 39 = .ok (.bipush 97, 2) := by decide +kernel
theorem dX7_word_41 : decode cX7_word 41 = .ok (.isub, 1) := by decide +kernel
theorem dX7_word_42 : decode cX7_word 42 = .ok (.iconst 1, 1) := by decide +kernel
theorem dX7_word_43 : decode cX7_word 43 = .ok (.iadd, 1) := by decide +kernel
theorem dX7_word_44 : decode cX7_word 44 = .ok (.istore_n 1, 1) := by decide +kernel
theorem dX7_word_45 : decode cX7_word 45 = .ok (.aload_n 0, 1) := by decide +kernel
theorem dX7_word_46 : decode cX7_word 46 = .ok (.dup, 1) := by decide +kernel
theorem dX7_word_47 : decode cX7_word 47 = .ok (.getfield 166, 3) := by decide +kernel
theorem dX7_word_50 : decode cX7_word 50 = .ok (.iconst 1, 1) := by decide +kernel
theorem dX7_word_51 : decode cX7_word 51 = .ok (.iadd, 1) := by decide +kernel
theorem dX7_word_52 : decode cX7_word 52 = .ok (.putfield 166, 3) := by decide +kernel
theorem dX7_word_55 : decode cX7_word 55 = .ok (.goto (-51), 3) := by decide +kernel
theorem dX7_word_58 : decode cX7_word 58 = .ok (.iload_n 1, 1) := by decide +kernel
theorem dX7_word_59 : decode cX7_word 59 = .ok (.ireturn, 1) := by decide +kernel
theorem dX7_code_0 : decode cX7_code 0 = .ok (.ldc 179, 2) := by decide +kernel
theorem dX7_code_2 : decode cX7_code 2 = .ok (.iload_n 0, 1) := by decide +kernel
theorem dX7_code_3 : decode cX7_code 3 = .ok (.bipush 96, 2) := by decide +kernel
theorem dX7_code_5 : decode cX7_code 5 = .ok (.isub, 1) := by decide +kernel
theorem dX7_code_6 : decode cX7_code 6 = .ok (.imul, 1) := by decide +kernel
theorem dX7_code_7 : decode cX7_code 7 = .ok (.sipush 1024, 3) := by decide +kernel
theorem dX7_code_10 : decode cX7_code 10 = .ok (.iload_n 1, 1) := by decide +kernel
theorem dX7_code_11 : decode cX7_code 11 = .ok (.bipush 96, 2) := by decide +kernel
theorem dX7_code_13 : decode cX7_code 13 = .ok (.isub, 1) := by decide +kernel
theorem dX7_code_14 : decode cX7_code 14 = .ok (.imul, 1) := by decide +kernel
theorem dX7_code_15 : decode cX7_code 15 = .ok (.iadd, 1) := by decide +kernel
theorem dX7_code_16 : decode cX7_code 16 = .ok (.bipush 32, 2) := by decide +kernel
theorem dX7_code_18 : decode cX7_code 18 = .ok (.iload_n 2, 1) := by decide +kernel
theorem dX7_code_19 : decode cX7_code 19 = .ok (.bipush 96, 2) := by decide +kernel
theorem dX7_code_21 : decode cX7_code 21 = .ok (.isub, 1) := by decide +kernel
theorem dX7_code_22 : decode cX7_code 22 = .ok (.imul, 1) := by decide +kernel
theorem dX7_code_23 : decode cX7_code 23 = .ok (.iadd, 1) := by decide +kernel
theorem dX7_code_24 : decode cX7_code 24 = .ok (.iload_n 3, 1) := by decide +kernel
theorem dX7_code_25 : decode cX7_code 25 = .ok (.iadd, 1) := by decide +kernel
theorem dX7_code_26 : decode cX7_code 26 = .ok (.bipush 96, 2) := by decide +kernel
theorem dX7_code_28 : decode cX7_code 28 = .ok (.isub, 1) := by decide +kernel
theorem dX7_code_29 : decode cX7_code 29 = .ok (.ireturn, 1) := by decide +kernel
set_option maxRecDepth 20000 in
theorem ggX7_sort_X7_code : GoodIn wsX7_sort wsX7_code := goodIn_r _ [4, 5] (by decide +kernel) (by decide +kernel)
set_option maxRecDepth 20000 in
theorem gX7_sort_X7_code : GoodIn wsX7_sort (va_wsS RX7 180 yX7_code wsX7_code) := goodIn_app (goodIn_of _ (by decide +kernel)) ggX7_sort_X7_code
theorem dX7_sort_0 : decode cX7_sort 0 = .ok (.iload_n 0, 1) := by decide +kernel
theorem dX7_sort_1 : decode cX7_sort 1 = .ok (.bipush 108, 2) := by decide +kernel
theorem dX7_sort_3 : decode cX7_sort 3 = .ok (.bipush 101, 2) := by decide +kernel
theorem dX7_sort_5 : decode cX7_sort 5 = .ok (.bipush 110, 2) := by decide +kernel
theorem dX7_sort_7 : decode cX7_sort 7 = .ok (.bipush 100, 2) := by decide +kernel
theorem dX7_sort_9 : decode cX7_sort 9 = .ok (.invokestatic 180, 3) := by decide +kernel
theorem dX7_sort_12 : decode cX7_sort 12 = .ok (.if_icmp .eq 18, 3) := by decide +kernel
theorem dX7_sort_15 : decode cX7_sort 15 = .ok (.iload_n 0, 1) := by decide +kernel
theorem dX7_sort_16 : decode cX7_sort 16 = .ok (.bipush 98, 2) := by decide +kernel
theorem dX7_sort_18 : decode cX7_sort 18 = .ok (.bipush 97, 2) := by decide +kernel
theorem dX7_sort_20 : decode cX7_sort 20 = .ok (.bipush 99, 2) := by decide +kernel
theorem dX7_sort_22 : decode cX7_sort 22 = .ok (.bipush 107, 2) := by decide +kernel
theorem dX7_sort_24 : decode cX7_sort 24 = .ok (.invokestatic 180, 3) := by decide +kernel
theorem dX7_sort_27 : decode cX7_sort 27 = .ok (.if_icmp .ne 24, 3) := by decide +kernel
theorem dX7_sort_30 : decode cX7_sort 30 = .ok (.iload_n 0, 1) := by decide +kernel
theorem dX7_sort_31 : decode cX7_sort 31 = .ok (.bipush 108, 2) := by decide +kernel
theorem dX7_sort_33 : decode cX7_sort 33 = .ok (.bipush 101, 2) := by decide +kernel
theorem dX7_sort_35 : decode cX7_sort 35 = .ok (.bipush 110, 2) := by decide +kernel
theorem dX7_sort_37 : decode cX7_sort 37 = .ok (.bipush 100, 2) := by decide +kernel
theorem dX7_sort_39 : decode cX7_sort 39 = .ok (.invokestatic 180, 3) := by decide +kernel
theorem dX7_sort_42 : decode cX7_sort 42 = .ok (.if_icmp .ne 7, 3) := by decide +kernel
theorem dX7_sort_45 : decode cX7_sort 45 = .ok (.iconst 1, 1) := by decide +kernel
theorem dX7_sort_46 : decode cX7_sort 46 = .ok (.goto 4, 3) := by decide +kernel
theorem dX7_sort_49 : decode cX7_sort 49 = .ok (.iconst 2, 1) := by decide +kernel
theorem dX7_sort_50 : decode cX7_sort 50 = .ok (.ireturn, 1) := by decide +kernel
theorem dX7_sort_51 : decode cX7_sort 51 = .ok (.iload_n 0, 1) := by decide +kernel
theorem dX7_sort_52 : decode cX7_sort 52 = .ok (.bipush 107, 2) := by decide +kernel
theorem dX7_sort_54 : decode cX7_sort 54 = .ok (.bipush 101, 2) := by decide +kernel
theorem dX7_sort_56 : decode cX7_sort 56 = .ok (.bipush 101, 2) := by decide +kernel
theorem dX7_sort_58 : decode cX7_sort 58 = .ok (.bipush 112, 2) := by decide +kernel
theorem dX7_sort_60 : decode cX7_sort 60 = .ok (.invokestatic 180, 3) := by decide +kernel
theorem dX7_sort_63 : decode cX7_sort 63 = .ok (.if_icmp .eq 18, 3) := by decide +kernel
theorem dX7_sort_66 : decode cX7_sort 66 = .ok (.iload_n 0, 1) := by decide +kernel
theorem dX7_sort_67 : decode cX7_sort 67 = .ok (.bipush 115, 2) := by decide +kernel
theorem dX7_sort_69 : decode cX7_sort 69 = .ok (.bipush 101, 2) := by decide +kernel
theorem dX7_sort_71 : decode cX7_sort 71 = .ok (.bipush 108, 2) := by decide +kernel
theorem dX7_sort_73 : decode cX7_sort 73 = .ok (.bipush 108, 2) := by decide +kernel
theorem dX7_sort_75 : decode cX7_sort 75 = .ok (.invokestatic 180, 3) := by decide +kernel
theorem dX7_sort_78 : decode cX7_sort 78 = .ok (.if_icmp .ne 24, 3) := by decide +kernel
theorem dX7_sort_81 : decode cX7_sort 81 = .ok (.iload_n 0, 1) := by decide +kernel
theorem dX7_sort_82 : decode cX7_sort 82 = .ok (.bipush 107, 2) := by decide +kernel
theorem dX7_sort_84 : decode cX7_sort 84 = .ok (.bipush 101, 2) := by decide +kernel
theorem dX7_sort_86 : decode cX7_sort 86 = .ok (.bipush 101, 2) := by decide +kernel
theorem dX7_sort_88 : decode cX7_sort 88 = .ok (.bipush 112, 2) := by decide +kernel
theorem dX7_sort_90 : decode cX7_sort 90 = .ok (.invokestatic 180, 3) := by decide +kernel
theorem dX7_sort_93 : decode cX7_sort 93 = .ok (.if_icmp .ne 7, 3) := by decide +kernel
theorem dX7_sort_96 : decode cX7_sort 96 = .ok (.iconst 3, 1) := by decide +kernel
theorem dX7_sort_97 : decode cX7_sort 97 = .ok (.goto 4, 3) := by decide +kernel
theorem dX7_sort_100 : decode cX7_sort 100 = .ok (.iconst 4, 1) := by decide +kernel
theorem dX7_sort_101 : decode cX7_sort 101 = .ok (.ireturn, 1) := by decide +kernel
theorem dX7_sort_102 : decode cX7_sort 102 = .ok (.iload_n 0, 1) := by decide +kernel
theorem dX7_sort_103 : decode cX7_sort 103 = .ok (.bipush 32, 2) := by decide +kernel
theorem dX7_sort_105 : decode cX7_sort 105 = .ok (.bipush 103, 2) := by decide +kernel
theorem dX7_sort_107 : decode cX7_sort 107 = .ok (.bipush 114, 2) := by decide +kernel
theorem dX7_sort_109 : decode cX7_sort 109 = .ok (.bipush 97, 2) := by decide +kernel
theorem dX7_sort_111 : decode cX7_sort 111 = .ok (.bipush 100, 2) := by decide +kernel
theorem dX7_sort_113 : decode cX7_sort 113 = .ok (.invokestatic 180, 3) := by decide +kernel
theorem dX7_sort_116 : decode cX7_sort 116 = .ok (.imul, 1) := by decide +kernel
theorem dX7_sort_117 : decode cX7_sort 117 = .ok (.iconst 5, 1) := by decide +kernel
theorem dX7_sort_118 : decode cX7_sort 118 = .ok (.iadd, 1) := by decide +kernel
theorem dX7_sort_119 : decode cX7_sort 119 = .ok (.if_icmp .ne 5, 3) := by decide +kernel
theorem dX7_sort_122 : decode cX7_sort 122 = .ok (.iconst 5, 1) := by decide +kernel
theorem dX7_sort_123 : decode cX7_sort 123 = .ok (.ireturn, 1) := by decide +kernel
theorem dX7_sort_124 : decode cX7_sort 124 = .ok (.iload_n 0, 1) := by decide +kernel
theorem dX7_sort_125 : decode cX7_sort 125 = .ok (.bipush 114, 2) := by decide +kernel
theorem dX7_sort_127 : decode cX7_sort 127 = .ok (.bipush 97, 2) := by decide +kernel
theorem dX7_sort_129 : decode cX7_sort 129 = .ok (.bipush 116, 2) := by decide +kernel
theorem dX7_sort_131 : decode cX7_sort 131 = .ok (.bipush 101, 2) := by decide +kernel
theorem dX7_sort_133 : decode cX7_sort 133 = .ok (.invokestatic 180, 3) := by decide +kernel
theorem dX7_sort_136 : decode cX7_sort 136 = .ok (.if_icmp .ne 8, 3) := by decide +kernel
theorem dX7_sort_139 : decode cX7_sort 139 = .ok (.bipush 6, 2) := by decide +kernel
theorem dX7_sort_141 : decode cX7_sort 141 = .ok (.goto 24, 3) := by decide +kernel
theorem dX7_sort_144 : decode cX7_sort 144 = .ok (.iload_n 0, 1) := by decide +kernel
theorem dX7_sort_145 : decode cX7_sort 145 = .ok (.bipush 119, 2) := by decide +kernel
theorem dX7_sort_147 : decode cX7_sort 147 = .ok (.bipush 97, 2) := by decide +kernel
theorem dX7_sort_149 : decode cX7_sort 149 = .ok (.bipush 105, 2) := by decide +kernel
theorem dX7_sort_151 : decode cX7_sort 151 = .ok (.bipush 116, 2) := by decide +kernel
theorem dX7_sort_153 : decode cX7_sort 153 = .ok (.invokestatic 180, 3) := by decide +kernel
theorem dX7_sort_156 : decode cX7_sort 156 = .ok (.if_icmp .ne 8, 3) := by decide +kernel
theorem dX7_sort_159 : decode cX7_sort 159 = .ok (.bipush 7, 2) := by decide +kernel
theorem dX7_sort_161 : decode cX7_sort 161 = .ok (.goto 4, 3) := by decide +kernel
theorem dX7_sort_164 : decode cX7_sort 164 = .ok (.iconst 0, 1) := by decide +kernel
theorem dX7_sort_165 : decode cX7_sort 165 = .ok (.ireturn, 1) := by decide +kernel
theorem dX7_wants_0 : decode cX7_wants 0 = .ok (.iload_n 0, 1) := by decide +kernel
theorem dX7_wants_1 : decode cX7_wants 1 = .ok (.iconst 1, 1) := by decide +kernel
theorem dX7_wants_2 : decode cX7_wants 2 = .ok (.if_icmp .eq 9, 3) := by decide +kernel
theorem dX7_wants_5 : decode cX7_wants 5 = .ok (.iload_n 0, 1) := by decide +kernel
theorem dX7_wants_6 : decode cX7_wants 6 = .ok (.bipush 6, 2) := by decide +kernel
theorem dX7_wants_8 : decode cX7_wants 8 = .ok (.if_icmp .ne 7, 3) := by decide +kernel
theorem dX7_wants_11 : decode cX7_wants 11 = .ok (.iconst 4, 1) := by decide +kernel
theorem dX7_wants_12 : decode cX7_wants 12 = .ok (.goto 22, 3) := by decide +kernel
theorem dX7_wants_15 : decode cX7_wants 15 = .ok (.iload_n 0, 1) := by decide +kernel
theorem dX7_wants_16 : decode cX7_wants 16 = .ok (.iconst 5, 1) := by decide +kernel
theorem dX7_wants_17 : decode cX7_wants 17 = .ok (.if_icmp .ne 7, 3) := by decide +kernel
theorem dX7_wants_20 : decode cX7_wants 20 = .ok (.iconst 3, 1) := by decide +kernel
theorem dX7_wants_21 : decode cX7_wants 21 = .ok (.goto 13, 3) := by decide +kernel
theorem dX7_wants_24 : decode cX7_wants 24 = .ok (.iload_n 0, 1) := by decide +kernel
theorem dX7_wants_25 : decode cX7_wants 25 = .ok (.iconst 4, 1) := by decide +kernel
theorem dX7_wants_26 : decode cX7_wants 26 = .ok (.if_icmp .ne 7, 3) := by decide +kernel
theorem dX7_wants_29 : decode cX7_wants 29 = .ok (.iconst 2, 1) := by decide +kernel
theorem dX7_wants_30 : decode cX7_wants 30 = .ok (.goto 4, 3) := by decide +kernel
theorem dX7_wants_33 : decode cX7_wants 33 = .ok (.iconst 1, 1) := by decide +kernel
theorem dX7_wants_34 : decode cX7_wants 34 = .ok (.ireturn, 1) := by decide +kernel
set_option maxRecDepth 20000 in
theorem ggX7_called_X7_lends : GoodIn wsX7_called wsX7_lends := goodIn_r _ [6, 7, 8, 9, 10, 11, 12, 13, 5, 14, 15, 16, 17, 18, 19, 20, 21, 22, 23, 24, 25, 26, 27, 28, 29, 30, 31, 32, 33, 34, 35, 36, 37, 38, 39, 40, 41, 42, 43, 44, 45, 46, 47, 48, 104, 105, 106, 107, 108, 109, 110, 111, 112, 113, 114, 115, 116] (by decide +kernel) (by decide +kernel)
set_option maxRecDepth 20000 in
theorem gX7_called_X7_lends : GoodIn wsX7_called (wsV RX7 111 RX7 yX7_lends wsX7_lends) := goodIn_app (goodIn_of _ (by decide +kernel)) ggX7_called_X7_lends
set_option maxRecDepth 20000 in
theorem ggX7_called_X7_gives : GoodIn wsX7_called wsX7_gives := goodIn_r _ [52, 8, 9, 53, 54, 55, 5, 56, 7, 15, 16, 17, 26, 27, 28, 29, 22, 23, 24, 25, 45, 46, 47, 48, 57, 58, 59, 60, 61, 62, 63, 104, 105, 106, 107, 108, 109, 110, 111, 112, 113, 114, 115, 116] (by decide +kernel) (by decide +kernel)
set_option maxRecDepth 20000 in
theorem gX7_called_X7_gives : GoodIn wsX7_called (wsV RX7 114 RX7 yX7_gives wsX7_gives) := goodIn_app (goodIn_of _ (by decide +kernel)) ggX7_called_X7_gives
set_option maxRecDepth 20000 in
theorem ggX7_called_X7_keeps : GoodIn wsX7_called wsX7_keeps := goodIn_r _ [67, 8, 9, 53, 54, 55, 5, 56, 7, 15, 16, 17, 26, 27, 28, 29, 22, 23, 24, 25, 68, 69, 70, 71, 45, 46, 47, 48, 104, 105, 106, 107, 108, 109, 110, 111, 112, 113, 114, 115, 116] (by decide +kernel) (by decide +kernel)
set_option maxRecDepth 20000 in
theorem gX7_called_X7_keeps : GoodIn wsX7_called (wsV RX7 117 RX7 yX7_keeps wsX7_keeps) := goodIn_app (goodIn_of _ (by decide +kernel)) ggX7_called_X7_keeps
set_option maxRecDepth 20000 in
theorem ggX7_called_X7_sells : GoodIn wsX7_called wsX7_sells := goodIn_r _ [75, 8, 9, 7, 76, 53, 54, 55, 5, 56, 15, 16, 17, 26, 27, 28, 29, 22, 23, 24, 25, 77, 78, 79, 80, 45, 46, 47, 48, 104, 105, 106, 107, 108, 109, 110, 111, 112, 113, 114, 115, 116] (by decide +kernel) (by decide +kernel)
set_option maxRecDepth 20000 in
theorem gX7_called_X7_sells : GoodIn wsX7_called (wsV RX7 120 RX7 yX7_sells wsX7_sells) := goodIn_app (goodIn_of _ (by decide +kernel)) ggX7_called_X7_sells
set_option maxRecDepth 20000 in
theorem ggX7_called_X7_grades1 : GoodIn wsX7_called wsX7_grades1 := goodIn_r _ [84, 8, 9, 53, 54, 55, 5, 56, 7, 15, 16, 17, 85, 86, 87, 77, 78, 79, 80, 22, 23, 24, 25, 45, 46, 47, 48, 30, 31, 32, 33, 34, 35, 36, 37, 38, 39, 40, 41, 42, 43, 44, 26, 27, 28, 29, 104, 105, 106, 107, 108, 109, 110, 111, 112, 113, 114, 115, 116] (by decide +kernel) (by decide +kernel)
set_option maxRecDepth 20000 in
theorem gX7_called_X7_grades1 : GoodIn wsX7_called (wsV RX7 123 RX7 yX7_grades1 wsX7_grades1) := goodIn_app (goodIn_of _ (by decide +kernel)) ggX7_called_X7_grades1
set_option maxRecDepth 20000 in
theorem ggX7_called_X7_rates : GoodIn wsX7_called wsX7_rates := goodIn_r _ [91, 8, 7, 10, 15, 16, 5, 17, 85, 86, 87, 42, 43, 44, 104, 105, 106, 107, 108, 109, 110, 111, 112, 113, 114, 115, 116] (by decide +kernel) (by decide +kernel)
set_option maxRecDepth 20000 in
theorem gX7_called_X7_rates : GoodIn wsX7_called (wsV RX7 107 RX7 yX7_rates wsX7_rates) := goodIn_app (goodIn_of _ (by decide +kernel)) ggX7_called_X7_rates
set_option maxRecDepth 20000 in
theorem ggX7_called_X7_goes : GoodIn wsX7_called wsX7_goes := goodIn_r _ [95, 8, 7, 10, 15, 16, 5, 17, 96, 97, 98, 99, 100, 101, 102, 103, 22, 23, 24, 25, 68, 69, 70, 71, 45, 46, 47, 48, 104, 105, 106, 107, 108, 109, 110, 111, 112, 113, 114, 115, 116] (by decide +kernel) (by decide +kernel)
set_option maxRecDepth 20000 in
theorem gX7_called_X7_goes : GoodIn wsX7_called (wsV RX7 126 RX7 yX7_goes wsX7_goes) := goodIn_app (goodIn_of _ (by decide +kernel)) ggX7_called_X7_goes
theorem dX7_called_0 : decode cX7_called 0 = .ok (.iload_n 1, 1) := by decide +kernel
theorem dX7_called_1 : decode cX7_called 1 = .ok (.tableswitch 176 1 6 #[39, 85, 96, 107, 124, 147], 39) := by decide +kernel
theorem dX7_called_40 : decode cX7_called 40 = .ok (.aload_n 0, 1) := by decide +kernel
theorem dX7_called_41 : decode cX7_called 41 = .ok (.aload_n 0, 1) := by decide +kernel
theorem dX7_called_42 : decode cX7_called 42 = .ok (.getfield 25, 3) := by decide +kernel
theorem dX7_called_45 : decode cX7_called 45 = .ok (.iconst 0, 1) := by decide +kernel
theorem dX7_called_46 : decode cX7_called 46 = .ok (.iaload, 1) := by decide +kernel
theorem dX7_called_47 : decode cX7_called 47 = .ok (.aload_n 0, 1) := by decide +kernel
theorem dX7_called_48 : decode cX7_called 48 = .ok (.getfield 25, 3) := by decide +kernel
theorem dX7_called_51 : decode cX7_called 51 = .ok (.iconst 1, 1) := by decide +kernel
theorem dX7_called_52 : decode cX7_called 52 = .ok (.iaload, 1) := by decide +kernel
theorem dX7_called_53 : decode cX7_called 53 = .ok (.aload_n 0, 1) := by decide +kernel
theorem dX7_called_54 : decode cX7_called 54 = .ok (.getfield 25, 3) := by decide +kernel
theorem dX7_called_57 : decode cX7_called 57 = .ok (.iconst 2, 1) := by decide +kernel
theorem dX7_called_58 : decode cX7_called 58 = .ok (.iaload, 1) := by decide +kernel
theorem dX7_called_59 : decode cX7_called 59 = .ok (.aload_n 0, 1) := by decide +kernel
theorem dX7_called_60 : decode cX7_called 60 = .ok (.getfield 25, 3) := by decide +kernel
theorem dX7_called_63 : decode cX7_called 63 = .ok (.iconst 3, 1) := by decide +kernel
theorem dX7_called_64 : decode cX7_called 64 = .ok (.iaload, 1) := by decide +kernel
theorem dX7_called_65 : decode cX7_called 65 = .ok (.bipush 20, 2) := by decide +kernel
theorem dX7_called_67 : decode cX7_called 67 = .ok (.if_icmp .ge 14, 3) := by decide +kernel
theorem dX7_called_70 : decode cX7_called 70 = .ok (.iconst 1, 1) := by decide +kernel
theorem dX7_called_71 : decode cX7_called 71 = .ok (.aload_n 0, 1) := by decide +kernel
theorem dX7_called_72 : decode cX7_called 72 = .ok (.getfield 25, 3) := by decide +kernel
theorem dX7_called_75 : decode cX7_called 75 = .ok (.iconst 3, 1) := by decide +kernel
theorem dX7_called_76 : decode cX7_called 76 = .ok (.iaload, 1) := by decide +kernel
theorem dX7_called_77 : decode cX7_called 77 = .ok (.ishl, 1) := by decide +kernel
theorem dX7_called_78 : decode cX7_called 78 = .ok (.goto 4, 3) := by decide +kernel
theorem dX7_called_81 : decode cX7_called 81 = .ok (.iconst 0, 1) := by decide +kernel
theorem dX7_called_82 : decode cX7_called 82 = .ok (.invokevirtual 111, 3) := by decide +kernel
theorem dX7_called_85 : decode cX7_called 85 = .ok (.ireturn, 1) := by decide +kernel
theorem dX7_called_86 : decode cX7_called 86 = .ok (.aload_n 0, 1) := by decide +kernel
theorem dX7_called_87 : decode cX7_called 87 = .ok (.aload_n 0, 1) := by decide +kernel
theorem dX7_called_88 : decode cX7_called 88 = .ok (.getfield 25, 3) := by decide +kernel
theorem dX7_called_91 : decode cX7_called 91 = .ok (.iconst 0, 1) := by decide +kernel
theorem dX7_called_92 : decode cX7_called 92 = .ok (.iaload, 1) := by decide +kernel
theorem dX7_called_93 : decode cX7_called 93 = .ok (.invokevirtual 114, 3) := by decide +kernel
theorem dX7_called_96 : decode cX7_called 96 = .ok (.ireturn, 1) := by decide +kernel
theorem dX7_called_97 : decode cX7_called 97 = .ok (.aload_n 0, 1) := by decide +kernel
theorem dX7_called_98 : decode cX7_called 98 = .ok (.aload_n 0, 1) := by decide +kernel
theorem dX7_called_99 : decode cX7_called 99 = .ok (.getfield 25, 3) := by decide +kernel
theorem dX7_called_102 : decode cX7_called 102 = .ok (.iconst 0, 1) := by decide +kernel
theorem dX7_called_103 : decode cX7_called 103 = .ok (.iaload, 1) := by decide +kernel
theorem dX7_called_104 : decode cX7_called 104 = .ok (.invokevirtual 117, 3) := by decide +kernel
theorem dX7_called_107 : decode cX7_called 107 = .ok (.ireturn, 1) := by decide +kernel
theorem dX7_called_108 : decode cX7_called 108 = .ok (.aload_n 0, 1) := by decide +kernel
theorem dX7_called_109 : decode cX7_called 109 = .ok (.aload_n 0, 1) := by decide +kernel
theorem dX7_called_110 : decode cX7_called 110 = .ok (.getfield 25, 3) := by decide +kernel
theorem dX7_called_113 : decode cX7_called 113 = .ok (.iconst 0, 1) := by decide +kernel
theorem dX7_called_114 : decode cX7_called 114 = .ok (.iaload, 1) := by decide +kernel
theorem dX7_called_115 : decode cX7_called 115 = .ok (.aload_n 0, 1) := by decide +kernel
theorem dX7_called_116 : decode cX7_called 116 = .ok (.getfield 25, 3) := by decide +kernel
theorem dX7_called_119 : decode cX7_called 119 = .ok (.iconst 1, 1) := by decide +kernel
theorem dX7_called_120 : decode cX7_called 120 = .ok (.iaload, 1) := by decide +kernel
theorem dX7_called_121 : decode cX7_called 121 = .ok (.invokevirtual 120, 3) := by decide +kernel
theorem dX7_called_124 : decode cX7_called 124 = .ok (.ireturn, 1) := by decide +kernel
theorem dX7_called_125 : decode cX7_called 125 = .ok (.aload_n 0, 1) := by decide +kernel
theorem dX7_called_126 : decode cX7_called 126 = .ok (.aload_n 0, 1) := by decide +kernel
theorem dX7_called_127 : decode cX7_called 127 = .ok (.getfield 25, 3) := by decide +kernel
theorem dX7_called_130 : decode cX7_called 130 = .ok (.iconst 0, 1) := by decide +kernel
theorem dX7_called_131 : decode cX7_called 131 = .ok (.iaload, 1) := by decide +kernel
theorem dX7_called_132 : decode cX7_called 132 = .ok (.aload_n 0, 1) := by decide +kernel
theorem dX7_called_133 : decode cX7_called 133 = .ok (.getfield 25, 3) := by decide +kernel
theorem dX7_called_136 : decode cX7_called 136 = .ok (.iconst 1, 1) := by decide +kernel
theorem dX7_called_137 : decode cX7_called 137 = .ok (.iaload, 1) := by decide +kernel
theorem dX7_called_138 : decode cX7_called 138 = .ok (.aload_n 0, 1) := by decide +kernel
theorem dX7_called_139 : decode cX7_called 139 = .ok (.getfield 25, 3) := by decide +kernel
theorem dX7_called_142 : decode cX7_called 142 = .ok (.iconst 2, 1) := by decide +kernel
theorem dX7_called_143 : decode cX7_called 143 = .ok (.iaload, 1) := by decide +kernel
theorem dX7_called_144 : decode cX7_called 144 = .ok (.invokevirtual 123, 3) := by decide +kernel
theorem dX7_called_147 : decode cX7_called 147 = .ok (.ireturn, 1) := by decide +kernel
theorem dX7_called_148 : decode cX7_called 148 = .ok (.aload_n 0, 1) := by decide +kernel
theorem dX7_called_149 : decode cX7_called 149 = .ok (.aload_n 0, 1) := by decide +kernel
theorem dX7_called_150 : decode cX7_called 150 = .ok (.getfield 25, 3) := by decide +kernel
theorem dX7_called_153 : decode cX7_called 153 = .ok (.iconst 0, 1) := by decide +kernel
theorem dX7_called_154 : decode cX7_called 154 = .ok (.iaload, 1) := by decide +kernel
theorem dX7_called_155 : decode cX7_called 155 = .ok (.aload_n 0, 1) := by decide +kernel
theorem dX7_called_156 : decode cX7_called 156 = .ok (.getfield 25, 3) := by decide +kernel
theorem dX7_called_159 : decode cX7_called 159 = .ok (.iconst 1, 1) := by decide +kernel
theorem dX7_called_160 : decode cX7_called 160 = .ok (.iaload, 1) := by decide +kernel
theorem dX7_called_161 : decode cX7_called 161 = .ok (.aload_n 0, 1) := by decide +kernel
theorem dX7_called_162 : decode cX7_called 162 = .ok (.getfield 25, 3) := by decide +kernel
theorem dX7_called_165 : decode cX7_called 165 = .ok (.iconst 2, 1) := by decide +kernel
theorem dX7_called_166 : decode cX7_called 166 = .ok (.iaload, 1) := by decide +kernel
theorem dX7_called_167 : decode cX7_called 167 = .ok (.aload_n 0, 1) := by decide +kernel
theorem dX7_called_168 : decode cX7_called 168 = .ok (.getfield 25, 3) := by decide +kernel
theorem dX7_called_171 : decode cX7_called 171 = .ok (.iconst 3, 1) := by decide +kernel
theorem dX7_called_172 : decode cX7_called 172 = .ok (.iaload, 1) := by decide +kernel
theorem dX7_called_173 : decode cX7_called 173 = .ok (.invokevirtual 107, 3) := by decide +kernel
theorem dX7_called_176 : decode cX7_called 176 = .ok (.ireturn, 1) := by decide +kernel
theorem dX7_called_177 : decode cX7_called 177 = .ok (.aload_n 0, 1) := by decide +kernel
theorem dX7_called_178 : decode cX7_called 178 = .ok (.aload_n 0, 1) := by decide +kernel
theorem dX7_called_179 : decode cX7_called 179 = .ok (.getfield 25, 3) := by decide +kernel
theorem dX7_called_182 : decode cX7_called 182 = .ok (.iconst 0, 1) := by decide +kernel
theorem dX7_called_183 : decode cX7_called 183 = .ok (.iaload, 1) := by decide +kernel
theorem dX7_called_184 : decode cX7_called 184 = .ok (.invokevirtual 126, 3) := by decide +kernel
theorem dX7_called_187 : decode cX7_called 187 = .ok (.ireturn, 1) := by decide +kernel
set_option maxRecDepth 20000 in
theorem ggX7_does_X7_word : GoodIn wsX7_does wsX7_word := goodIn_r _ [12, 1, 13, 14, 15, 11, 16, 3, 17, 18, 19, 20, 144, 145, 146, 147, 148, 149, 150, 151, 152, 153, 154, 155, 156] (by decide +kernel) (by decide +kernel)
set_option maxRecDepth 20000 in
theorem gX7_does_X7_word : GoodIn wsX7_does (wsV RX7 186 RX7 yX7_word wsX7_word) := goodIn_app (goodIn_of _ (by decide +kernel)) ggX7_does_X7_word
set_option maxRecDepth 20000 in
theorem ggX7_does_X7_sort : GoodIn wsX7_does wsX7_sort := goodIn_r _ [23, 24, 25, 11, 26, 27] (by decide +kernel) (by decide +kernel)
set_option maxRecDepth 20000 in
theorem gX7_does_X7_sort : GoodIn wsX7_does (va_wsS RX7 189 yX7_sort wsX7_sort) := goodIn_app (goodIn_of _ (by decide +kernel)) ggX7_does_X7_sort
set_option maxRecDepth 20000 in
theorem ggX7_does_X7_wants : GoodIn wsX7_does wsX7_wants := goodIn_r _ [30] (by decide +kernel) (by decide +kernel)
set_option maxRecDepth 20000 in
theorem gX7_does_X7_wants : GoodIn wsX7_does (va_wsS RX7 192 yX7_wants wsX7_wants) := goodIn_app (goodIn_of _ (by decide +kernel)) ggX7_does_X7_wants
set_option maxRecDepth 20000 in
theorem ggX7_does_X7_takesSign : GoodIn wsX7_does wsX7_takesSign := goodIn_r _ [34, 4, 1, 13, 14, 15, 11, 16, 3, 17, 144, 145, 146, 147, 148, 149, 150, 151, 152, 153, 154, 155, 156] (by decide +kernel) (by decide +kernel)
set_option maxRecDepth 20000 in
theorem gX7_does_X7_takesSign : GoodIn wsX7_does (wsV RX7 195 RX7 yX7_takesSign wsX7_takesSign) := goodIn_app (goodIn_of _ (by decide +kernel)) ggX7_does_X7_takesSign
set_option maxRecDepth 20000 in
theorem ggX7_does_X7_number : GoodIn wsX7_does wsX7_number := goodIn_r _ [38, 4, 1, 39, 40, 41, 11, 42, 13, 14, 15, 16, 3, 17, 18, 19, 20, 144, 145, 146, 147, 148, 149, 150, 151, 152, 153, 154, 155, 156] (by decide +kernel) (by decide +kernel)
set_option maxRecDepth 20000 in
theorem gX7_does_X7_number : GoodIn wsX7_does (wsV RX7 199 RX7 yX7_number wsX7_number) := goodIn_app (goodIn_of _ (by decide +kernel)) ggX7_does_X7_number
set_option maxRecDepth 20000 in
theorem ggX7_does_X7_called : GoodIn wsX7_does wsX7_called := goodIn_r _ [46, 5, 47, 48, 49, 11, 50, 51, 7, 52, 53, 54, 55, 56, 57, 18, 19, 20, 58, 59, 60, 61, 62, 63, 64, 65, 66, 67, 68, 69, 70, 71, 72, 73, 74, 75, 76, 77, 78, 79, 80, 81, 82, 83, 84, 85, 86, 87, 88, 89, 90, 91, 92, 93, 94, 95, 96, 97, 98, 99, 100, 101, 102, 103, 104, 105, 106, 107, 108, 109, 110, 111, 112, 113, 114, 115, 116, 117, 118, 119, 120, 121, 122, 123, 124, 125, 126, 127, 128, 129, 130, 131, 132, 133, 134, 135, 136, 137, 138, 139, 140, 141, 142, 143, 144, 145, 146, 147, 148, 149, 150, 151, 152, 153, 154, 155, 156] (by decide +kernel) (by decide +kernel)
set_option maxRecDepth 20000 in
theorem gX7_does_X7_called : GoodIn wsX7_does (wsV RX7 202 RX7 yX7_called wsX7_called) := goodIn_app (goodIn_of _ (by decide +kernel)) ggX7_does_X7_called
theorem dX7_does_0 : decode cX7_does 0 = .ok (.aload_n 0, 1) := by decide +kernel
theorem dX7_does_1 : decode cX7_does 1 = .ok (.iconst 0, 1) := by decide +kernel
theorem dX7_does_2 : decode cX7_does 2 = .ok (.putfield 166, 3) := by decide +kernel
theorem dX7_does_5 : decode cX7_does 5 = .ok (.aload_n 0, 1) := by decide +kernel
theorem dX7_does_6 : decode cX7_does 6 = .ok (.iconst 0, 1) := by decide +kernel
theorem dX7_does_7 : decode cX7_does 7 = .ok (.putfield 183, 3) := by decide +kernel
theorem dX7_does_10 : decode cX7_does 10 = .ok (.aload_n 0, 1) := by decide +kernel
theorem dX7_does_11 : decode cX7_does 11 = .ok (.getfield 166, 3) := by decide +kernel
theorem dX7_does_14 : decode cX7_does 14 = .ok (.aload_n 0, 1) := by decide +kernel
theorem dX7_does_15 : decode cX7_does 15 = .ok (.getfield 152, 3) := by decide +kernel
theorem dX7_does_18 : decode cX7_does 18 = .ok (.if_icmp .ge 118, 3) := by decide +kernel
theorem dX7_does_21 : decode cX7_does 21 = .ok (.aload_n 0, 1) := by decide +kernel
theorem dX7_does_22 : decode cX7_does 22 = .ok (.getfield 166, 3) := by decide +kernel
theorem dX7_does_25 : decode cX7_does 25 = .ok (.istore_n 1, 1) := by decide +kernel
theorem dX7_does_26 : decode cX7_does 26 = .ok (.aload_n 0, 1) := by decide +kernel
theorem dX7_does_27 : decode cX7_does 27 = .ok (.invokevirtual 186, 3) := by decide +kernel
theorem dX7_does_30 : decode cX7_does 30 = .ok (.invokestatic 189, 3) := by decide +kernel
theorem dX7_does_33 : decode cX7_does 33 = .ok (.istore_n 2, 1) := by decide +kernel
theorem dX7_does_34 : decode cX7_does 34 = .ok (.aload_n 0, 1) := by decide +kernel
theorem dX7_does_35 : decode cX7_does 35 = .ok (.iload_n 2, 1) := by decide +kernel
theorem dX7_does_36 : decode cX7_does 36 = .ok (.ifCond .le 7, 3) := by decide +kernel
theorem dX7_does_39 : decode cX7_does 39 = .ok (.iconst 1, 1) := by decide +kernel
theorem dX7_does_40 : decode cX7_does 40 = .ok (.goto 4, 3) := by decide +kernel
theorem dX7_does_43 : decode cX7_does 43 = .ok (.iconst 0, 1) := by decide +kernel
theorem dX7_does_44 : decode cX7_does 44 = .ok (.putfield 172, 3) := by decide +kernel
theorem dX7_does_47 : decode cX7_does 47 = .ok (.iconst 0, 1) := by decide +kernel
theorem dX7_does_48 : decode cX7_does 48 = .ok (.istore_n 3, 1) := by decide +kernel
theorem dX7_does_49 : decode cX7_does 49 = .ok (.iload_n 3, 1) := by decide +kernel
theorem dX7_does_50 : decode cX7_does 50 = .ok (.iload_n 2, 1) := by decide +kernel
theorem dX7_does_51 : decode cX7_does 51 = .ok (.invokestatic 192, 3) := by decide +kernel
theorem dX7_does_54 : decode cX7_does 54 = .ok (.if_icmp .ge 25, 3) := by decide +kernel
theorem dX7_does_57 : decode cX7_does 57 = .ok (.aload_n 0, 1) := by decide +kernel
theorem dX7_does_58 : decode cX7_does 58 = .ok (.bipush 32, 2) := by decide +kernel
theorem dX7_does_60 : decode cX7_does 60 = .ok (.invokevirtual 195, 3) := by decide +kernel
theorem dX7_does_63 : decode cX7_does 63 = .ok (.aload_n 0, 1) := by decide +kernel
theorem dX7_does_64 : decode cX7_does 64 = .ok (.getfield 25, 3) := by decide +kernel
theorem dX7_does_67 : decode cX7_does 67 = .ok (.iload_n 3, 1) := by decide +kernel
theorem dX7_does_68 : decode cX7_does 68 = .ok (.aload_n 0, 1) := by decide +kernel
theorem dX7_does_69 : decode cX7_does 69 = .ok (.invokevirtual 199, 3) := by decide +kernel
theorem dX7_does_72 : decode cX7_does 72 = .ok (.iastore, 1) := by decide +kernel
theorem dX7_does_73 : decode cX7_does 73 = .ok (.iinc 3 1, 3) := by decide +kernel
theorem dX7_does_76 : decode cX7_does 76 = .ok (.goto (-27), 3) := by decide +kernel
theorem dX7_does_79 : decode cX7_does 79 = .ok (.aload_n 0, 1) := by decide +kernel
theorem dX7_does_80 : decode cX7_does 80 = .ok (.bipush 59, 2) := by decide +kernel
theorem dX7_does_82 : decode cX7_does 82 = .ok (.invokevirtual 195, 3) := by decide +kernel
theorem dX7_does_85 : decode cX7_does 85 = .ok (.aload_n 0, 1) := by decide +kernel
theorem dX7_does_86 : decode cX7_does 86 = .ok (.aload_n 0, 1) := by decide +kernel
theorem dX7_does_87 : decode cX7_does 87 = .ok (.getfield 172, 3) := by decide +kernel
theorem dX7_does_90 : decode cX7_does 90 = .ok (.ifCond .eq 11, 3) := by decide +kernel
theorem dX7_does_93 : decode cX7_does 93 = .ok (.aload_n 0, 1) := by decide +kernel
theorem dX7_does_94 : decode cX7_does 94 = .ok (.iload_n 2, 1) := by decide +kernel
theorem dX7_does_95 : decode cX7_does 95 = .ok (.invokevirtual 202, 3) := by decide +kernel
theorem dX7_does_98 : decode cX7_does 98 = .ok (.goto 4, 3) := by decide +kernel
theorem dX7_does_101 : decode cX7_does 101 = .ok (.iconst 0, 1) := by decide +kernel
theorem dX7_does_102 : decode cX7_does 102 = .ok (.putfield 205, 3) := by decide +kernel
theorem dX7_does_105 : decode cX7_does 105 = .ok (.aload_n 0, 1) := by decide +kernel
theorem dX7_does_106 : decode cX7_does 106 = .ok (.getfield 172, 3) := by decide +kernel
theorem dX7_does_109 : decode cX7_does 109 = .ok (.ifCond .eq 12, 3) := by decide +kernel
theorem dX7_does_112 : decode cX7_does 112 = .ok (.aload_n 0, 1) := by decide +kernel
theorem dX7_does_113 : decode cX7_does 113 = .ok (.getfield 205, 3) := by decide +kernel
theorem dX7_does_116 : decode cX7_does 116 = .ok (.ldc 28, 2) := by decide +kernel
theorem dX7_does_118 : decode cX7_does 118 = .ok (.if_icmp .gt 5, 3) := by decide +kernel
theorem dX7_does_121 : decode cX7_does 121 = .ok (.iload_n 1, 1) := by decide +kernel
theorem dX7_does_122 : decode cX7_does 122 = .ok (.ireturn, 1) := by decide +kernel
theorem dX7_does_123 : decode cX7_does 123 = .ok (.aload_n 0, 1) := by decide +kernel
theorem dX7_does_124 : decode cX7_does 124 = .ok (.dup, 1) := by decide +kernel
theorem dX7_does_125 : decode cX7_does 125 = .ok (.getfield 183, 3) := by decide +kernel
theorem dX7_does_128 : decode cX7_does 128 = .ok (.iconst 1, 1) := by decide +kernel
theorem dX7_does_129 : decode cX7_does 129 = .ok (.iadd, 1) := by decide +kernel
theorem dX7_does_130 : decode cX7_does 130 = .ok (.putfield 183, 3) := by decide +kernel
theorem dX7_does_133 : decode cX7_does 133 = .ok (.goto (-123), 3) := by decide +kernel
theorem dX7_does_136 : decode cX7_does 136 = .ok (.iconst (-1), 1) := by decide +kernel
theorem dX7_does_137 : decode cX7_does 137 = .ok (.ireturn, 1) := by decide +kernel
set_option maxRecDepth 20000 in
theorem ggX7_fault_X7_in : GoodIn wsX7_fault wsX7_in := goodIn_r _ [8] (by decide +kernel) (by decide +kernel)
set_option maxRecDepth 20000 in
theorem gX7_fault_X7_in : GoodIn wsX7_fault (va_wsS RX7 36 yX7_in wsX7_in) := goodIn_app (goodIn_of _ (by decide +kernel)) ggX7_fault_X7_in
set_option maxRecDepth 20000 in
theorem ggX7_fault_X7_begins : GoodIn wsX7_fault wsX7_begins := goodIn_r _ [12, 13, 14, 158, 159, 160, 161, 162, 163, 164, 165, 166, 167, 168, 169, 170] (by decide +kernel) (by decide +kernel)
set_option maxRecDepth 20000 in
theorem gX7_fault_X7_begins : GoodIn wsX7_fault (wsV RX7 101 RX7 yX7_begins wsX7_begins) := goodIn_app (goodIn_of _ (by decide +kernel)) ggX7_fault_X7_begins
set_option maxRecDepth 20000 in
theorem ggX7_fault_X7_does : GoodIn wsX7_fault wsX7_does := goodIn_r _ [18, 19, 20, 21, 2, 22, 4, 1, 23, 24, 25, 7, 26, 27, 28, 29, 30, 31, 5, 6, 8, 32, 33, 34, 35, 36, 37, 38, 39, 40, 41, 42, 43, 44, 45, 46, 47, 48, 49, 50, 51, 52, 53, 54, 55, 56, 57, 58, 59, 60, 61, 14, 62, 63, 64, 65, 66, 67, 68, 69, 70, 71, 72, 73, 74, 75, 76, 77, 78, 79, 80, 81, 82, 83, 84, 85, 86, 87, 88, 89, 90, 91, 92, 93, 94, 95, 96, 97, 98, 99, 100, 101, 102, 103, 104, 105, 106, 107, 108, 109, 110, 111, 112, 113, 114, 115, 116, 117, 118, 119, 120, 121, 122, 123, 124, 125, 126, 127, 128, 129, 130, 131, 132, 133, 134, 135, 136, 137, 138, 139, 140, 141, 142, 143, 144, 145, 146, 147, 148, 149, 150, 151, 152, 153, 158, 159, 160, 161, 162, 163, 164, 165, 166, 167, 168, 169, 170] (by decide +kernel) (by decide +kernel)
set_option maxRecDepth 20000 in
theorem gX7_fault_X7_does : GoodIn wsX7_fault (wsV RX7 208 RX7 yX7_does wsX7_does) := goodIn_app (goodIn_of _ (by decide +kernel)) ggX7_fault_X7_does
set_option maxRecDepth 20000 in
theorem ggX7_fault_X7_returns : GoodIn wsX7_fault wsX7_returns := goodIn_r _ [157, 14, 13, 158, 159, 160, 161, 162, 163, 164, 165, 166, 167, 168, 169, 170] (by decide +kernel) (by decide +kernel)
set_option maxRecDepth 20000 in
theorem gX7_fault_X7_returns : GoodIn wsX7_fault (wsV RX7 29 RX7 yX7_returns wsX7_returns) := goodIn_app (goodIn_of _ (by decide +kernel)) ggX7_fault_X7_returns
theorem dX7_fault_0 : decode cX7_fault 0 = .ok (.iload_n 1, 1) := by decide +kernel
theorem dX7_fault_1 : decode cX7_fault 1 = .ok (.iconst 0, 1) := by decide +kernel
theorem dX7_fault_2 : decode cX7_fault 2 = .ok (.iconst 2, 1) := by decide +kernel
theorem dX7_fault_3 : decode cX7_fault 3 = .ok (.invokestatic 36, 3) := by decide +kernel
theorem dX7_fault_6 : decode cX7_fault 6 = .ok (.ifCond .ne 6, 3) := by decide +kernel
theorem dX7_fault_9 : decode cX7_fault 9 = .ok (.ldc 28, 2) := by decide +kernel
theorem dX7_fault_11 : decode cX7_fault 11 = .ok (.ireturn, 1) := by decide +kernel
theorem dX7_fault_12 : decode cX7_fault 12 = .ok (.aload_n 0, 1) := by decide +kernel
theorem dX7_fault_13 : decode cX7_fault 13 = .ok (.invokevirtual 101, 3) := by decide +kernel
theorem dX7_fault_16 : decode cX7_fault 16 = .ok (.aload_n 0, 1) := by decide +kernel
theorem dX7_fault_17 : decode cX7_fault 17 = .ok (.invokevirtual 208, 3) := by decide +kernel
theorem dX7_fault_20 : decode cX7_fault 20 = .ok (.istore_n 2, 1) := by decide +kernel
theorem dX7_fault_21 : decode cX7_fault 21 = .ok (.aload_n 0, 1) := by decide +kernel
theorem dX7_fault_22 : decode cX7_fault 22 = .ok (.invokevirtual 29, 3) := by decide +kernel
theorem dX7_fault_25 : decode cX7_fault 25 = .ok (.iload_n 2, 1) := by decide +kernel
theorem dX7_fault_26 : decode cX7_fault 26 = .ok (.ifCond .lt 19, 3) := by decide +kernel
theorem dX7_fault_29 : decode cX7_fault 29 = .ok (.iload_n 1, 1) := by decide +kernel
theorem dX7_fault_30 : decode cX7_fault 30 = .ok (.iconst 2, 1) := by decide +kernel
theorem dX7_fault_31 : decode cX7_fault 31 = .ok (.if_icmp .lt 10, 3) := by decide +kernel
theorem dX7_fault_34 : decode cX7_fault 34 = .ok (.aload_n 0, 1) := by decide +kernel
theorem dX7_fault_35 : decode cX7_fault 35 = .ok (.getfield 172, 3) := by decide +kernel
theorem dX7_fault_38 : decode cX7_fault 38 = .ok (.ifCond .eq 7, 3) := by decide +kernel
theorem dX7_fault_41 : decode cX7_fault 41 = .ok (.iconst 1, 1) := by decide +kernel
theorem dX7_fault_42 : decode cX7_fault 42 = .ok (.goto 4, 3) := by decide +kernel
theorem dX7_fault_45 : decode cX7_fault 45 = .ok (.iconst 0, 1) := by decide +kernel
theorem dX7_fault_46 : decode cX7_fault 46 = .ok (.istore_n 3, 1) := by decide +kernel
theorem dX7_fault_47 : decode cX7_fault 47 = .ok (.iload_n 3, 1) := by decide +kernel
theorem dX7_fault_48 : decode cX7_fault 48 = .ok (.ifCond .ne 8, 3) := by decide +kernel
theorem dX7_fault_51 : decode cX7_fault 51 = .ok (.ldc 129, 2) := by decide +kernel
theorem dX7_fault_53 : decode cX7_fault 53 = .ok (.goto 35, 3) := by decide +kernel
theorem dX7_fault_56 : decode cX7_fault 56 = .ok (.iload_n 1, 1) := by decide +kernel
theorem dX7_fault_57 : decode cX7_fault 57 = .ok (.ifCond .ne 7, 3) := by decide +kernel
theorem dX7_fault_60 : decode cX7_fault 60 = .ok (.iload_n 2, 1) := by decide +kernel
theorem dX7_fault_61 : decode cX7_fault 61 = .ok (.goto 27, 3) := by decide +kernel
theorem dX7_fault_64 : decode cX7_fault 64 = .ok (.iload_n 1, 1) := by decide +kernel
theorem dX7_fault_65 : decode cX7_fault 65 = .ok (.iconst 1, 1) := by decide +kernel
theorem dX7_fault_66 : decode cX7_fault 66 = .ok (.if_icmp .ne 18, 3) := by decide +kernel
theorem dX7_fault_69 : decode cX7_fault 69 = .ok (.aload_n 0, 1) := by decide +kernel
theorem dX7_fault_70 : decode cX7_fault 70 = .ok (.getfield 172, 3) := by decide +kernel
theorem dX7_fault_73 : decode cX7_fault 73 = .ok (.ifCond .eq 7, 3) := by decide +kernel
theorem dX7_fault_76 : decode cX7_fault 76 = .ok (.iconst 2, 1) := by decide +kernel
theorem dX7_fault_77 : decode cX7_fault 77 = .ok (.goto 11, 3) := by decide +kernel
theorem dX7_fault_80 : decode cX7_fault 80 = .ok (.iconst 1, 1) := by decide +kernel
theorem dX7_fault_81 : decode cX7_fault 81 = .ok (.goto 7, 3) := by decide +kernel
theorem dX7_fault_84 : decode cX7_fault 84 = .ok (.aload_n 0, 1) := by decide +kernel
theorem dX7_fault_85 : decode cX7_fault 85 = .ok (.getfield 205, 3) := by decide +kernel
theorem dX7_fault_88 : decode cX7_fault 88 = .ok (.ireturn, 1) := by decide +kernel
set_option maxRecDepth 20000 in
theorem ggX7_play_X7_begins : GoodIn wsX7_play wsX7_begins := goodIn_r _ [7, 8, 9, 163, 164, 165, 166, 167, 168, 169, 170, 171, 172, 173, 174, 175] (by decide +kernel) (by decide +kernel)
set_option maxRecDepth 20000 in
theorem gX7_play_X7_begins : GoodIn wsX7_play (wsV RX7 101 RX7 yX7_begins wsX7_begins) := goodIn_app (goodIn_of _ (by decide +kernel)) ggX7_play_X7_begins
set_option maxRecDepth 20000 in
theorem ggX7_play_X7_does : GoodIn wsX7_play wsX7_does := goodIn_r _ [13, 14, 1, 15, 16, 17, 18, 19, 20, 21, 22, 6, 23, 24, 25, 26, 27, 28, 29, 30, 31, 32, 33, 34, 35, 36, 37, 38, 39, 40, 41, 42, 43, 44, 45, 46, 47, 48, 49, 50, 51, 52, 53, 54, 55, 56, 57, 58, 59, 60, 61, 9, 2, 62, 63, 64, 65, 66, 67, 68, 69, 70, 71, 72, 73, 74, 75, 76, 77, 78, 79, 80, 81, 82, 83, 84, 85, 86, 87, 88, 89, 90, 91, 92, 93, 94, 95, 96, 97, 98, 99, 100, 101, 102, 103, 104, 105, 106, 107, 108, 109, 110, 111, 112, 113, 114, 115, 116, 117, 118, 119, 120, 121, 122, 123, 124, 125, 126, 127, 128, 129, 130, 131, 132, 133, 134, 135, 136, 137, 138, 139, 140, 141, 142, 143, 144, 145, 146, 147, 148, 149, 150, 151, 152, 163, 164, 165, 166, 167, 168, 169, 170, 171, 172, 173, 174, 175] (by decide +kernel) (by decide +kernel)
set_option maxRecDepth 20000 in
theorem gX7_play_X7_does : GoodIn wsX7_play (wsV RX7 208 RX7 yX7_does wsX7_does) := goodIn_app (goodIn_of _ (by decide +kernel)) ggX7_play_X7_does
set_option maxRecDepth 20000 in
theorem ggX7_play_X7_acted : GoodIn wsX7_play wsX7_acted := goodIn_r _ [156, 19, 157, 158, 8, 159, 160, 161, 6, 162, 9, 163, 164, 165, 166, 167, 168, 169, 170, 171, 172, 173, 174, 175] (by decide +kernel) (by decide +kernel)
set_option maxRecDepth 20000 in
theorem gX7_play_X7_acted : GoodIn wsX7_play (wsV RX7 104 RX7 yX7_acted wsX7_acted) := goodIn_app (goodIn_of _ (by decide +kernel)) ggX7_play_X7_acted
theorem dX7_play_0 : decode cX7_play 0 = .ok (.aload_n 0, 1) := by decide +kernel
theorem dX7_play_1 : decode cX7_play 1 = .ok (.invokevirtual 101, 3) := by decide +kernel
theorem dX7_play_4 : decode cX7_play 4 = .ok (.aload_n 0, 1) := by decide +kernel
theorem dX7_play_5 : decode cX7_play 5 = .ok (.aload_n 0, 1) := by decide +kernel
theorem dX7_play_6 : decode cX7_play 6 = .ok (.invokevirtual 208, 3) := by decide +kernel
theorem dX7_play_9 : decode cX7_play 9 = .ok (.ifCond .ge 10, 3) := by decide +kernel
theorem dX7_play_12 : decode cX7_play 12 = .ok (.aload_n 0, 1) := by decide +kernel
theorem dX7_play_13 : decode cX7_play 13 = .ok (.getfield 183, 3) := by decide +kernel
theorem dX7_play_16 : decode cX7_play 16 = .ok (.goto 5, 3) := by decide +kernel
theorem dX7_play_19 : decode cX7_play 19 = .ok (.ldc 69, 2) := by decide +kernel
theorem dX7_play_21 : decode cX7_play 21 = .ok (.invokevirtual 104, 3) := by decide +kernel
theorem dX7_play_24 : decode cX7_play 24 = .ok (.ireturn, 1) := by decide +kernel
theorem dJ6_bitCount_0f7a4_0 : decode cJ6_bitCount_0f7a4 0 = .ok (.iload_n 0, 1) := by decide +kernel
theorem dJ6_bitCount_0f7a4_1 : decode cJ6_bitCount_0f7a4 1 = .ok (.iload_n 0, 1) := by decide +kernel
theorem dJ6_bitCount_0f7a4_2 : decode cJ6_bitCount_0f7a4 2 = .ok (.iconst 1, 1) := by decide +kernel
theorem dJ6_bitCount_0f7a4_3 : decode cJ6_bitCount_0f7a4 3 = .ok (.iushr, 1) := by decide +kernel
theorem dJ6_bitCount_0f7a4_4 : decode cJ6_bitCount_0f7a4 4 = .ok (.ldc_w 265, 3) := by decide +kernel
theorem dJ6_bitCount_0f7a4_7 : decode cJ6_bitCount_0f7a4 7 = .ok (.iand, 1) := by decide +kernel
theorem dJ6_bitCount_0f7a4_8 : decode cJ6_bitCount_0f7a4 8 = .ok (.isub, 1) := by decide +kernel
theorem dJ6_bitCount_0f7a4_9 : decode cJ6_bitCount_0f7a4 9 = .ok (.istore_n 0, 1) := by decide +kernel
theorem dJ6_bitCount_0f7a4_10 : decode cJ6_bitCount_0f7a4 10 = .ok (.iload_n 0, 1) := by decide +kernel
theorem dJ6_bitCount_0f7a4_11 : decode cJ6_bitCount_0f7a4 11 = .ok (.ldc_w 266, 3) := by decide +kernel
theorem dJ6_bitCount_0f7a4_14 : decode cJ6_bitCount_0f7a4 14 = .ok (.iand, 1) := by decide +kernel
theorem dJ6_bitCount_0f7a4_15 : decode cJ6_bitCount_0f7a4 15 = .ok (.iload_n 0, 1) := by decide +kernel
theorem dJ6_bitCount_0f7a4_16 : decode cJ6_bitCount_0f7a4 16 = .ok (.iconst 2, 1) := by decide +kernel
theorem dJ6_bitCount_0f7a4_17 : decode cJ6_bitCount_0f7a4 17 = .ok (.iushr, 1) := by decide +kernel
theorem dJ6_bitCount_0f7a4_18 : decode cJ6_bitCount_0f7a4 18 = .ok (.ldc_w 266, 3) := by decide +kernel
theorem dJ6_bitCount_0f7a4_21 : decode cJ6_bitCount_0f7a4 21 = .ok (.iand, 1) := by decide +kernel
theorem dJ6_bitCount_0f7a4_22 : decode cJ6_bitCount_0f7a4 22 = .ok (.iadd, 1) := by decide +kernel
theorem dJ6_bitCount_0f7a4_23 : decode cJ6_bitCount_0f7a4 23 = .ok (.istore_n 0, 1) := by decide +kernel
theorem dJ6_bitCount_0f7a4_24 : decode cJ6_bitCount_0f7a4 24 = .ok (.iload_n 0, 1) := by decide +kernel
theorem dJ6_bitCount_0f7a4_25 : decode cJ6_bitCount_0f7a4 25 = .ok (.iload_n 0, 1) := by decide +kernel
theorem dJ6_bitCount_0f7a4_26 : decode cJ6_bitCount_0f7a4 26 = .ok (.iconst 4, 1) := by decide +kernel
theorem dJ6_bitCount_0f7a4_27 : decode cJ6_bitCount_0f7a4 27 = .ok (.iushr, 1) := by decide +kernel
theorem dJ6_bitCount_0f7a4_28 : decode cJ6_bitCount_0f7a4 28 = .ok (.iadd, 1) := by decide +kernel
theorem dJ6_bitCount_0f7a4_29 : decode cJ6_bitCount_0f7a4 29 = .ok (.ldc_w 267, 3) := by decide +kernel
theorem dJ6_bitCount_0f7a4_32 : decode cJ6_bitCount_0f7a4 32 = .ok (.iand, 1) := by decide +kernel
theorem dJ6_bitCount_0f7a4_33 : decode cJ6_bitCount_0f7a4 33 = .ok (.istore_n 0, 1) := by decide +kernel
theorem dJ6_bitCount_0f7a4_34 : decode cJ6_bitCount_0f7a4 34 = .ok (.iload_n 0, 1) := by decide +kernel
theorem dJ6_bitCount_0f7a4_35 : decode cJ6_bitCount_0f7a4 35 = .ok (.iload_n 0, 1) := by decide +kernel
theorem dJ6_bitCount_0f7a4_36 : decode cJ6_bitCount_0f7a4 36 = .ok (.bipush 8, 2) := by decide +kernel
theorem dJ6_bitCount_0f7a4_38 : decode cJ6_bitCount_0f7a4 38 = .ok (.iushr, 1) := by decide +kernel
theorem dJ6_bitCount_0f7a4_39 : decode cJ6_bitCount_0f7a4 39 = .ok (.iadd, 1) := by decide +kernel
theorem dJ6_bitCount_0f7a4_40 : decode cJ6_bitCount_0f7a4 40 = .ok (.istore_n 0, 1) := by decide +kernel
theorem dJ6_bitCount_0f7a4_41 : decode cJ6_bitCount_0f7a4 41 = .ok (.iload_n 0, 1) := by decide +kernel
theorem dJ6_bitCount_0f7a4_42 : decode cJ6_bitCount_0f7a4 42 = .ok (.iload_n 0, 1) := by decide +kernel
theorem dJ6_bitCount_0f7a4_43 : decode cJ6_bitCount_0f7a4 43 = .ok (.bipush 16, 2) := by decide +kernel
theorem dJ6_bitCount_0f7a4_45 : decode cJ6_bitCount_0f7a4 45 = .ok (.iushr, 1) := by decide +kernel
theorem dJ6_bitCount_0f7a4_46 : decode cJ6_bitCount_0f7a4 46 = .ok (.iadd, 1) := by decide +kernel
theorem dJ6_bitCount_0f7a4_47 : decode cJ6_bitCount_0f7a4 47 = .ok (.istore_n 0, 1) := by decide +kernel
theorem dJ6_bitCount_0f7a4_48 : decode cJ6_bitCount_0f7a4 48 = .ok (.iload_n 0, 1) := by decide +kernel
theorem dJ6_bitCount_0f7a4_49 : decode cJ6_bitCount_0f7a4 49 = .ok (.bipush 63, 2) := by decide +kernel
