theorem dX7_restore_15 : decode cX7_restore 15 = .ok (.istore_n 1, 1) := by decide +kernel
theorem dX7_restore_16 : decode cX7_restore 16 = .ok (.iload_n 1, 1) := by decide +kernel
theorem dX7_restore_17 : decode cX7_restore 17 = .ok (.sipush 599, 3) := by decide +kernel
theorem dX7_restore_20 : decode cX7_restore 20 = .ok (.if_icmp .ge 21, 3) := by decide +kernel
theorem dX7_restore_23 : decode cX7_restore 23 = .ok (.aload_n 0, 1) := by decide +kernel
theorem dX7_restore_24 : decode cX7_restore 24 = .ok (.getfield 7, 3) := by decide +kernel
theorem dX7_restore_27 : decode cX7_restore 27 = .ok (.iload_n 1, 1) := by decide +kernel
theorem dX7_restore_28 : decode cX7_restore 28 = .ok (.aload_n 0, 1) := by decide +kernel
theorem dX7_restore_29 : decode cX7_restore 29 = .ok (.getfield 16, 3) := by decide +kernel
theorem dX7_restore_32 : decode cX7_restore 32 = .ok (.iload_n 1, 1) := by decide +kernel
theorem dX7_restore_33 : decode cX7_restore 33 = .ok (.iaload, 1) := by decide +kernel
theorem dX7_restore_34 : decode cX7_restore 34 = .ok (.iastore, 1) := by decide +kernel
theorem dX7_restore_35 : decode cX7_restore 35 = .ok (.iinc 1 1, 3) := by decide +kernel
theorem dX7_restore_38 : decode cX7_restore 38 = .ok (.goto (-22), 3) := by decide +kernel
theorem dX7_restore_41 : decode cX7_restore 41 = .ok (.aload_n 0, 1) := by decide +kernel
theorem dX7_restore_42 : decode cX7_restore 42 = .ok (.aload_n 0, 1) := by decide +kernel
theorem dX7_restore_43 : decode cX7_restore 43 = .ok (.getfield 7, 3) := by decide +kernel
theorem dX7_restore_46 : decode cX7_restore 46 = .ok (.iconst 0, 1) := by decide +kernel
theorem dX7_restore_47 : decode cX7_restore 47 = .ok (.iaload, 1) := by decide +kernel
theorem dX7_restore_48 : decode cX7_restore 48 = .ok (.invokevirtual 126, 3) := by decide +kernel
theorem dX7_restore_51 : decode cX7_restore 51 = .ok (.ireturn, 1) := by decide +kernel
theorem dX7_undo_0 : decode cX7_undo 0 = .ok (.aload_n 0, 1) := by decide +kernel
theorem dX7_undo_1 : decode cX7_undo 1 = .ok (.getfield 34, 3) := by decide +kernel
theorem dX7_undo_4 : decode cX7_undo 4 = .ok (.ifCond .ne 6, 3) := by decide +kernel
theorem dX7_undo_7 : decode cX7_undo 7 = .ok (.bipush (-2), 2) := by decide +kernel
theorem dX7_undo_9 : decode cX7_undo 9 = .ok (.ireturn, 1) := by decide +kernel
theorem dX7_undo_10 : decode cX7_undo 10 = .ok (.aload_n 0, 1) := by decide +kernel
theorem dX7_undo_11 : decode cX7_undo 11 = .ok (.dup, 1) := by decide +kernel
theorem dX7_undo_12 : decode cX7_undo 12 = .ok (.getfield 34, 3) := by decide +kernel
theorem dX7_undo_15 : decode cX7_undo 15 = .ok (.iconst 1, 1) := by decide +kernel
theorem dX7_undo_16 : decode cX7_undo 16 = .ok (.isub, 1) := by decide +kernel
theorem dX7_undo_17 : decode cX7_undo 17 = .ok (.putfield 34, 3) := by decide +kernel
theorem dX7_undo_20 : decode cX7_undo 20 = .ok (.iconst 0, 1) := by decide +kernel
theorem dX7_undo_21 : decode cX7_undo 21 = .ok (.istore_n 1, 1) := by decide +kernel
theorem dX7_undo_22 : decode cX7_undo 22 = .ok (.iload_n 1, 1) := by decide +kernel
theorem dX7_undo_23 : decode cX7_undo 23 = .ok (.sipush 599, 3) := by decide +kernel
theorem dX7_undo_26 : decode cX7_undo 26 = .ok (.if_icmp .ge 30, 3) := by decide +kernel
theorem dX7_undo_29 : decode cX7_undo 29 = .ok (.aload_n 0, 1) := by decide +kernel
theorem dX7_undo_30 : decode cX7_undo 30 = .ok (.getfield 7, 3) := by decide +kernel
theorem dX7_undo_33 : decode cX7_undo 33 = .ok (.iload_n 1, 1) := by decide +kernel
theorem dX7_undo_34 : decode cX7_undo 34 = .ok (.aload_n 0, 1) := by decide +kernel
theorem dX7_undo_35 : decode cX7_undo 35 = .ok (.getfield 19, 3) := by decide +kernel
theorem dX7_undo_38 : decode cX7_undo 38 = .ok (.sipush 599, 3) := by decide +kernel
theorem dX7_undo_41 : decode cX7_undo 41 = .ok (.aload_n 0, 1) := by decide +kernel
theorem dX7_undo_42 : decode cX7_undo 42 = .ok (.getfield 34, 3) := by decide +kernel
theorem dX7_undo_45 : decode cX7_undo 45 = .ok (.imul, 1) := by decide +kernel
theorem dX7_undo_46 : decode cX7_undo 46 = .ok (.iload_n 1, 1) := by decide +kernel
theorem dX7_undo_47 : decode cX7_undo 47 = .ok (.iadd, 1) := by decide +kernel
theorem dX7_undo_48 : decode cX7_undo 48 = .ok (.iaload, 1) := by decide +kernel
theorem dX7_undo_49 : decode cX7_undo 49 = .ok (.iastore, 1) := by decide +kernel
theorem dX7_undo_50 : decode cX7_undo 50 = .ok (.iinc 1 1, 3) := by decide +kernel
theorem dX7_undo_53 : decode cX7_undo 53 = .ok (.goto (-31), 3) := by decide +kernel
theorem dX7_undo_56 : decode cX7_undo 56 = .ok (.aload_n 0, 1) := by decide +kernel
theorem dX7_undo_57 : decode cX7_undo 57 = .ok (.getfield 34, 3) := by decide +kernel
theorem dX7_undo_60 : decode cX7_undo 60 = .ok (.ireturn, 1) := by decide +kernel
set_option maxRecDepth 20000 in
theorem ggX7_type_X7_in : GoodIn wsX7_type wsX7_in := goodIn_r _ [6] (by decide +kernel) (by decide +kernel)
set_option maxRecDepth 20000 in
theorem gX7_type_X7_in : GoodIn wsX7_type (va_wsS RX7 50 yX7_in wsX7_in) := goodIn_app (goodIn_of _ (by decide +kernel)) ggX7_type_X7_in
theorem dX7_type_0 : decode cX7_type 0 = .ok (.iload_n 1, 1) := by decide +kernel
theorem dX7_type_1 : decode cX7_type 1 = .ok (.bipush 32, 2) := by decide +kernel
theorem dX7_type_3 : decode cX7_type 3 = .ok (.bipush 126, 2) := by decide +kernel
theorem dX7_type_5 : decode cX7_type 5 = .ok (.invokestatic 50, 3) := by decide +kernel
theorem dX7_type_8 : decode cX7_type 8 = .ok (.ifCond .ne 5, 3) := by decide +kernel
theorem dX7_type_11 : decode cX7_type 11 = .ok (.iconst (-1), 1) := by decide +kernel
theorem dX7_type_12 : decode cX7_type 12 = .ok (.ireturn, 1) := by decide +kernel
theorem dX7_type_13 : decode cX7_type 13 = .ok (.aload_n 0, 1) := by decide +kernel
theorem dX7_type_14 : decode cX7_type 14 = .ok (.getfield 153, 3) := by decide +kernel
theorem dX7_type_17 : decode cX7_type 17 = .ok (.bipush 60, 2) := by decide +kernel
theorem dX7_type_19 : decode cX7_type 19 = .ok (.if_icmp .ne 6, 3) := by decide +kernel
theorem dX7_type_22 : decode cX7_type 22 = .ok (.bipush (-3), 2) := by decide +kernel
theorem dX7_type_24 : decode cX7_type 24 = .ok (.ireturn, 1) := by decide +kernel
theorem dX7_type_25 : decode cX7_type 25 = .ok (.aload_n 0, 1) := by decide +kernel
theorem dX7_type_26 : decode cX7_type 26 = .ok (.getfield 22, 3) := by decide +kernel
theorem dX7_type_29 : decode cX7_type 29 = .ok (.aload_n 0, 1) := by decide +kernel
theorem dX7_type_30 : decode cX7_type 30 = .ok (.getfield 153, 3) := by decide +kernel
theorem dX7_type_33 : decode cX7_type 33 = .ok (.iload_n 1, 1) := by decide +kernel
theorem dX7_type_34 : decode cX7_type 34 = .ok (.iastore, 1) := by decide +kernel
theorem dX7_type_35 : decode cX7_type 35 = .ok (.aload_n 0, 1) := by decide +kernel
theorem dX7_type_36 : decode cX7_type 36 = .ok (.dup, 1) := by decide +kernel
theorem dX7_type_37 : decode cX7_type 37 = .ok (.getfield 153, 3) := by decide +kernel
theorem dX7_type_40 : decode cX7_type 40 = .ok (.iconst 1, 1) := by decide +kernel
theorem dX7_type_41 : decode cX7_type 41 = .ok (.iadd, 1) := by decide +kernel
theorem dX7_type_42 : decode cX7_type 42 = .ok (.putfield 153, 3) := by decide +kernel
theorem dX7_type_45 : decode cX7_type 45 = .ok (.aload_n 0, 1) := by decide +kernel
theorem dX7_type_46 : decode cX7_type 46 = .ok (.getfield 153, 3) := by decide +kernel
theorem dX7_type_49 : decode cX7_type 49 = .ok (.ireturn, 1) := by decide +kernel
theorem dX7_clearText_0 : decode cX7_clearText 0 = .ok (.aload_n 0, 1) := by decide +kernel
theorem dX7_clearText_1 : decode cX7_clearText 1 = .ok (.getfield 153, 3) := by decide +kernel
theorem dX7_clearText_4 : decode cX7_clearText 4 = .ok (.istore_n 1, 1) := by decide +kernel
theorem dX7_clearText_5 : decode cX7_clearText 5 = .ok (.aload_n 0, 1) := by decide +kernel
theorem dX7_clearText_6 : decode cX7_clearText 6 = .ok (.iconst 0, 1) := by decide +kernel
theorem dX7_clearText_7 : decode cX7_clearText 7 = .ok (.putfield 153, 3) := by decide +kernel
theorem dX7_clearText_10 : decode cX7_clearText 10 = .ok (.iload_n 1, 1) := by decide +kernel
theorem dX7_clearText_11 : decode cX7_clearText 11 = .ok (.ireturn, 1) := by decide +kernel
theorem dX7_here_0 : decode cX7_here 0 = .ok (.aload_n 0, 1) := by decide +kernel
theorem dX7_here_1 : decode cX7_here 1 = .ok (.getfield 160, 3) := by decide +kernel
theorem dX7_here_4 : decode cX7_here 4 = .ok (.aload_n 0, 1) := by decide +kernel
theorem dX7_here_5 : decode cX7_here 5 = .ok (.getfield 153, 3) := by decide +kernel
theorem dX7_here_8 : decode cX7_here 8 = .ok (.if_icmp .ge 15, 3) := by decide +kernel
theorem dX7_here_11 : decode cX7_here 11 = .ok (.aload_n 0, 1) := by decide +kernel
theorem dX7_here_12 : decode cX7_here 12 = .ok (.getfield 22, 3) := by decide +kernel
theorem dX7_here_15 : decode cX7_here 15 = .ok (.aload_n 0, 1) := by decide +kernel
theorem dX7_here_16 : decode cX7_here 16 = .ok (.getfield 160, 3) := by decide +kernel
theorem dX7_here_19 : decode cX7_here 19 = .ok (.iaload, 1) := by decide +kernel
theorem dX7_here_20 : decode cX7_here 20 = .ok (.goto 4, 3) := by decide +kernel
theorem dX7_here_23 : decode cX7_here 23 = .ok (.iconst (-1), 1) := by decide +kernel
theorem dX7_here_24 : decode cX7_here 24 = .ok (.ireturn, 1) := by decide +kernel
set_option maxRecDepth 20000 in
theorem ggX7_isDigit_X7_here : GoodIn wsX7_isDigit wsX7_here := goodIn_r _ [5, 6, 7, 8, 12, 13, 14, 15, 16, 17, 18, 19, 20, 21, 22, 23, 24, 25] (by decide +kernel) (by decide +kernel)
set_option maxRecDepth 20000 in
theorem gX7_isDigit_X7_here : GoodIn wsX7_isDigit (wsV RX7 163 RX7 yX7_here wsX7_here) := goodIn_app (goodIn_of _ (by decide +kernel)) ggX7_isDigit_X7_here
set_option maxRecDepth 20000 in
theorem ggX7_isDigit_X7_in : GoodIn wsX7_isDigit wsX7_in := goodIn_r _ [11] (by decide +kernel) (by decide +kernel)
set_option maxRecDepth 20000 in
theorem gX7_isDigit_X7_in : GoodIn wsX7_isDigit (va_wsS RX7 50 yX7_in wsX7_in) := goodIn_app (goodIn_of _ (by decide +kernel)) ggX7_isDigit_X7_in
theorem dX7_isDigit_0 : decode cX7_isDigit 0 = .ok (.aload_n 0, 1) := by decide +kernel
theorem dX7_isDigit_1 : decode cX7_isDigit 1 = .ok (.invokevirtual 163, 3) := by decide +kernel
theorem dX7_isDigit_4 : decode cX7_isDigit 4 = .ok (.bipush 48, 2) := by decide +kernel
theorem dX7_isDigit_6 : decode cX7_isDigit 6 = .ok (.bipush 57, 2) := by decide +kernel
theorem dX7_isDigit_8 : decode cX7_isDigit 8 = .ok (.invokestatic 50, 3) := by decide +kernel
theorem dX7_isDigit_11 : decode cX7_isDigit 11 = .ok (.ireturn, 1) := by decide +kernel
set_option maxRecDepth 20000 in
theorem ggX7_takesSign_X7_here : GoodIn wsX7_takesSign wsX7_here := goodIn_r _ [7, 2, 8, 9, 10, 11, 12, 13, 14, 15, 16, 17, 18, 19, 20, 21, 22, 23] (by decide +kernel) (by decide +kernel)
set_option maxRecDepth 20000 in
theorem gX7_takesSign_X7_here : GoodIn wsX7_takesSign (wsV RX7 163 RX7 yX7_here wsX7_here) := goodIn_app (goodIn_of _ (by decide +kernel)) ggX7_takesSign_X7_here
theorem dX7_takesSign_0 : decode cX7_takesSign 0 = .ok (.aload_n 0, 1) := by decide +kernel
theorem dX7_takesSign_1 : decode cX7_takesSign 1 = .ok (.aload_n 0, 1) := by decide +kernel
theorem dX7_takesSign_2 : decode cX7_takesSign 2 = .ok (.getfield 166, 3) := by decide +kernel
theorem dX7_takesSign_5 : decode cX7_takesSign 5 = .ok (.ifCond .eq 15, 3) := by decide +kernel
theorem dX7_takesSign_8 : decode cX7_takesSign 8 = .ok (.aload_n 0, 1) := by decide +kernel
theorem dX7_takesSign_9 : decode cX7_takesSign 9 = .ok (.invokevirtual 163, 3) := by decide +kernel
theorem dX7_takesSign_12 : decode cX7_takesSign 12 = .ok (.iload_n 1, 1) := by decide +kernel
theorem dX7_takesSign_13 : decode cX7_takesSign 13 = .ok (.if_icmp .ne 7, 3) := by decide +kernel
theorem dX7_takesSign_16 : decode cX7_takesSign 16 = .ok (.iconst 1, 1) := by decide +kernel
theorem dX7_takesSign_17 : decode cX7_takesSign 17 = .ok (.goto 4, 3) := by decide +kernel
theorem dX7_takesSign_20 : decode cX7_takesSign 20 = .ok (.iconst 0, 1) := by decide +kernel
theorem dX7_takesSign_21 : decode cX7_takesSign 21 = .ok (.putfield 166, 3) := by decide +kernel
theorem dX7_takesSign_24 : decode cX7_takesSign 24 = .ok (.aload_n 0, 1) := by decide +kernel
theorem dX7_takesSign_25 : decode cX7_takesSign 25 = .ok (.dup, 1) := by decide +kernel
theorem dX7_takesSign_26 : decode cX7_takesSign 26 = .ok (.getfield 160, 3) := by decide +kernel
theorem dX7_takesSign_29 : decode cX7_takesSign 29 = .ok (.aload_n 0, 1) := by decide +kernel
theorem dX7_takesSign_30 : decode cX7_takesSign 30 = .ok (.getfield 166, 3) := by decide +kernel
theorem dX7_takesSign_33 : decode cX7_takesSign 33 = .ok (.ifCond .eq 7, 3) := by decide +kernel
theorem dX7_takesSign_36 : decode cX7_takesSign 36 = .ok (.iconst 1, 1) := by decide +kernel
theorem dX7_takesSign_37 : decode cX7_takesSign 37 = .ok (.goto 4, 3) := by decide +kernel
theorem dX7_takesSign_40 : decode cX7_takesSign 40 = .ok (.iconst 0, 1) := by decide +kernel
theorem dX7_takesSign_41 : decode cX7_takesSign 41 = .ok (.iadd, 1) := by decide +kernel
theorem dX7_takesSign_42 : decode cX7_takesSign 42 = .ok (.putfield 160, 3) := by decide +kernel
theorem dX7_takesSign_45 : decode cX7_takesSign 45 = .ok (.return_, 1) := by decide +kernel
set_option maxRecDepth 20000 in
theorem ggX7_number_X7_isDigit : GoodIn wsX7_number wsX7_isDigit := goodIn_r _ [7, 8, 9, 10, 6, 11, 2, 12, 13, 14, 15, 16, 17, 18, 19, 20, 21, 22, 23, 24, 25, 26, 27, 28, 29, 30] (by decide +kernel) (by decide +kernel)
set_option maxRecDepth 20000 in
theorem gX7_number_X7_isDigit : GoodIn wsX7_number (wsV RX7 169 RX7 yX7_isDigit wsX7_isDigit) := goodIn_app (goodIn_of _ (by decide +kernel)) ggX7_number_X7_isDigit
set_option maxRecDepth 20000 in
theorem ggX7_number_X7_here : GoodIn wsX7_number wsX7_here := goodIn_r _ [11, 2, 12, 13, 17, 18, 19, 20, 21, 22, 23, 24, 25, 26, 27, 28, 29, 30] (by decide +kernel) (by decide +kernel)
set_option maxRecDepth 20000 in
theorem gX7_number_X7_here : GoodIn wsX7_number (wsV RX7 163 RX7 yX7_here wsX7_here) := goodIn_app (goodIn_of _ (by decide +kernel)) ggX7_number_X7_here
theorem dX7_number_0 : decode cX7_number 0 = .ok (.aload_n 0, 1) := by decide +kernel
theorem dX7_number_1 : decode cX7_number 1 = .ok (.aload_n 0, 1) := by decide +kernel
theorem dX7_number_2 : decode cX7_number 2 = .ok (.getfield 166, 3) := by decide +kernel
theorem dX7_number_5 : decode cX7_number 5 = .ok (.ifCond .eq 14, 3) := by decide +kernel
theorem dX7_number_8 : decode cX7_number 8 = .ok (.aload_n 0, 1) := by decide +kernel
theorem dX7_number_9 : decode cX7_number 9 = .ok (.invokevirtual 169, 3) := by decide +kernel
theorem dX7_number_12 : decode cX7_number 12 = .ok (.ifCond .eq 7, 3) := by decide +kernel
theorem dX7_number_15 : decode cX7_number 15 = .ok (.iconst 1, 1) := by decide +kernel
theorem dX7_number_16 : decode cX7_number 16 = .ok (.goto 4, 3) := by decide +kernel
theorem dX7_number_19 : decode cX7_number 19 = .ok (.iconst 0, 1) := by decide +kernel
theorem dX7_number_20 : decode cX7_number 20 = .ok (.putfield 166, 3) := by decide +kernel
theorem dX7_number_23 : decode cX7_number 23 = .ok (.iconst 0, 1) := by decide +kernel
theorem dX7_number_24 : decode cX7_number 24 = .ok (.istore_n 1, 1) := by decide +kernel
theorem dX7_number_25 : decode cX7_number 25 = .ok (.iconst 0, 1) := by decide +kernel
theorem dX7_number_26 : decode cX7_number 26 = .ok (.istore_n 2, 1) := by decide +kernel
theorem dX7_number_27 : decode cX7_number 27 = .ok (.iload_n 2, 1) := by decide +kernel
theorem dX7_number_28 : decode cX7_number 28 = .ok (.iconst 3, 1) := by decide +kernel
theorem dX7_number_29 : decode cX7_number 29 = .ok (.if_icmp .ge 46, 3) := by decide +kernel
theorem dX7_number_32 : decode cX7_number 32 = .ok (.aload_n 0, 1) := by decide +kernel
theorem dX7_number_33 : decode cX7_number 33 = .ok (.getfield 166, 3) := by decide +kernel
theorem dX7_number_36 : decode cX7_number 36 = .ok (.ifCond .eq 39, 3) := by decide +kernel
theorem dX7_number_39 : decode cX7_number 39 = .ok (.aload_n 0, 1) := by decide +kernel
theorem dX7_number_40 : decode cX7_number 40 = .ok (.invokevirtual 169, 3) := by decide +kernel
theorem dX7_number_43 : decode cX7_number 43 = .ok (.ifCond .eq 32, 3) := by decide +kernel
theorem dX7_number_46 : decode cX7_number 46 = .ok (.bipush 10, 2) := by decide +kernel
theorem dX7_number_48 : decode cX7_number 48 = .ok (.iload_n 1, 1) := by decide +kernel
theorem dX7_number_49 : decode cX7_number 49 = .ok (.imul, 1) := by decide +kernel
theorem dX7_number_50 : decode cX7_number 50 = .ok (.aload_n 0, 1) := by decide +kernel
theorem dX7_number_51 : decode cX7_number 51 = .ok (.invokevirtual 163, 3) := by decide +kernel
theorem dX7_number_54 : decode cX7_number 54 = .ok (.iadd, 1) := by decide +kernel
theorem dX7_number_55 : decode cX7_number 55 = .ok (.bipush 48, 2) := by decide +kernel
theorem dX7_number_57 : decode cX7_number 57 = .ok (.isub, 1) := by decide +kernel
theorem dX7_number_58 : decode cX7_number 58 = .ok (.istore_n 1, 1) := by decide +kernel
theorem dX7_number_59 : decode cX7_number 59 = .ok (.aload_n 0, 1) := by decide +kernel
theorem dX7_number_60 : decode cX7_number 60 = .ok (.dup, 1) := by decide +kernel
theorem dX7_number_61 : decode cX7_number 61 = .ok (.getfield 160, 3) := by decide +kernel
theorem dX7_number_64 : decode cX7_number 64 = .ok (.iconst 1, 1) := by decide +kernel
theorem dX7_number_65 : decode cX7_number 65 = .ok (.iadd, 1) := by decide +kernel
theorem dX7_number_66 : decode cX7_number 66 = .ok (.putfield 160, 3) := by decide +kernel
theorem dX7_number_69 : decode cX7_number 69 = .ok (.iinc 2 1, 3) := by decide +kernel
theorem dX7_number_72 : decode cX7_number 72 = .ok (.goto (-45), 3) := by decide +kernel
theorem dX7_number_75 : decode cX7_number 75 = .ok (.iload_n 1, 1) := by decide +kernel
theorem dX7_number_76 : decode cX7_number 76 = .ok (.ireturn, 1) := by decide +kernel
theorem dX7_wants_0 : decode cX7_wants 0 = .ok (.iload_n 0, 1) := by decide +kernel
theorem dX7_wants_1 : decode cX7_wants 1 = .ok (.lookupswitch 57 #[(98, 51), (108, 51), (110, 55), (115, 53), (120, 55)], 51) := by decide +kernel
theorem dX7_wants_52 : decode cX7_wants 52 = .ok (.iconst 3, 1) := by decide +kernel
theorem dX7_wants_53 : decode cX7_wants 53 = .ok (.ireturn, 1) := by decide +kernel
theorem dX7_wants_54 : decode cX7_wants 54 = .ok (.iconst 2, 1) := by decide +kernel
theorem dX7_wants_55 : decode cX7_wants 55 = .ok (.ireturn, 1) := by decide +kernel
theorem dX7_wants_56 : decode cX7_wants 56 = .ok (.iconst 1, 1) := by decide +kernel
theorem dX7_wants_57 : decode cX7_wants 57 = .ok (.ireturn, 1) := by decide +kernel
theorem dX7_wants_58 : decode cX7_wants 58 = .ok (.iload_n 0, 1) := by decide +kernel
theorem dX7_wants_59 : decode cX7_wants 59 = .ok (.bipush 102, 2) := by decide +kernel
theorem dX7_wants_61 : decode cX7_wants 61 = .ok (.if_icmp .ne 7, 3) := by decide +kernel
theorem dX7_wants_64 : decode cX7_wants 64 = .ok (.iconst 0, 1) := by decide +kernel
theorem dX7_wants_65 : decode cX7_wants 65 = .ok (.goto 4, 3) := by decide +kernel
theorem dX7_wants_68 : decode cX7_wants 68 = .ok (.iconst (-1), 1) := by decide +kernel
theorem dX7_wants_69 : decode cX7_wants 69 = .ok (.ireturn, 1) := by decide +kernel
set_option maxRecDepth 20000 in
theorem ggX7_called_X7_loads : GoodIn wsX7_called wsX7_loads := goodIn_r _ [6, 7, 8, 9, 5, 10, 124, 125, 126, 127, 128, 129, 130, 131, 132, 133, 134, 135, 136, 137] (by decide +kernel) (by decide +kernel)
set_option maxRecDepth 20000 in
theorem gX7_called_X7_loads : GoodIn wsX7_called (wsV RX7 122 RX7 yX7_loads wsX7_loads) := goodIn_app (goodIn_of _ (by decide +kernel)) ggX7_called_X7_loads
set_option maxRecDepth 20000 in
theorem ggX7_called_X7_books : GoodIn wsX7_called wsX7_books := goodIn_r _ [14, 7, 8, 9, 5, 10, 15, 16, 17, 18, 19, 20, 21, 22, 23, 24, 25, 26, 27, 28, 29, 30, 31, 32, 33, 34, 35, 36, 37, 38, 39, 40, 41, 42, 43, 44, 45, 46, 47, 48, 49, 50, 51, 52, 53, 54, 55, 56, 57, 58, 59, 60, 61, 62, 63, 64, 65, 66, 67, 68, 69, 70, 71, 72, 73, 74, 75, 76, 77, 78, 79, 80, 81, 82, 83, 84, 85, 86, 87, 88, 89, 90, 91, 92, 93, 94, 95, 124, 125, 126, 127, 128, 129, 130, 131, 132, 133, 134, 135, 136, 137] (by decide +kernel) (by decide +kernel)
set_option maxRecDepth 20000 in
theorem gX7_called_X7_books : GoodIn wsX7_called (wsV RX7 132 RX7 yX7_books wsX7_books) := goodIn_app (goodIn_of _ (by decide +kernel)) ggX7_called_X7_books
set_option maxRecDepth 20000 in
theorem ggX7_called_X7_storms : GoodIn wsX7_called wsX7_storms := goodIn_r _ [99, 7, 8, 9, 5, 10, 100, 101, 102, 103, 124, 125, 126, 127, 128, 129, 130, 131, 132, 133, 134, 135, 136, 137] (by decide +kernel) (by decide +kernel)
set_option maxRecDepth 20000 in
theorem gX7_called_X7_storms : GoodIn wsX7_called (wsV RX7 138 RX7 yX7_storms wsX7_storms) := goodIn_app (goodIn_of _ (by decide +kernel)) ggX7_called_X7_storms
set_option maxRecDepth 20000 in
theorem ggX7_called_X7_cancels : GoodIn wsX7_called wsX7_cancels := goodIn_r _ [107, 108, 109, 110, 5, 111, 7, 8, 9, 10, 40, 41, 42, 43, 28, 29, 30, 31, 36, 37, 38, 39, 124, 125, 126, 127, 128, 129, 130, 131, 132, 133, 134, 135, 136, 137] (by decide +kernel) (by decide +kernel)
set_option maxRecDepth 20000 in
theorem gX7_called_X7_cancels : GoodIn wsX7_called (wsV RX7 135 RX7 yX7_cancels wsX7_cancels) := goodIn_app (goodIn_of _ (by decide +kernel)) ggX7_called_X7_cancels
set_option maxRecDepth 20000 in
theorem ggX7_called_X7_sleeps : GoodIn wsX7_called wsX7_sleeps := goodIn_r _ [115, 7, 8, 9, 5, 10, 44, 45, 46, 47, 48, 49, 50, 51, 52, 53, 54, 55, 40, 41, 42, 43, 28, 29, 30, 31, 56, 57, 58, 59, 60, 61, 62, 63, 64, 65, 66, 67, 68, 69, 70, 71, 72, 73, 74, 75, 76, 77, 78, 79, 80, 81, 82, 83, 84, 85, 86, 87, 88, 89, 90, 91, 92, 93, 94, 95, 124, 125, 126, 127, 128, 129, 130, 131, 132, 133, 134, 135, 136, 137] (by decide +kernel) (by decide +kernel)
set_option maxRecDepth 20000 in
theorem gX7_called_X7_sleeps : GoodIn wsX7_called (wsV RX7 141 RX7 yX7_sleeps wsX7_sleeps) := goodIn_app (goodIn_of _ (by decide +kernel)) ggX7_called_X7_sleeps
set_option maxRecDepth 20000 in
theorem ggX7_called_X7_flies : GoodIn wsX7_called wsX7_flies := goodIn_r _ [119, 7, 48, 49, 50, 5, 51, 120, 121, 122, 123, 72, 73, 74, 75, 124, 125, 126, 127, 128, 129, 130, 131, 132, 133, 134, 135, 136, 137] (by decide +kernel) (by decide +kernel)
set_option maxRecDepth 20000 in
theorem gX7_called_X7_flies : GoodIn wsX7_called (wsV RX7 129 RX7 yX7_flies wsX7_flies) := goodIn_app (goodIn_of _ (by decide +kernel)) ggX7_called_X7_flies
theorem dX7_called_0 : decode cX7_called 0 = .ok (.iload_n 1, 1) := by decide +kernel
theorem dX7_called_1 : decode cX7_called 1 = .ok (.lookupswitch 136 #[(98, 74), (108, 51), (110, 125), (115, 97), (120, 114)], 51) := by decide +kernel
theorem dX7_called_52 : decode cX7_called 52 = .ok (.aload_n 0, 1) := by decide +kernel
theorem dX7_called_53 : decode cX7_called 53 = .ok (.aload_n 0, 1) := by decide +kernel
theorem dX7_called_54 : decode cX7_called 54 = .ok (.getfield 28, 3) := by decide +kernel
theorem dX7_called_57 : decode cX7_called 57 = .ok (.iconst 0, 1) := by decide +kernel
theorem dX7_called_58 : decode cX7_called 58 = .ok (.iaload, 1) := by decide +kernel
theorem dX7_called_59 : decode cX7_called 59 = .ok (.aload_n 0, 1) := by decide +kernel
theorem dX7_called_60 : decode cX7_called 60 = .ok (.getfield 28, 3) := by decide +kernel
theorem dX7_called_63 : decode cX7_called 63 = .ok (.iconst 1, 1) := by decide +kernel
theorem dX7_called_64 : decode cX7_called 64 = .ok (.iaload, 1) := by decide +kernel
theorem dX7_called_65 : decode cX7_called 65 = .ok (.aload_n 0, 1) := by decide +kernel
theorem dX7_called_66 : decode cX7_called 66 = .ok (.getfield 28, 3) := by decide +kernel
theorem dX7_called_69 : decode cX7_called 69 = .ok (.iconst 2, 1) := by decide +kernel
theorem dX7_called_70 : decode cX7_called 70 = .ok (.iaload, 1) := by decide +kernel
theorem dX7_called_71 : decode cX7_called 71 = .ok (.invokevirtual 122, 3) := by decide +kernel
theorem dX7_called_74 : decode cX7_called 74 = .ok (.ireturn, 1) := by decide +kernel
theorem dX7_called_75 : decode cX7_called 75 = .ok (.aload_n 0, 1) := by decide +kernel
theorem dX7_called_76 : decode cX7_called 76 = .ok (.aload_n 0, 1) := by decide +kernel
theorem dX7_called_77 : decode cX7_called 77 = .ok (.getfield 28, 3) := by decide +kernel
theorem dX7_called_80 : decode cX7_called 80 = .ok (.iconst 0, 1) := by decide +kernel
theorem dX7_called_81 : decode cX7_called 81 = .ok (.iaload, 1) := by decide +kernel
theorem dX7_called_82 : decode cX7_called 82 = .ok (.aload_n 0, 1) := by decide +kernel
theorem dX7_called_83 : decode cX7_called 83 = .ok (.getfield 28, 3) := by decide +kernel
theorem dX7_called_86 : decode cX7_called 86 = .ok (.iconst 1, 1) := by decide +kernel
theorem dX7_called_87 : decode cX7_called 87 = .ok (.iaload, 1) := by decide +kernel
theorem dX7_called_88 : decode cX7_called 88 = .ok (.aload_n 0, 1) := by decide +kernel
theorem dX7_called_89 : decode cX7_called 89 = .ok (.getfield 28, 3) := by decide +kernel
theorem dX7_called_92 : decode cX7_called 92 = .ok (.iconst 2, 1) := by decide +kernel
theorem dX7_called_93 : decode cX7_called 93 = .ok (.iaload, 1) := by decide +kernel
theorem dX7_called_94 : decode cX7_called 94 = .ok (.invokevirtual 132, 3) := by decide +kernel
theorem dX7_called_97 : decode cX7_called 97 = .ok (.ireturn, 1) := by decide +kernel
theorem dX7_called_98 : decode cX7_called 98 = .ok (.aload_n 0, 1) := by decide +kernel
theorem dX7_called_99 : decode cX7_called 99 = .ok (.aload_n 0, 1) := by decide +kernel
theorem dX7_called_100 : decode cX7_called 100 = .ok (.getfield 28, 3) := by decide +kernel
theorem dX7_called_103 : decode cX7_called 103 = .ok (.iconst 0, 1) := by decide +kernel
theorem dX7_called_104 : decode cX7_called 104 = .ok (.iaload, 1) := by decide +kernel
theorem dX7_called_105 : decode cX7_called 105 = .ok (.aload_n 0, 1) := by decide +kernel
theorem dX7_called_106 : decode cX7_called 106 = .ok (.getfield 28, 3) := by decide +kernel
theorem dX7_called_109 : decode cX7_called 109 = .ok (.iconst 1, 1) := by decide +kernel
theorem dX7_called_110 : decode cX7_called 110 = .ok (.iaload, 1) := by decide +kernel
theorem dX7_called_111 : decode cX7_called 111 = .ok (.invokevirtual 138, 3) := by decide +kernel
theorem dX7_called_114 : decode cX7_called 114 = .ok (.ireturn, 1) := by decide +kernel
theorem dX7_called_115 : decode cX7_called 115 = .ok (.aload_n 0, 1) := by decide +kernel
theorem dX7_called_116 : decode cX7_called 116 = .ok (.aload_n 0, 1) := by decide +kernel
theorem dX7_called_117 : decode cX7_called 117 = .ok (.getfield 28, 3) := by decide +kernel
theorem dX7_called_120 : decode cX7_called 120 = .ok (.iconst 0, 1) := by decide +kernel
theorem dX7_called_121 : decode cX7_called 121 = .ok (.iaload, 1) := by decide +kernel
theorem dX7_called_122 : decode cX7_called 122 = .ok (.invokevirtual 135, 3) := by decide +kernel
theorem dX7_called_125 : decode cX7_called 125 = .ok (.ireturn, 1) := by decide +kernel
theorem dX7_called_126 : decode cX7_called 126 = .ok (.aload_n 0, 1) := by decide +kernel
theorem dX7_called_127 : decode cX7_called 127 = .ok (.aload_n 0, 1) := by decide +kernel
theorem dX7_called_128 : decode cX7_called 128 = .ok (.getfield 28, 3) := by decide +kernel
theorem dX7_called_131 : decode cX7_called 131 = .ok (.iconst 0, 1) := by decide +kernel
theorem dX7_called_132 : decode cX7_called 132 = .ok (.iaload, 1) := by decide +kernel
theorem dX7_called_133 : decode cX7_called 133 = .ok (.invokevirtual 141, 3) := by decide +kernel
theorem dX7_called_136 : decode cX7_called 136 = .ok (.ireturn, 1) := by decide +kernel
theorem dX7_called_137 : decode cX7_called 137 = .ok (.aload_n 0, 1) := by decide +kernel
theorem dX7_called_138 : decode cX7_called 138 = .ok (.invokevirtual 129, 3) := by decide +kernel
theorem dX7_called_141 : decode cX7_called 141 = .ok (.ireturn, 1) := by decide +kernel
set_option maxRecDepth 20000 in
theorem ggX7_does_X7_here : GoodIn wsX7_does wsX7_here := goodIn_r _ [11, 1, 3, 12, 153, 154, 155, 156, 157, 158, 159, 160, 161, 162, 163, 164, 165, 166] (by decide +kernel) (by decide +kernel)
set_option maxRecDepth 20000 in
theorem gX7_does_X7_here : GoodIn wsX7_does (wsV RX7 163 RX7 yX7_here wsX7_here) := goodIn_app (goodIn_of _ (by decide +kernel)) ggX7_does_X7_here
set_option maxRecDepth 20000 in
theorem ggX7_does_X7_wants : GoodIn wsX7_does wsX7_wants := goodIn_r _ [15] (by decide +kernel) (by decide +kernel)
set_option maxRecDepth 20000 in
theorem gX7_does_X7_wants : GoodIn wsX7_does (va_wsS RX7 175 yX7_wants wsX7_wants) := goodIn_app (goodIn_of _ (by decide +kernel)) ggX7_does_X7_wants
set_option maxRecDepth 20000 in
theorem ggX7_does_X7_takesSign : GoodIn wsX7_does wsX7_takesSign := goodIn_r _ [19, 4, 1, 7, 8, 9, 10, 11, 3, 12, 153, 154, 155, 156, 157, 158, 159, 160, 161, 162, 163, 164, 165, 166] (by decide +kernel) (by decide +kernel)
set_option maxRecDepth 20000 in
theorem gX7_does_X7_takesSign : GoodIn wsX7_does (wsV RX7 178 RX7 yX7_takesSign wsX7_takesSign) := goodIn_app (goodIn_of _ (by decide +kernel)) ggX7_does_X7_takesSign
set_option maxRecDepth 20000 in
theorem ggX7_does_X7_number : GoodIn wsX7_does wsX7_number := goodIn_r _ [23, 4, 1, 24, 25, 26, 10, 27, 7, 8, 9, 11, 3, 12, 28, 29, 30, 153, 154, 155, 156, 157, 158, 159, 160, 161, 162, 163, 164, 165, 166] (by decide +kernel) (by decide +kernel)
set_option maxRecDepth 20000 in
theorem gX7_does_X7_number : GoodIn wsX7_does (wsV RX7 181 RX7 yX7_number wsX7_number) := goodIn_app (goodIn_of _ (by decide +kernel)) ggX7_does_X7_number
set_option maxRecDepth 20000 in
theorem ggX7_does_X7_called : GoodIn wsX7_does wsX7_called := goodIn_r _ [34, 5, 35, 36, 37, 10, 38, 39, 28, 29, 30, 40, 41, 42, 43, 44, 45, 46, 47, 48, 49, 50, 51, 52, 53, 54, 55, 56, 57, 58, 59, 60, 61, 62, 63, 64, 65, 66, 67, 68, 69, 70, 71, 72, 73, 74, 75, 76, 77, 78, 79, 80, 81, 82, 83, 84, 85, 86, 87, 88, 89, 90, 91, 92, 93, 94, 95, 96, 97, 98, 99, 100, 101, 102, 103, 104, 105, 106, 107, 108, 109, 110, 111, 112, 113, 114, 115, 116, 117, 118, 119, 120, 121, 122, 123, 124, 125, 126, 127, 128, 129, 130, 131, 132, 133, 134, 135, 136, 137, 138, 139, 140, 141, 142, 143, 144, 145, 146, 147, 148, 149, 150, 151, 152, 153, 154, 155, 156, 157, 158, 159, 160, 161, 162, 163, 164, 165, 166] (by decide +kernel) (by decide +kernel)
set_option maxRecDepth 20000 in
theorem gX7_does_X7_called : GoodIn wsX7_does (wsV RX7 184 RX7 yX7_called wsX7_called) := goodIn_app (goodIn_of _ (by decide +kernel)) ggX7_does_X7_called
theorem dX7_does_0 : decode cX7_does 0 = .ok (.aload_n 0, 1) := by decide +kernel
theorem dX7_does_1 : decode cX7_does 1 = .ok (.iconst 0, 1) := by decide +kernel
theorem dX7_does_2 : decode cX7_does 2 = .ok (.putfield 160, 3) := by decide +kernel
theorem dX7_does_5 : decode cX7_does 5 = .ok (.aload_n 0, 1) := by decide +kernel
theorem dX7_does_6 : decode cX7_does 6 = .ok (.iconst 0, 1) := by decide +kernel
theorem dX7_does_7 : decode cX7_does 7 = .ok (.putfield 172, 3) := by decide +kernel
theorem dX7_does_10 : decode cX7_does 10 = .ok (.aload_n 0, 1) := by decide +kernel
theorem dX7_does_11 : decode cX7_does 11 = .ok (.getfield 160, 3) := by decide +kernel
theorem dX7_does_14 : decode cX7_does 14 = .ok (.aload_n 0, 1) := by decide +kernel
theorem dX7_does_15 : decode cX7_does 15 = .ok (.getfield 153, 3) := by decide +kernel
theorem dX7_does_18 : decode cX7_does 18 = .ok (.if_icmp .ge 141, 3) := by decide +kernel
theorem dX7_does_21 : decode cX7_does 21 = .ok (.aload_n 0, 1) := by decide +kernel
theorem dX7_does_22 : decode cX7_does 22 = .ok (.getfield 160, 3) := by decide +kernel
theorem dX7_does_25 : decode cX7_does 25 = .ok (.istore_n 1, 1) := by decide +kernel
theorem dX7_does_26 : decode cX7_does 26 = .ok (.aload_n 0, 1) := by decide +kernel
theorem dX7_does_27 : decode cX7_does 27 = .ok (.invokevirtual 163, 3) := by decide +kernel
theorem dX7_does_30 : decode cX7_does 30 = .ok (.istore_n 2, 1) := by decide +kernel
theorem dX7_does_31 : decode cX7_does 31 = .ok (.aload_n 0, 1) := by decide +kernel
theorem dX7_does_32 : decode cX7_does 32 = .ok (.iload_n 2, 1) := by decide +kernel
theorem dX7_does_33 : decode cX7_does 33 = .ok (.invokestatic 175, 3) := by decide +kernel
theorem dX7_does_36 : decode cX7_does 36 = .ok (.ifCond .lt 7, 3) := by decide +kernel
theorem dX7_does_39 : decode cX7_does 39 = .ok (.iconst 1, 1) := by decide +kernel
theorem dX7_does_40 : decode cX7_does 40 = .ok (.goto 4, 3) := by decide +kernel
theorem dX7_does_43 : decode cX7_does 43 = .ok (.iconst 0, 1) := by decide +kernel
theorem dX7_does_44 : decode cX7_does 44 = .ok (.putfield 166, 3) := by decide +kernel
theorem dX7_does_47 : decode cX7_does 47 = .ok (.aload_n 0, 1) := by decide +kernel
theorem dX7_does_48 : decode cX7_does 48 = .ok (.dup, 1) := by decide +kernel
theorem dX7_does_49 : decode cX7_does 49 = .ok (.getfield 160, 3) := by decide +kernel
theorem dX7_does_52 : decode cX7_does 52 = .ok (.aload_n 0, 1) := by decide +kernel
theorem dX7_does_53 : decode cX7_does 53 = .ok (.getfield 166, 3) := by decide +kernel
theorem dX7_does_56 : decode cX7_does 56 = .ok (.ifCond .eq 7, 3) := by decide +kernel
theorem dX7_does_59 : decode cX7_does 59 = .ok (.iconst 1, 1) := by decide +kernel
theorem dX7_does_60 : decode cX7_does 60 = .ok (.goto 4, 3) := by decide +kernel
theorem dX7_does_63 : decode cX7_does 63 = .ok (.iconst 0, 1) := by decide +kernel
theorem dX7_does_64 : decode cX7_does 64 = .ok (.iadd, 1) := by decide +kernel
theorem dX7_does_65 : decode cX7_does 65 = .ok (.putfield 160, 3) := by decide +kernel
theorem dX7_does_68 : decode cX7_does 68 = .ok (.iconst 0, 1) := by decide +kernel
theorem dX7_does_69 : decode cX7_does 69 = .ok (.istore_n 3, 1) := by decide +kernel
theorem dX7_does_70 : decode cX7_does 70 = .ok (.iload_n 3, 1) := by decide +kernel
theorem dX7_does_71 : decode cX7_does 71 = .ok (.iload_n 2, 1) := by decide +kernel
theorem dX7_does_72 : decode cX7_does 72 = .ok (.invokestatic 175, 3) := by decide +kernel
theorem dX7_does_75 : decode cX7_does 75 = .ok (.if_icmp .ge 29, 3) := by decide +kernel
theorem dX7_does_78 : decode cX7_does 78 = .ok (.iload_n 3, 1) := by decide +kernel
theorem dX7_does_79 : decode cX7_does 79 = .ok (.ifCond .le 9, 3) := by decide +kernel
theorem dX7_does_82 : decode cX7_does 82 = .ok (.aload_n 0, 1) := by decide +kernel
theorem dX7_does_83 : decode cX7_does 83 = .ok (.bipush 44, 2) := by decide +kernel
theorem dX7_does_85 : decode cX7_does 85 = .ok (.invokevirtual 178, 3) := by decide +kernel
theorem dX7_does_88 : decode cX7_does 88 = .ok (.aload_n 0, 1) := by decide +kernel
theorem dX7_does_89 : decode cX7_does 89 = .ok (.getfield 28, 3) := by decide +kernel
theorem dX7_does_92 : decode cX7_does 92 = .ok (.iload_n 3, 1) := by decide +kernel
theorem dX7_does_93 : decode cX7_does 93 = .ok (.aload_n 0, 1) := by decide +kernel
theorem dX7_does_94 : decode cX7_does 94 = .ok (.invokevirtual 181, 3) := by decide +kernel
theorem dX7_does_97 : decode cX7_does 97 = .ok (.iastore, 1) := by decide +kernel
theorem dX7_does_98 : decode cX7_does 98 = .ok (.iinc 3 1, 3) := by decide +kernel
theorem dX7_does_101 : decode cX7_does 101 = .ok (.goto (-31), 3) := by decide +kernel
theorem dX7_does_104 : decode cX7_does 104 = .ok (.aload_n 0, 1) := by decide +kernel
theorem dX7_does_105 : decode cX7_does 105 = .ok (.bipush 59, 2) := by decide +kernel
theorem dX7_does_107 : decode cX7_does 107 = .ok (.invokevirtual 178, 3) := by decide +kernel
theorem dX7_does_110 : decode cX7_does 110 = .ok (.aload_n 0, 1) := by decide +kernel
theorem dX7_does_111 : decode cX7_does 111 = .ok (.aload_n 0, 1) := by decide +kernel
theorem dX7_does_112 : decode cX7_does 112 = .ok (.getfield 166, 3) := by decide +kernel
theorem dX7_does_115 : decode cX7_does 115 = .ok (.ifCond .eq 11, 3) := by decide +kernel
theorem dX7_does_118 : decode cX7_does 118 = .ok (.aload_n 0, 1) := by decide +kernel
theorem dX7_does_119 : decode cX7_does 119 = .ok (.iload_n 2, 1) := by decide +kernel
theorem dX7_does_120 : decode cX7_does 120 = .ok (.invokevirtual 184, 3) := by decide +kernel
theorem dX7_does_123 : decode cX7_does 123 = .ok (.goto 4, 3) := by decide +kernel
theorem dX7_does_126 : decode cX7_does 126 = .ok (.iconst 0, 1) := by decide +kernel
theorem dX7_does_127 : decode cX7_does 127 = .ok (.putfield 187, 3) := by decide +kernel
theorem dX7_does_130 : decode cX7_does 130 = .ok (.aload_n 0, 1) := by decide +kernel
theorem dX7_does_131 : decode cX7_does 131 = .ok (.getfield 166, 3) := by decide +kernel
theorem dX7_does_134 : decode cX7_does 134 = .ok (.ifCond .eq 10, 3) := by decide +kernel
theorem dX7_does_137 : decode cX7_does 137 = .ok (.aload_n 0, 1) := by decide +kernel
theorem dX7_does_138 : decode cX7_does 138 = .ok (.getfield 187, 3) := by decide +kernel
theorem dX7_does_141 : decode cX7_does 141 = .ok (.ifCond .ge 5, 3) := by decide +kernel
theorem dX7_does_144 : decode cX7_does 144 = .ok (.iload_n 1, 1) := by decide +kernel
theorem dX7_does_145 : decode cX7_does 145 = .ok (.ireturn, 1) := by decide +kernel
theorem dX7_does_146 : decode cX7_does 146 = .ok (.aload_n 0, 1) := by decide +kernel
theorem dX7_does_147 : decode cX7_does 147 = .ok (.dup, 1) := by decide +kernel
theorem dX7_does_148 : decode cX7_does 148 = .ok (.getfield 172, 3) := by decide +kernel
theorem dX7_does_151 : decode cX7_does 151 = .ok (.iconst 1, 1) := by decide +kernel
theorem dX7_does_152 : decode cX7_does 152 = .ok (.iadd, 1) := by decide +kernel
theorem dX7_does_153 : decode cX7_does 153 = .ok (.putfield 172, 3) := by decide +kernel
theorem dX7_does_156 : decode cX7_does 156 = .ok (.goto (-146), 3) := by decide +kernel
theorem dX7_does_159 : decode cX7_does 159 = .ok (.iconst (-1), 1) := by decide +kernel
theorem dX7_does_160 : decode cX7_does 160 = .ok (.ireturn, 1) := by decide +kernel
set_option maxRecDepth 20000 in
theorem ggX7_fault_X7_in : GoodIn wsX7_fault wsX7_in := goodIn_r _ [6] (by decide +kernel) (by decide +kernel)
set_option maxRecDepth 20000 in
theorem gX7_fault_X7_in : GoodIn wsX7_fault (va_wsS RX7 50 yX7_in wsX7_in) := goodIn_app (goodIn_of _ (by decide +kernel)) ggX7_fault_X7_in
set_option maxRecDepth 20000 in
theorem ggX7_fault_X7_begins : GoodIn wsX7_fault wsX7_begins := goodIn_r _ [10, 11, 12, 166, 167, 168, 169, 170, 171, 172, 173, 174, 175, 176, 177, 178, 179] (by decide +kernel) (by decide +kernel)
set_option maxRecDepth 20000 in
theorem gX7_fault_X7_begins : GoodIn wsX7_fault (wsV RX7 119 RX7 yX7_begins wsX7_begins) := goodIn_app (goodIn_of _ (by decide +kernel)) ggX7_fault_X7_begins
set_option maxRecDepth 20000 in
theorem ggX7_fault_X7_does : GoodIn wsX7_fault wsX7_does := goodIn_r _ [16, 17, 18, 19, 1, 20, 2, 21, 22, 23, 5, 24, 25, 26, 27, 28, 29, 30, 31, 32, 33, 34, 35, 36, 37, 38, 39, 40, 3, 4, 6, 41, 42, 43, 44, 45, 46, 47, 48, 12, 49, 50, 51, 52, 53, 54, 55, 56, 57, 58, 59, 60, 61, 62, 63, 64, 65, 66, 67, 68, 69, 70, 71, 72, 73, 74, 75, 76, 77, 78, 79, 80, 81, 82, 83, 84, 85, 86, 87, 88, 89, 90, 91, 92, 93, 94, 95, 96, 97, 98, 99, 100, 101, 102, 103, 104, 105, 106, 107, 108, 109, 110, 111, 112, 113, 114, 115, 116, 117, 118, 119, 120, 121, 122, 123, 124, 125, 126, 127, 128, 129, 130, 131, 132, 133, 134, 135, 136, 137, 138, 139, 140, 141, 142, 143, 144, 145, 146, 147, 148, 149, 150, 151, 152, 153, 154, 155, 156, 157, 158, 159, 160, 161, 166, 167, 168, 169, 170, 171, 172, 173, 174, 175, 176, 177, 178, 179] (by decide +kernel) (by decide +kernel)
set_option maxRecDepth 20000 in
theorem gX7_fault_X7_does : GoodIn wsX7_fault (wsV RX7 190 RX7 yX7_does wsX7_does) := goodIn_app (goodIn_of _ (by decide +kernel)) ggX7_fault_X7_does
set_option maxRecDepth 20000 in
theorem ggX7_fault_X7_returns : GoodIn wsX7_fault wsX7_returns := goodIn_r _ [165, 12, 11, 166, 167, 168, 169, 170, 171, 172, 173, 174, 175, 176, 177, 178, 179] (by decide +kernel) (by decide +kernel)
set_option maxRecDepth 20000 in
theorem gX7_fault_X7_returns : GoodIn wsX7_fault (wsV RX7 31 RX7 yX7_returns wsX7_returns) := goodIn_app (goodIn_of _ (by decide +kernel)) ggX7_fault_X7_returns
theorem dX7_fault_0 : decode cX7_fault 0 = .ok (.iload_n 1, 1) := by decide +kernel
theorem dX7_fault_1 : decode cX7_fault 1 = .ok (.iconst 0, 1) := by decide +kernel
theorem dX7_fault_2 : decode cX7_fault 2 = .ok (.iconst 2, 1) := by decide +kernel
theorem dX7_fault_3 : decode cX7_fault 3 = .ok (.invokestatic 50, 3) := by decide +kernel
theorem dX7_fault_6 : decode cX7_fault 6 = .ok (.ifCond .ne 5, 3) := by decide +kernel
theorem dX7_fault_9 : decode cX7_fault 9 = .ok (.iconst (-1), 1) := by decide +kernel
theorem dX7_fault_10 : decode cX7_fault 10 = .ok (.ireturn, 1) := by decide +kernel
theorem dX7_fault_11 : decode cX7_fault 11 = .ok (.aload_n 0, 1) := by decide +kernel
theorem dX7_fault_12 : decode cX7_fault 12 = .ok (.invokevirtual 119, 3) := by decide +kernel
theorem dX7_fault_15 : decode cX7_fault 15 = .ok (.aload_n 0, 1) := by decide +kernel
theorem dX7_fault_16 : decode cX7_fault 16 = .ok (.invokevirtual 190, 3) := by decide +kernel
theorem dX7_fault_19 : decode cX7_fault 19 = .ok (.istore_n 2, 1) := by decide +kernel
theorem dX7_fault_20 : decode cX7_fault 20 = .ok (.aload_n 0, 1) := by decide +kernel
theorem dX7_fault_21 : decode cX7_fault 21 = .ok (.invokevirtual 31, 3) := by decide +kernel
theorem dX7_fault_24 : decode cX7_fault 24 = .ok (.iload_n 2, 1) := by decide +kernel
theorem dX7_fault_25 : decode cX7_fault 25 = .ok (.ifCond .lt 19, 3) := by decide +kernel
theorem dX7_fault_28 : decode cX7_fault 28 = .ok (.iload_n 1, 1) := by decide +kernel
theorem dX7_fault_29 : decode cX7_fault 29 = .ok (.iconst 2, 1) := by decide +kernel
theorem dX7_fault_30 : decode cX7_fault 30 = .ok (.if_icmp .lt 10, 3) := by decide +kernel
theorem dX7_fault_33 : decode cX7_fault 33 = .ok (.aload_n 0, 1) := by decide +kernel
theorem dX7_fault_34 : decode cX7_fault 34 = .ok (.getfield 166, 3) := by decide +kernel
theorem dX7_fault_37 : decode cX7_fault 37 = .ok (.ifCond .eq 7, 3) := by decide +kernel
theorem dX7_fault_40 : decode cX7_fault 40 = .ok (.iconst 1, 1) := by decide +kernel
theorem dX7_fault_41 : decode cX7_fault 41 = .ok (.goto 4, 3) := by decide +kernel
theorem dX7_fault_44 : decode cX7_fault 44 = .ok (.iconst 0, 1) := by decide +kernel
theorem dX7_fault_45 : decode cX7_fault 45 = .ok (.istore_n 3, 1) := by decide +kernel
theorem dX7_fault_46 : decode cX7_fault 46 = .ok (.iload_n 3, 1) := by decide +kernel
theorem dX7_fault_47 : decode cX7_fault 47 = .ok (.ifCond .ne 8, 3) := by decide +kernel
theorem dX7_fault_50 : decode cX7_fault 50 = .ok (.bipush (-4), 2) := by decide +kernel
theorem dX7_fault_52 : decode cX7_fault 52 = .ok (.goto 35, 3) := by decide +kernel
theorem dX7_fault_55 : decode cX7_fault 55 = .ok (.iload_n 1, 1) := by decide +kernel
theorem dX7_fault_56 : decode cX7_fault 56 = .ok (.ifCond .ne 7, 3) := by decide +kernel
theorem dX7_fault_59 : decode cX7_fault 59 = .ok (.iload_n 2, 1) := by decide +kernel
theorem dX7_fault_60 : decode cX7_fault 60 = .ok (.goto 27, 3) := by decide +kernel
theorem dX7_fault_63 : decode cX7_fault 63 = .ok (.iload_n 1, 1) := by decide +kernel
theorem dX7_fault_64 : decode cX7_fault 64 = .ok (.iconst 1, 1) := by decide +kernel
theorem dX7_fault_65 : decode cX7_fault 65 = .ok (.if_icmp .ne 18, 3) := by decide +kernel
theorem dX7_fault_68 : decode cX7_fault 68 = .ok (.aload_n 0, 1) := by decide +kernel
theorem dX7_fault_69 : decode cX7_fault 69 = .ok (.getfield 166, 3) := by decide +kernel
theorem dX7_fault_72 : decode cX7_fault 72 = .ok (.ifCond .eq 7, 3) := by decide +kernel
theorem dX7_fault_75 : decode cX7_fault 75 = .ok (.iconst 2, 1) := by decide +kernel
theorem dX7_fault_76 : decode cX7_fault 76 = .ok (.goto 11, 3) := by decide +kernel
theorem dX7_fault_79 : decode cX7_fault 79 = .ok (.iconst 1, 1) := by decide +kernel
theorem dX7_fault_80 : decode cX7_fault 80 = .ok (.goto 7, 3) := by decide +kernel
theorem dX7_fault_83 : decode cX7_fault 83 = .ok (.aload_n 0, 1) := by decide +kernel
theorem dX7_fault_84 : decode cX7_fault 84 = .ok (.getfield 187, 3) := by decide +kernel
theorem dX7_fault_87 : decode cX7_fault 87 = .ok (.ireturn, 1) := by decide +kernel
set_option maxRecDepth 20000 in
theorem ggX7_play_X7_begins : GoodIn wsX7_play wsX7_begins := goodIn_r _ [6, 7, 8, 172, 173, 174, 175, 176, 177, 178, 179, 180, 181, 182, 183, 184, 185] (by decide +kernel) (by decide +kernel)
set_option maxRecDepth 20000 in
theorem gX7_play_X7_begins : GoodIn wsX7_play (wsV RX7 119 RX7 yX7_begins wsX7_begins) := goodIn_app (goodIn_of _ (by decide +kernel)) ggX7_play_X7_begins
set_option maxRecDepth 20000 in
theorem ggX7_play_X7_does : GoodIn wsX7_play wsX7_does := goodIn_r _ [12, 13, 1, 14, 15, 16, 17, 18, 19, 20, 5, 21, 22, 23, 24, 25, 26, 27, 28, 29, 30, 31, 32, 33, 34, 35, 36, 37, 38, 39, 40, 41, 42, 43, 44, 45, 46, 47, 48, 8, 49, 50, 51, 52, 53, 54, 55, 56, 57, 58, 59, 60, 61, 62, 63, 64, 65, 66, 67, 68, 69, 70, 71, 72, 73, 74, 75, 76, 77, 78, 79, 80, 81, 82, 83, 84, 85, 86, 87, 88, 89, 90, 91, 92, 93, 94, 95, 96, 97, 98, 99, 100, 101, 102, 103, 104, 105, 106, 107, 108, 109, 110, 111, 112, 113, 114, 115, 116, 117, 118, 119, 120, 121, 122, 123, 124, 125, 126, 127, 128, 129, 130, 131, 132, 133, 134, 135, 136, 137, 138, 139, 140, 141, 142, 143, 144, 145, 146, 147, 148, 149, 150, 151, 152, 153, 154, 155, 156, 157, 158, 159, 160, 161, 172, 173, 174, 175, 176, 177, 178, 179, 180, 181, 182, 183, 184, 185] (by decide +kernel) (by decide +kernel)
set_option maxRecDepth 20000 in
theorem gX7_play_X7_does : GoodIn wsX7_play (wsV RX7 190 RX7 yX7_does wsX7_does) := goodIn_app (goodIn_of _ (by decide +kernel)) ggX7_play_X7_does
set_option maxRecDepth 20000 in
theorem ggX7_play_X7_acted : GoodIn wsX7_play wsX7_acted := goodIn_r _ [165, 166, 167, 7, 168, 169, 170, 5, 171, 8, 172, 173, 174, 175, 176, 177, 178, 179, 180, 181, 182, 183, 184, 185] (by decide +kernel) (by decide +kernel)
set_option maxRecDepth 20000 in
theorem gX7_play_X7_acted : GoodIn wsX7_play (wsV RX7 126 RX7 yX7_acted wsX7_acted) := goodIn_app (goodIn_of _ (by decide +kernel)) ggX7_play_X7_acted
theorem dX7_play_0 : decode cX7_play 0 = .ok (.aload_n 0, 1) := by decide +kernel
theorem dX7_play_1 : decode cX7_play 1 = .ok (.invokevirtual 119, 3) := by decide +kernel
theorem dX7_play_4 : decode cX7_play 4 = .ok (.aload_n 0, 1) := by decide +kernel
theorem dX7_play_5 : decode cX7_play 5 = .ok (.aload_n 0, 1) := by decide +kernel
theorem dX7_play_6 : decode cX7_play 6 = .ok (.invokevirtual 190, 3) := by decide +kernel
theorem dX7_play_9 : decode cX7_play 9 = .ok (.ifCond .ge 10, 3) := by decide +kernel
theorem dX7_play_12 : decode cX7_play 12 = .ok (.aload_n 0, 1) := by decide +kernel
theorem dX7_play_13 : decode cX7_play 13 = .ok (.getfield 172, 3) := by decide +kernel
theorem dX7_play_16 : decode cX7_play 16 = .ok (.goto 5, 3) := by decide +kernel
theorem dX7_play_19 : decode cX7_play 19 = .ok (.bipush (-2), 2) := by decide +kernel
theorem dX7_play_21 : decode cX7_play 21 = .ok (.invokevirtual 126, 3) := by decide +kernel
theorem dX7_play_24 : decode cX7_play 24 = .ok (.ireturn, 1) := by decide +kernel
theorem dJ9_max_7cf53_0 : decode cJ9_max_7cf53 0 = .ok (.iload_n 0, 1) := by decide +kernel
theorem dJ9_max_7cf53_1 : decode cJ9_max_7cf53 1 = .ok (.iload_n 1, 1) := by decide +kernel
theorem dJ9_max_7cf53_2 : decode cJ9_max_7cf53 2 = .ok (.if_icmp .lt 7, 3) := by decide +kernel
theorem dJ9_max_7cf53_5 : decode cJ9_max_7cf53 5 = .ok (.iload_n 0, 1) := by decide +kernel
theorem dJ9_max_7cf53_6 : decode cJ9_max_7cf53 6 = .ok (.goto 4, 3) := by decide +kernel
theorem dJ9_max_7cf53_9 : decode cJ9_max_7cf53 9 = .ok (.iload_n 1, 1) := by decide +kernel
theorem dJ9_max_7cf53_10 : decode cJ9_max_7cf53 10 = .ok (.ireturn, 1) := by decide +kernel
theorem dJ9_min_7cf53_0 : decode cJ9_min_7cf53 0 = .ok (.iload_n 0, 1) := by decide +kernel
theorem dJ9_min_7cf53_1 : decode cJ9_min_7cf53 1 = .ok (.iload_n 1, 1) := by decide +kernel
theorem dJ9_min_7cf53_2 : decode cJ9_min_7cf53 2 = .ok (.if_icmp .gt 7, 3) := by decide +kernel
theorem dJ9_min_7cf53_5 : decode cJ9_min_7cf53 5 = .ok (.iload_n 0, 1) := by decide +kernel
theorem dJ9_min_7cf53_6 : decode cJ9_min_7cf53 6 = .ok (.goto 4, 3) := by decide +kernel
theorem dJ9_min_7cf53_9 : decode cJ9_min_7cf53 9 = .ok (.iload_n 1, 1) := by decide +kernel
theorem dJ9_min_7cf53_10 : decode cJ9_min_7cf53 10 = .ok (.ireturn, 1) := by decide +kernel
abbrev vwCl : List vw_C := [(RX0, TX0, 2), (RX1, TX1, 10), (RX2, TX2, 7), (RX3, TX3, 6), (RX4, TX4, 11), (RX5, TX5, 5), (RX6, TX6, 7), (RX7, TX7, 14)]
