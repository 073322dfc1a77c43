theorem dX7_cancels_34 : decode cX7_cancels 34 = .ok (.ireturn, 1) := by decide +kernel
theorem dX7_stormsAhead_0 : decode cX7_stormsAhead 0 = .ok (.iconst 0, 1) := by decide +kernel
theorem dX7_stormsAhead_1 : decode cX7_stormsAhead 1 = .ok (.istore_n 1, 1) := by decide +kernel
theorem dX7_stormsAhead_2 : decode cX7_stormsAhead 2 = .ok (.aload_n 0, 1) := by decide +kernel
theorem dX7_stormsAhead_3 : decode cX7_stormsAhead 3 = .ok (.getfield 7, 3) := by decide +kernel
theorem dX7_stormsAhead_6 : decode cX7_stormsAhead 6 = .ok (.iconst 0, 1) := by decide +kernel
theorem dX7_stormsAhead_7 : decode cX7_stormsAhead 7 = .ok (.iaload, 1) := by decide +kernel
theorem dX7_stormsAhead_8 : decode cX7_stormsAhead 8 = .ok (.istore_n 2, 1) := by decide +kernel
theorem dX7_stormsAhead_9 : decode cX7_stormsAhead 9 = .ok (.iload_n 2, 1) := by decide +kernel
theorem dX7_stormsAhead_10 : decode cX7_stormsAhead 10 = .ok (.sipush 396, 3) := by decide +kernel
theorem dX7_stormsAhead_13 : decode cX7_stormsAhead 13 = .ok (.if_icmp .ge 22, 3) := by decide +kernel
theorem dX7_stormsAhead_16 : decode cX7_stormsAhead 16 = .ok (.iload_n 1, 1) := by decide +kernel
theorem dX7_stormsAhead_17 : decode cX7_stormsAhead 17 = .ok (.aload_n 0, 1) := by decide +kernel
theorem dX7_stormsAhead_18 : decode cX7_stormsAhead 18 = .ok (.getfield 7, 3) := by decide +kernel
theorem dX7_stormsAhead_21 : decode cX7_stormsAhead 21 = .ok (.sipush 203, 3) := by decide +kernel
theorem dX7_stormsAhead_24 : decode cX7_stormsAhead 24 = .ok (.iload_n 2, 1) := by decide +kernel
theorem dX7_stormsAhead_25 : decode cX7_stormsAhead 25 = .ok (.iadd, 1) := by decide +kernel
theorem dX7_stormsAhead_26 : decode cX7_stormsAhead 26 = .ok (.iaload, 1) := by decide +kernel
theorem dX7_stormsAhead_27 : decode cX7_stormsAhead 27 = .ok (.iadd, 1) := by decide +kernel
theorem dX7_stormsAhead_28 : decode cX7_stormsAhead 28 = .ok (.istore_n 1, 1) := by decide +kernel
theorem dX7_stormsAhead_29 : decode cX7_stormsAhead 29 = .ok (.iinc 2 1, 3) := by decide +kernel
theorem dX7_stormsAhead_32 : decode cX7_stormsAhead 32 = .ok (.goto (-23), 3) := by decide +kernel
theorem dX7_stormsAhead_35 : decode cX7_stormsAhead 35 = .ok (.iload_n 1, 1) := by decide +kernel
theorem dX7_stormsAhead_36 : decode cX7_stormsAhead 36 = .ok (.ireturn, 1) := by decide +kernel
set_option maxRecDepth 20000 in
theorem ggX7_storms_X7_in : GoodIn wsX7_storms wsX7_in := goodIn_r _ [5] (by decide +kernel) (by decide +kernel)
set_option maxRecDepth 20000 in
theorem gX7_storms_X7_in : GoodIn wsX7_storms (va_wsS RX7 50 yX7_in wsX7_in) := goodIn_app (goodIn_of _ (by decide +kernel)) ggX7_storms_X7_in
set_option maxRecDepth 20000 in
theorem ggX7_storms_X7_stormsAhead : GoodIn wsX7_storms wsX7_stormsAhead := goodIn_r _ [9, 1, 10, 11, 12, 13, 14, 15, 16, 17, 18, 19, 20, 21, 22, 23] (by decide +kernel) (by decide +kernel)
set_option maxRecDepth 20000 in
theorem gX7_storms_X7_stormsAhead : GoodIn wsX7_storms (wsV RX7 116 RX7 yX7_stormsAhead wsX7_stormsAhead) := goodIn_app (goodIn_of _ (by decide +kernel)) ggX7_storms_X7_stormsAhead
theorem dX7_storms_0 : decode cX7_storms 0 = .ok (.iload_n 1, 1) := by decide +kernel
theorem dX7_storms_1 : decode cX7_storms 1 = .ok (.aload_n 0, 1) := by decide +kernel
theorem dX7_storms_2 : decode cX7_storms 2 = .ok (.getfield 7, 3) := by decide +kernel
theorem dX7_storms_5 : decode cX7_storms 5 = .ok (.iconst 0, 1) := by decide +kernel
theorem dX7_storms_6 : decode cX7_storms 6 = .ok (.iaload, 1) := by decide +kernel
theorem dX7_storms_7 : decode cX7_storms 7 = .ok (.sipush 365, 3) := by decide +kernel
theorem dX7_storms_10 : decode cX7_storms 10 = .ok (.invokestatic 50, 3) := by decide +kernel
theorem dX7_storms_13 : decode cX7_storms 13 = .ok (.ifCond .eq 13, 3) := by decide +kernel
theorem dX7_storms_16 : decode cX7_storms 16 = .ok (.iload_n 2, 1) := by decide +kernel
theorem dX7_storms_17 : decode cX7_storms 17 = .ok (.iconst 1, 1) := by decide +kernel
theorem dX7_storms_18 : decode cX7_storms 18 = .ok (.bipush 30, 2) := by decide +kernel
theorem dX7_storms_20 : decode cX7_storms 20 = .ok (.invokestatic 50, 3) := by decide +kernel
theorem dX7_storms_23 : decode cX7_storms 23 = .ok (.ifCond .ne 5, 3) := by decide +kernel
theorem dX7_storms_26 : decode cX7_storms 26 = .ok (.iconst (-1), 1) := by decide +kernel
theorem dX7_storms_27 : decode cX7_storms 27 = .ok (.ireturn, 1) := by decide +kernel
theorem dX7_storms_28 : decode cX7_storms 28 = .ok (.iconst 0, 1) := by decide +kernel
theorem dX7_storms_29 : decode cX7_storms 29 = .ok (.istore_n 3, 1) := by decide +kernel
theorem dX7_storms_30 : decode cX7_storms 30 = .ok (.iload_n 3, 1) := by decide +kernel
theorem dX7_storms_31 : decode cX7_storms 31 = .ok (.iload_n 2, 1) := by decide +kernel
theorem dX7_storms_32 : decode cX7_storms 32 = .ok (.if_icmp .ge 22, 3) := by decide +kernel
theorem dX7_storms_35 : decode cX7_storms 35 = .ok (.aload_n 0, 1) := by decide +kernel
theorem dX7_storms_36 : decode cX7_storms 36 = .ok (.getfield 7, 3) := by decide +kernel
theorem dX7_storms_39 : decode cX7_storms 39 = .ok (.sipush 203, 3) := by decide +kernel
theorem dX7_storms_42 : decode cX7_storms 42 = .ok (.iload_n 1, 1) := by decide +kernel
theorem dX7_storms_43 : decode cX7_storms 43 = .ok (.iadd, 1) := by decide +kernel
theorem dX7_storms_44 : decode cX7_storms 44 = .ok (.iload_n 3, 1) := by decide +kernel
theorem dX7_storms_45 : decode cX7_storms 45 = .ok (.iadd, 1) := by decide +kernel
theorem dX7_storms_46 : decode cX7_storms 46 = .ok (.iconst 1, 1) := by decide +kernel
theorem dX7_storms_47 : decode cX7_storms 47 = .ok (.iastore, 1) := by decide +kernel
theorem dX7_storms_48 : decode cX7_storms 48 = .ok (.iinc 3 1, 3) := by decide +kernel
theorem dX7_storms_51 : decode cX7_storms 51 = .ok (.goto (-21), 3) := by decide +kernel
theorem dX7_storms_54 : decode cX7_storms 54 = .ok (.aload_n 0, 1) := by decide +kernel
theorem dX7_storms_55 : decode cX7_storms 55 = .ok (.invokevirtual 116, 3) := by decide +kernel
theorem dX7_storms_58 : decode cX7_storms 58 = .ok (.istore_n 3, 1) := by decide +kernel
theorem dX7_storms_59 : decode cX7_storms 59 = .ok (.iload_n 3, 1) := by decide +kernel
theorem dX7_storms_60 : decode cX7_storms 60 = .ok (.bipush 40, 2) := by decide +kernel
theorem dX7_storms_62 : decode cX7_storms 62 = .ok (.if_icmp .le 8, 3) := by decide +kernel
theorem dX7_storms_65 : decode cX7_storms 65 = .ok (.bipush (-3), 2) := by decide +kernel
theorem dX7_storms_67 : decode cX7_storms 67 = .ok (.goto 4, 3) := by decide +kernel
theorem dX7_storms_70 : decode cX7_storms 70 = .ok (.iload_n 3, 1) := by decide +kernel
theorem dX7_storms_71 : decode cX7_storms 71 = .ok (.ireturn, 1) := by decide +kernel
set_option maxRecDepth 20000 in
theorem ggX7_sleeps_X7_in : GoodIn wsX7_sleeps wsX7_in := goodIn_r _ [5] (by decide +kernel) (by decide +kernel)
set_option maxRecDepth 20000 in
theorem gX7_sleeps_X7_in : GoodIn wsX7_sleeps (va_wsS RX7 50 yX7_in wsX7_in) := goodIn_app (goodIn_of _ (by decide +kernel)) ggX7_sleeps_X7_in
set_option maxRecDepth 20000 in
theorem ggX7_sleeps_X7_night : GoodIn wsX7_sleeps wsX7_night := goodIn_r _ [9, 1, 10, 11, 12, 4, 13, 14, 15, 16, 17, 18, 19, 20, 21, 22, 23, 24, 25, 26, 27, 28, 29, 30, 31, 32, 33, 34, 35, 36, 37, 38, 39, 40, 41, 42, 43, 44, 45, 46, 47, 48, 49, 50, 51, 52, 53, 54, 55, 56, 57, 58, 59, 60, 61, 62, 63, 64, 65, 66, 67, 68, 69, 70, 71, 72, 73, 74, 75, 76, 77, 78, 79] (by decide +kernel) (by decide +kernel)
set_option maxRecDepth 20000 in
theorem gX7_sleeps_X7_night : GoodIn wsX7_sleeps (wsV RX7 100 RX7 yX7_night wsX7_night) := goodIn_app (goodIn_of _ (by decide +kernel)) ggX7_sleeps_X7_night
theorem dX7_sleeps_0 : decode cX7_sleeps 0 = .ok (.iload_n 1, 1) := by decide +kernel
theorem dX7_sleeps_1 : decode cX7_sleeps 1 = .ok (.iconst 1, 1) := by decide +kernel
theorem dX7_sleeps_2 : decode cX7_sleeps 2 = .ok (.bipush 60, 2) := by decide +kernel
theorem dX7_sleeps_4 : decode cX7_sleeps 4 = .ok (.invokestatic 50, 3) := by decide +kernel
theorem dX7_sleeps_7 : decode cX7_sleeps 7 = .ok (.ifCond .ne 5, 3) := by decide +kernel
theorem dX7_sleeps_10 : decode cX7_sleeps 10 = .ok (.iconst (-1), 1) := by decide +kernel
theorem dX7_sleeps_11 : decode cX7_sleeps 11 = .ok (.ireturn, 1) := by decide +kernel
theorem dX7_sleeps_12 : decode cX7_sleeps 12 = .ok (.aload_n 0, 1) := by decide +kernel
theorem dX7_sleeps_13 : decode cX7_sleeps 13 = .ok (.getfield 7, 3) := by decide +kernel
theorem dX7_sleeps_16 : decode cX7_sleeps 16 = .ok (.iconst 0, 1) := by decide +kernel
theorem dX7_sleeps_17 : decode cX7_sleeps 17 = .ok (.iaload, 1) := by decide +kernel
theorem dX7_sleeps_18 : decode cX7_sleeps 18 = .ok (.iload_n 1, 1) := by decide +kernel
theorem dX7_sleeps_19 : decode cX7_sleeps 19 = .ok (.iadd, 1) := by decide +kernel
theorem dX7_sleeps_20 : decode cX7_sleeps 20 = .ok (.sipush 365, 3) := by decide +kernel
theorem dX7_sleeps_23 : decode cX7_sleeps 23 = .ok (.if_icmp .le 6, 3) := by decide +kernel
theorem dX7_sleeps_26 : decode cX7_sleeps 26 = .ok (.bipush (-3), 2) := by decide +kernel
theorem dX7_sleeps_28 : decode cX7_sleeps 28 = .ok (.ireturn, 1) := by decide +kernel
theorem dX7_sleeps_29 : decode cX7_sleeps 29 = .ok (.aload_n 0, 1) := by decide +kernel
theorem dX7_sleeps_30 : decode cX7_sleeps 30 = .ok (.getfield 7, 3) := by decide +kernel
theorem dX7_sleeps_33 : decode cX7_sleeps 33 = .ok (.iconst 5, 1) := by decide +kernel
theorem dX7_sleeps_34 : decode cX7_sleeps 34 = .ok (.iaload, 1) := by decide +kernel
theorem dX7_sleeps_35 : decode cX7_sleeps 35 = .ok (.istore_n 2, 1) := by decide +kernel
theorem dX7_sleeps_36 : decode cX7_sleeps 36 = .ok (.iconst 0, 1) := by decide +kernel
theorem dX7_sleeps_37 : decode cX7_sleeps 37 = .ok (.istore_n 3, 1) := by decide +kernel
theorem dX7_sleeps_38 : decode cX7_sleeps 38 = .ok (.iload_n 3, 1) := by decide +kernel
theorem dX7_sleeps_39 : decode cX7_sleeps 39 = .ok (.iload_n 1, 1) := by decide +kernel
theorem dX7_sleeps_40 : decode cX7_sleeps 40 = .ok (.if_icmp .ge 13, 3) := by decide +kernel
theorem dX7_sleeps_43 : decode cX7_sleeps 43 = .ok (.aload_n 0, 1) := by decide +kernel
theorem dX7_sleeps_44 : decode cX7_sleeps 44 = .ok (.invokevirtual 100, 3) := by decide +kernel
theorem dX7_sleeps_47 : decode cX7_sleeps 47 = .ok (.iinc 3 1, 3) := by decide +kernel
theorem dX7_sleeps_50 : decode cX7_sleeps 50 = .ok (.goto (-12), 3) := by decide +kernel
theorem dX7_sleeps_53 : decode cX7_sleeps 53 = .ok (.aload_n 0, 1) := by decide +kernel
theorem dX7_sleeps_54 : decode cX7_sleeps 54 = .ok (.getfield 7, 3) := by decide +kernel
theorem dX7_sleeps_57 : decode cX7_sleeps 57 = .ok (.iconst 5, 1) := by decide +kernel
theorem dX7_sleeps_58 : decode cX7_sleeps 58 = .ok (.iaload, 1) := by decide +kernel
theorem dX7_sleeps_59 : decode cX7_sleeps 59 = .ok (.iload_n 2, 1) := by decide +kernel
theorem dX7_sleeps_60 : decode cX7_sleeps 60 = .ok (.isub, 1) := by decide +kernel
theorem dX7_sleeps_61 : decode cX7_sleeps 61 = .ok (.ireturn, 1) := by decide +kernel
set_option maxRecDepth 20000 in
theorem ggX7_load_X7_begins : GoodIn wsX7_load wsX7_begins := goodIn_r _ [5, 6, 7, 25, 26, 27, 28, 29, 30, 31, 32, 33, 34, 35, 36, 37, 38] (by decide +kernel) (by decide +kernel)
set_option maxRecDepth 20000 in
theorem gX7_load_X7_begins : GoodIn wsX7_load (wsV RX7 119 RX7 yX7_begins wsX7_begins) := goodIn_app (goodIn_of _ (by decide +kernel)) ggX7_load_X7_begins
set_option maxRecDepth 20000 in
theorem ggX7_load_X7_loads : GoodIn wsX7_load wsX7_loads := goodIn_r _ [11, 7, 12, 13, 4, 14, 25, 26, 27, 28, 29, 30, 31, 32, 33, 34, 35, 36, 37, 38] (by decide +kernel) (by decide +kernel)
set_option maxRecDepth 20000 in
theorem gX7_load_X7_loads : GoodIn wsX7_load (wsV RX7 122 RX7 yX7_loads wsX7_loads) := goodIn_app (goodIn_of _ (by decide +kernel)) ggX7_load_X7_loads
set_option maxRecDepth 20000 in
theorem ggX7_load_X7_acted : GoodIn wsX7_load wsX7_acted := goodIn_r _ [18, 19, 20, 6, 21, 22, 23, 4, 24, 7, 25, 26, 27, 28, 29, 30, 31, 32, 33, 34, 35, 36, 37, 38] (by decide +kernel) (by decide +kernel)
set_option maxRecDepth 20000 in
theorem gX7_load_X7_acted : GoodIn wsX7_load (wsV RX7 126 RX7 yX7_acted wsX7_acted) := goodIn_app (goodIn_of _ (by decide +kernel)) ggX7_load_X7_acted
theorem dX7_load_0 : decode cX7_load 0 = .ok (.aload_n 0, 1) := by decide +kernel
theorem dX7_load_1 : decode cX7_load 1 = .ok (.invokevirtual 119, 3) := by decide +kernel
theorem dX7_load_4 : decode cX7_load 4 = .ok (.aload_n 0, 1) := by decide +kernel
theorem dX7_load_5 : decode cX7_load 5 = .ok (.aload_n 0, 1) := by decide +kernel
theorem dX7_load_6 : decode cX7_load 6 = .ok (.iload_n 1, 1) := by decide +kernel
theorem dX7_load_7 : decode cX7_load 7 = .ok (.iload_n 2, 1) := by decide +kernel
theorem dX7_load_8 : decode cX7_load 8 = .ok (.iload_n 3, 1) := by decide +kernel
theorem dX7_load_9 : decode cX7_load 9 = .ok (.invokevirtual 122, 3) := by decide +kernel
theorem dX7_load_12 : decode cX7_load 12 = .ok (.invokevirtual 126, 3) := by decide +kernel
theorem dX7_load_15 : decode cX7_load 15 = .ok (.ireturn, 1) := by decide +kernel
set_option maxRecDepth 20000 in
theorem ggX7_fly_X7_begins : GoodIn wsX7_fly wsX7_begins := goodIn_r _ [5, 6, 7, 34, 35, 36, 37, 38, 39, 40, 41, 42, 43, 44, 45, 46, 47] (by decide +kernel) (by decide +kernel)
set_option maxRecDepth 20000 in
theorem gX7_fly_X7_begins : GoodIn wsX7_fly (wsV RX7 119 RX7 yX7_begins wsX7_begins) := goodIn_app (goodIn_of _ (by decide +kernel)) ggX7_fly_X7_begins
set_option maxRecDepth 20000 in
theorem ggX7_fly_X7_flies : GoodIn wsX7_fly wsX7_flies := goodIn_r _ [11, 7, 12, 13, 14, 4, 15, 16, 17, 18, 19, 20, 21, 22, 23, 34, 35, 36, 37, 38, 39, 40, 41, 42, 43, 44, 45, 46, 47] (by decide +kernel) (by decide +kernel)
set_option maxRecDepth 20000 in
theorem gX7_fly_X7_flies : GoodIn wsX7_fly (wsV RX7 129 RX7 yX7_flies wsX7_flies) := goodIn_app (goodIn_of _ (by decide +kernel)) ggX7_fly_X7_flies
set_option maxRecDepth 20000 in
theorem ggX7_fly_X7_acted : GoodIn wsX7_fly wsX7_acted := goodIn_r _ [27, 28, 29, 6, 30, 31, 32, 4, 33, 7, 34, 35, 36, 37, 38, 39, 40, 41, 42, 43, 44, 45, 46, 47] (by decide +kernel) (by decide +kernel)
set_option maxRecDepth 20000 in
theorem gX7_fly_X7_acted : GoodIn wsX7_fly (wsV RX7 126 RX7 yX7_acted wsX7_acted) := goodIn_app (goodIn_of _ (by decide +kernel)) ggX7_fly_X7_acted
theorem dX7_fly_0 : decode cX7_fly 0 = .ok (.aload_n 0, 1) := by decide +kernel
theorem dX7_fly_1 : decode cX7_fly 1 = .ok (.invokevirtual 119, 3) := by decide +kernel
theorem dX7_fly_4 : decode cX7_fly 4 = .ok (.aload_n 0, 1) := by decide +kernel
theorem dX7_fly_5 : decode cX7_fly 5 = .ok (.aload_n 0, 1) := by decide +kernel
theorem dX7_fly_6 : decode cX7_fly 6 = .ok (.invokevirtual 129, 3) := by decide +kernel
theorem dX7_fly_9 : decode cX7_fly 9 = .ok (.invokevirtual 126, 3) := by decide +kernel
theorem dX7_fly_12 : decode cX7_fly 12 = .ok (.ireturn, 1) := by decide +kernel
set_option maxRecDepth 20000 in
theorem ggX7_book_X7_begins : GoodIn wsX7_book wsX7_begins := goodIn_r _ [5, 6, 7, 106, 107, 108, 109, 110, 111, 112, 113, 114, 115, 116, 117, 118, 119] (by decide +kernel) (by decide +kernel)
set_option maxRecDepth 20000 in
theorem gX7_book_X7_begins : GoodIn wsX7_book (wsV RX7 119 RX7 yX7_begins wsX7_begins) := goodIn_app (goodIn_of _ (by decide +kernel)) ggX7_book_X7_begins
set_option maxRecDepth 20000 in
theorem ggX7_book_X7_books : GoodIn wsX7_book wsX7_books := goodIn_r _ [11, 7, 12, 13, 4, 14, 15, 16, 17, 18, 19, 20, 21, 22, 23, 24, 25, 26, 27, 28, 29, 30, 31, 32, 33, 34, 35, 36, 37, 38, 39, 40, 41, 42, 43, 44, 45, 46, 47, 48, 49, 50, 51, 52, 53, 54, 55, 56, 57, 58, 59, 60, 61, 62, 63, 64, 65, 66, 67, 68, 69, 70, 71, 72, 73, 74, 75, 76, 77, 78, 79, 80, 81, 82, 83, 84, 85, 86, 87, 88, 89, 90, 91, 92, 93, 94, 95, 106, 107, 108, 109, 110, 111, 112, 113, 114, 115, 116, 117, 118, 119] (by decide +kernel) (by decide +kernel)
set_option maxRecDepth 20000 in
theorem gX7_book_X7_books : GoodIn wsX7_book (wsV RX7 132 RX7 yX7_books wsX7_books) := goodIn_app (goodIn_of _ (by decide +kernel)) ggX7_book_X7_books
set_option maxRecDepth 20000 in
theorem ggX7_book_X7_acted : GoodIn wsX7_book wsX7_acted := goodIn_r _ [99, 100, 101, 6, 102, 103, 104, 4, 105, 7, 106, 107, 108, 109, 110, 111, 112, 113, 114, 115, 116, 117, 118, 119] (by decide +kernel) (by decide +kernel)
set_option maxRecDepth 20000 in
theorem gX7_book_X7_acted : GoodIn wsX7_book (wsV RX7 126 RX7 yX7_acted wsX7_acted) := goodIn_app (goodIn_of _ (by decide +kernel)) ggX7_book_X7_acted
theorem dX7_book_0 : decode cX7_book 0 = .ok (.aload_n 0, 1) := by decide +kernel
theorem dX7_book_1 : decode cX7_book 1 = .ok (.invokevirtual 119, 3) := by decide +kernel
theorem dX7_book_4 : decode cX7_book 4 = .ok (.aload_n 0, 1) := by decide +kernel
theorem dX7_book_5 : decode cX7_book 5 = .ok (.aload_n 0, 1) := by decide +kernel
theorem dX7_book_6 : decode cX7_book 6 = .ok (.iload_n 1, 1) := by decide +kernel
theorem dX7_book_7 : decode cX7_book 7 = .ok (.iload_n 2, 1) := by decide +kernel
theorem dX7_book_8 : decode cX7_book 8 = .ok (.iload_n 3, 1) := by decide +kernel
theorem dX7_book_9 : decode cX7_book 9 = .ok (.invokevirtual 132, 3) := by decide +kernel
theorem dX7_book_12 : decode cX7_book 12 = .ok (.invokevirtual 126, 3) := by decide +kernel
theorem dX7_book_15 : decode cX7_book 15 = .ok (.ireturn, 1) := by decide +kernel
set_option maxRecDepth 20000 in
theorem ggX7_cancel_X7_begins : GoodIn wsX7_cancel wsX7_begins := goodIn_r _ [5, 6, 7, 41, 42, 43, 44, 45, 46, 47, 48, 49, 50, 51, 52, 53, 54] (by decide +kernel) (by decide +kernel)
set_option maxRecDepth 20000 in
theorem gX7_cancel_X7_begins : GoodIn wsX7_cancel (wsV RX7 119 RX7 yX7_begins wsX7_begins) := goodIn_app (goodIn_of _ (by decide +kernel)) ggX7_cancel_X7_begins
set_option maxRecDepth 20000 in
theorem ggX7_cancel_X7_cancels : GoodIn wsX7_cancel wsX7_cancels := goodIn_r _ [11, 12, 13, 14, 4, 15, 7, 16, 17, 18, 19, 20, 21, 22, 23, 24, 25, 26, 27, 28, 29, 30, 41, 42, 43, 44, 45, 46, 47, 48, 49, 50, 51, 52, 53, 54] (by decide +kernel) (by decide +kernel)
set_option maxRecDepth 20000 in
theorem gX7_cancel_X7_cancels : GoodIn wsX7_cancel (wsV RX7 135 RX7 yX7_cancels wsX7_cancels) := goodIn_app (goodIn_of _ (by decide +kernel)) ggX7_cancel_X7_cancels
set_option maxRecDepth 20000 in
theorem ggX7_cancel_X7_acted : GoodIn wsX7_cancel wsX7_acted := goodIn_r _ [34, 35, 36, 6, 37, 38, 39, 4, 40, 7, 41, 42, 43, 44, 45, 46, 47, 48, 49, 50, 51, 52, 53, 54] (by decide +kernel) (by decide +kernel)
set_option maxRecDepth 20000 in
theorem gX7_cancel_X7_acted : GoodIn wsX7_cancel (wsV RX7 126 RX7 yX7_acted wsX7_acted) := goodIn_app (goodIn_of _ (by decide +kernel)) ggX7_cancel_X7_acted
theorem dX7_cancel_0 : decode cX7_cancel 0 = .ok (.aload_n 0, 1) := by decide +kernel
theorem dX7_cancel_1 : decode cX7_cancel 1 = .ok (.invokevirtual 119, 3) := by decide +kernel
theorem dX7_cancel_4 : decode cX7_cancel 4 = .ok (.aload_n 0, 1) := by decide +kernel
theorem dX7_cancel_5 : decode cX7_cancel 5 = .ok (.aload_n 0, 1) := by decide +kernel
theorem dX7_cancel_6 : decode cX7_cancel 6 = .ok (.iload_n 1, 1) := by decide +kernel
theorem dX7_cancel_7 : decode cX7_cancel 7 = .ok (.invokevirtual 135, 3) := by decide +kernel
theorem dX7_cancel_10 : decode cX7_cancel 10 = .ok (.invokevirtual 126, 3) := by decide +kernel
theorem dX7_cancel_13 : decode cX7_cancel 13 = .ok (.ireturn, 1) := by decide +kernel
set_option maxRecDepth 20000 in
theorem ggX7_storm_X7_begins : GoodIn wsX7_storm wsX7_begins := goodIn_r _ [5, 6, 7, 29, 30, 31, 32, 33, 34, 35, 36, 37, 38, 39, 40, 41, 42] (by decide +kernel) (by decide +kernel)
set_option maxRecDepth 20000 in
theorem gX7_storm_X7_begins : GoodIn wsX7_storm (wsV RX7 119 RX7 yX7_begins wsX7_begins) := goodIn_app (goodIn_of _ (by decide +kernel)) ggX7_storm_X7_begins
set_option maxRecDepth 20000 in
theorem ggX7_storm_X7_storms : GoodIn wsX7_storm wsX7_storms := goodIn_r _ [11, 7, 12, 13, 4, 14, 15, 16, 17, 18, 29, 30, 31, 32, 33, 34, 35, 36, 37, 38, 39, 40, 41, 42] (by decide +kernel) (by decide +kernel)
set_option maxRecDepth 20000 in
theorem gX7_storm_X7_storms : GoodIn wsX7_storm (wsV RX7 138 RX7 yX7_storms wsX7_storms) := goodIn_app (goodIn_of _ (by decide +kernel)) ggX7_storm_X7_storms
set_option maxRecDepth 20000 in
theorem ggX7_storm_X7_acted : GoodIn wsX7_storm wsX7_acted := goodIn_r _ [22, 23, 24, 6, 25, 26, 27, 4, 28, 7, 29, 30, 31, 32, 33, 34, 35, 36, 37, 38, 39, 40, 41, 42] (by decide +kernel) (by decide +kernel)
set_option maxRecDepth 20000 in
theorem gX7_storm_X7_acted : GoodIn wsX7_storm (wsV RX7 126 RX7 yX7_acted wsX7_acted) := goodIn_app (goodIn_of _ (by decide +kernel)) ggX7_storm_X7_acted
theorem dX7_storm_0 : decode cX7_storm 0 = .ok (.aload_n 0, 1) := by decide +kernel
theorem dX7_storm_1 : decode cX7_storm 1 = .ok (.invokevirtual 119, 3) := by decide +kernel
theorem dX7_storm_4 : decode cX7_storm 4 = .ok (.aload_n 0, 1) := by decide +kernel
theorem dX7_storm_5 : decode cX7_storm 5 = .ok (.aload_n 0, 1) := by decide +kernel
theorem dX7_storm_6 : decode cX7_storm 6 = .ok (.iload_n 1, 1) := by decide +kernel
theorem dX7_storm_7 : decode cX7_storm 7 = .ok (.iload_n 2, 1) := by decide +kernel
theorem dX7_storm_8 : decode cX7_storm 8 = .ok (.invokevirtual 138, 3) := by decide +kernel
theorem dX7_storm_11 : decode cX7_storm 11 = .ok (.invokevirtual 126, 3) := by decide +kernel
theorem dX7_storm_14 : decode cX7_storm 14 = .ok (.ireturn, 1) := by decide +kernel
set_option maxRecDepth 20000 in
theorem ggX7_clear_X7_begins : GoodIn wsX7_clear wsX7_begins := goodIn_r _ [6, 7, 1, 21, 22, 23, 24, 25, 26, 27, 28, 29, 30, 31, 32, 33, 34] (by decide +kernel) (by decide +kernel)
set_option maxRecDepth 20000 in
theorem gX7_clear_X7_begins : GoodIn wsX7_clear (wsV RX7 119 RX7 yX7_begins wsX7_begins) := goodIn_app (goodIn_of _ (by decide +kernel)) ggX7_clear_X7_begins
set_option maxRecDepth 20000 in
theorem ggX7_clear_X7_in : GoodIn wsX7_clear wsX7_in := goodIn_r _ [10] (by decide +kernel) (by decide +kernel)
set_option maxRecDepth 20000 in
theorem gX7_clear_X7_in : GoodIn wsX7_clear (va_wsS RX7 50 yX7_in wsX7_in) := goodIn_app (goodIn_of _ (by decide +kernel)) ggX7_clear_X7_in
set_option maxRecDepth 20000 in
theorem ggX7_clear_X7_acted : GoodIn wsX7_clear wsX7_acted := goodIn_r _ [14, 15, 16, 7, 17, 18, 19, 5, 20, 1, 21, 22, 23, 24, 25, 26, 27, 28, 29, 30, 31, 32, 33, 34] (by decide +kernel) (by decide +kernel)
set_option maxRecDepth 20000 in
theorem gX7_clear_X7_acted : GoodIn wsX7_clear (wsV RX7 126 RX7 yX7_acted wsX7_acted) := goodIn_app (goodIn_of _ (by decide +kernel)) ggX7_clear_X7_acted
theorem dX7_clear_0 : decode cX7_clear 0 = .ok (.aload_n 0, 1) := by decide +kernel
theorem dX7_clear_1 : decode cX7_clear 1 = .ok (.invokevirtual 119, 3) := by decide +kernel
theorem dX7_clear_4 : decode cX7_clear 4 = .ok (.iload_n 1, 1) := by decide +kernel
theorem dX7_clear_5 : decode cX7_clear 5 = .ok (.aload_n 0, 1) := by decide +kernel
theorem dX7_clear_6 : decode cX7_clear 6 = .ok (.getfield 7, 3) := by decide +kernel
theorem dX7_clear_9 : decode cX7_clear 9 = .ok (.iconst 0, 1) := by decide +kernel
theorem dX7_clear_10 : decode cX7_clear 10 = .ok (.iaload, 1) := by decide +kernel
theorem dX7_clear_11 : decode cX7_clear 11 = .ok (.sipush 395, 3) := by decide +kernel
theorem dX7_clear_14 : decode cX7_clear 14 = .ok (.invokestatic 50, 3) := by decide +kernel
theorem dX7_clear_17 : decode cX7_clear 17 = .ok (.ifCond .ne 5, 3) := by decide +kernel
theorem dX7_clear_20 : decode cX7_clear 20 = .ok (.iconst (-1), 1) := by decide +kernel
theorem dX7_clear_21 : decode cX7_clear 21 = .ok (.ireturn, 1) := by decide +kernel
theorem dX7_clear_22 : decode cX7_clear 22 = .ok (.aload_n 0, 1) := by decide +kernel
theorem dX7_clear_23 : decode cX7_clear 23 = .ok (.getfield 7, 3) := by decide +kernel
theorem dX7_clear_26 : decode cX7_clear 26 = .ok (.sipush 203, 3) := by decide +kernel
theorem dX7_clear_29 : decode cX7_clear 29 = .ok (.iload_n 1, 1) := by decide +kernel
theorem dX7_clear_30 : decode cX7_clear 30 = .ok (.iadd, 1) := by decide +kernel
theorem dX7_clear_31 : decode cX7_clear 31 = .ok (.iaload, 1) := by decide +kernel
theorem dX7_clear_32 : decode cX7_clear 32 = .ok (.istore_n 2, 1) := by decide +kernel
theorem dX7_clear_33 : decode cX7_clear 33 = .ok (.aload_n 0, 1) := by decide +kernel
theorem dX7_clear_34 : decode cX7_clear 34 = .ok (.getfield 7, 3) := by decide +kernel
theorem dX7_clear_37 : decode cX7_clear 37 = .ok (.sipush 203, 3) := by decide +kernel
theorem dX7_clear_40 : decode cX7_clear 40 = .ok (.iload_n 1, 1) := by decide +kernel
theorem dX7_clear_41 : decode cX7_clear 41 = .ok (.iadd, 1) := by decide +kernel
theorem dX7_clear_42 : decode cX7_clear 42 = .ok (.iconst 0, 1) := by decide +kernel
theorem dX7_clear_43 : decode cX7_clear 43 = .ok (.iastore, 1) := by decide +kernel
theorem dX7_clear_44 : decode cX7_clear 44 = .ok (.aload_n 0, 1) := by decide +kernel
theorem dX7_clear_45 : decode cX7_clear 45 = .ok (.iload_n 2, 1) := by decide +kernel
theorem dX7_clear_46 : decode cX7_clear 46 = .ok (.invokevirtual 126, 3) := by decide +kernel
theorem dX7_clear_49 : decode cX7_clear 49 = .ok (.ireturn, 1) := by decide +kernel
set_option maxRecDepth 20000 in
theorem ggX7_sleep_X7_begins : GoodIn wsX7_sleep wsX7_begins := goodIn_r _ [5, 6, 7, 85, 86, 87, 88, 89, 90, 91, 92, 93, 94, 95, 96, 97, 98] (by decide +kernel) (by decide +kernel)
set_option maxRecDepth 20000 in
theorem gX7_sleep_X7_begins : GoodIn wsX7_sleep (wsV RX7 119 RX7 yX7_begins wsX7_begins) := goodIn_app (goodIn_of _ (by decide +kernel)) ggX7_sleep_X7_begins
set_option maxRecDepth 20000 in
theorem ggX7_sleep_X7_sleeps : GoodIn wsX7_sleep wsX7_sleeps := goodIn_r _ [11, 7, 12, 13, 4, 14, 15, 16, 17, 18, 19, 20, 21, 22, 23, 24, 25, 26, 27, 28, 29, 30, 31, 32, 33, 34, 35, 36, 37, 38, 39, 40, 41, 42, 43, 44, 45, 46, 47, 48, 49, 50, 51, 52, 53, 54, 55, 56, 57, 58, 59, 60, 61, 62, 63, 64, 65, 66, 67, 68, 69, 70, 71, 72, 73, 74, 85, 86, 87, 88, 89, 90, 91, 92, 93, 94, 95, 96, 97, 98] (by decide +kernel) (by decide +kernel)
set_option maxRecDepth 20000 in
theorem gX7_sleep_X7_sleeps : GoodIn wsX7_sleep (wsV RX7 141 RX7 yX7_sleeps wsX7_sleeps) := goodIn_app (goodIn_of _ (by decide +kernel)) ggX7_sleep_X7_sleeps
set_option maxRecDepth 20000 in
theorem ggX7_sleep_X7_acted : GoodIn wsX7_sleep wsX7_acted := goodIn_r _ [78, 79, 80, 6, 81, 82, 83, 4, 84, 7, 85, 86, 87, 88, 89, 90, 91, 92, 93, 94, 95, 96, 97, 98] (by decide +kernel) (by decide +kernel)
set_option maxRecDepth 20000 in
theorem gX7_sleep_X7_acted : GoodIn wsX7_sleep (wsV RX7 126 RX7 yX7_acted wsX7_acted) := goodIn_app (goodIn_of _ (by decide +kernel)) ggX7_sleep_X7_acted
theorem dX7_sleep_0 : decode cX7_sleep 0 = .ok (.aload_n 0, 1) := by decide +kernel
theorem dX7_sleep_1 : decode cX7_sleep 1 = .ok (.invokevirtual 119, 3) := by decide +kernel
theorem dX7_sleep_4 : decode cX7_sleep 4 = .ok (.aload_n 0, 1) := by decide +kernel
theorem dX7_sleep_5 : decode cX7_sleep 5 = .ok (.aload_n 0, 1) := by decide +kernel
theorem dX7_sleep_6 : decode cX7_sleep 6 = .ok (.iload_n 1, 1) := by decide +kernel
theorem dX7_sleep_7 : decode cX7_sleep 7 = .ok (.invokevirtual 141, 3) := by decide +kernel
theorem dX7_sleep_10 : decode cX7_sleep 10 = .ok (.invokevirtual 126, 3) := by decide +kernel
theorem dX7_sleep_13 : decode cX7_sleep 13 = .ok (.ireturn, 1) := by decide +kernel
set_option maxRecDepth 20000 in
theorem ggX7_isSetting_X7_in : GoodIn wsX7_isSetting wsX7_in := goodIn_r _ [4] (by decide +kernel) (by decide +kernel)
set_option maxRecDepth 20000 in
theorem gX7_isSetting_X7_in : GoodIn wsX7_isSetting (va_wsS RX7 50 yX7_in wsX7_in) := goodIn_app (goodIn_of _ (by decide +kernel)) ggX7_isSetting_X7_in
theorem dX7_isSetting_0 : decode cX7_isSetting 0 = .ok (.iload_n 0, 1) := by decide +kernel
theorem dX7_isSetting_1 : decode cX7_isSetting 1 = .ok (.lookupswitch 42 #[(0, 27), (1, 35)], 27) := by decide +kernel
theorem dX7_isSetting_28 : decode cX7_isSetting 28 = .ok (.iload_n 1, 1) := by decide +kernel
theorem dX7_isSetting_29 : decode cX7_isSetting 29 = .ok (.iconst 1, 1) := by decide +kernel
theorem dX7_isSetting_30 : decode cX7_isSetting 30 = .ok (.bipush 40, 2) := by decide +kernel
theorem dX7_isSetting_32 : decode cX7_isSetting 32 = .ok (.invokestatic 50, 3) := by decide +kernel
theorem dX7_isSetting_35 : decode cX7_isSetting 35 = .ok (.ireturn, 1) := by decide +kernel
theorem dX7_isSetting_36 : decode cX7_isSetting 36 = .ok (.iload_n 1, 1) := by decide +kernel
theorem dX7_isSetting_37 : decode cX7_isSetting 37 = .ok (.iconst 1, 1) := by decide +kernel
theorem dX7_isSetting_38 : decode cX7_isSetting 38 = .ok (.iconst 3, 1) := by decide +kernel
theorem dX7_isSetting_39 : decode cX7_isSetting 39 = .ok (.invokestatic 50, 3) := by decide +kernel
theorem dX7_isSetting_42 : decode cX7_isSetting 42 = .ok (.ireturn, 1) := by decide +kernel
theorem dX7_isSetting_43 : decode cX7_isSetting 43 = .ok (.iload_n 0, 1) := by decide +kernel
theorem dX7_isSetting_44 : decode cX7_isSetting 44 = .ok (.iconst 2, 1) := by decide +kernel
theorem dX7_isSetting_45 : decode cX7_isSetting 45 = .ok (.iconst 3, 1) := by decide +kernel
theorem dX7_isSetting_46 : decode cX7_isSetting 46 = .ok (.invokestatic 50, 3) := by decide +kernel
theorem dX7_isSetting_49 : decode cX7_isSetting 49 = .ok (.ifCond .eq 17, 3) := by decide +kernel
theorem dX7_isSetting_52 : decode cX7_isSetting 52 = .ok (.iload_n 1, 1) := by decide +kernel
theorem dX7_isSetting_53 : decode cX7_isSetting 53 = .ok (.iconst 0, 1) := by decide +kernel
theorem dX7_isSetting_54 : decode cX7_isSetting 54 = .ok (.bipush 9, 2) := by decide +kernel
theorem dX7_isSetting_56 : decode cX7_isSetting 56 = .ok (.invokestatic 50, 3) := by decide +kernel
theorem dX7_isSetting_59 : decode cX7_isSetting 59 = .ok (.ifCond .eq 7, 3) := by decide +kernel
theorem dX7_isSetting_62 : decode cX7_isSetting 62 = .ok (.iconst 1, 1) := by decide +kernel
theorem dX7_isSetting_63 : decode cX7_isSetting 63 = .ok (.goto 4, 3) := by decide +kernel
theorem dX7_isSetting_66 : decode cX7_isSetting 66 = .ok (.iconst 0, 1) := by decide +kernel
theorem dX7_isSetting_67 : decode cX7_isSetting 67 = .ok (.ireturn, 1) := by decide +kernel
set_option maxRecDepth 20000 in
theorem ggX7_set_X7_begins : GoodIn wsX7_set wsX7_begins := goodIn_r _ [6, 7, 1, 24, 25, 26, 27, 28, 29, 30, 31, 32, 33, 34, 35, 36, 37] (by decide +kernel) (by decide +kernel)
set_option maxRecDepth 20000 in
theorem gX7_set_X7_begins : GoodIn wsX7_set (wsV RX7 119 RX7 yX7_begins wsX7_begins) := goodIn_app (goodIn_of _ (by decide +kernel)) ggX7_set_X7_begins
set_option maxRecDepth 20000 in
theorem ggX7_set_X7_isSetting : GoodIn wsX7_set wsX7_isSetting := goodIn_r _ [10, 11, 12, 5, 13] (by decide +kernel) (by decide +kernel)
set_option maxRecDepth 20000 in
theorem gX7_set_X7_isSetting : GoodIn wsX7_set (va_wsS RX7 144 yX7_isSetting wsX7_isSetting) := goodIn_app (goodIn_of _ (by decide +kernel)) ggX7_set_X7_isSetting
set_option maxRecDepth 20000 in
theorem ggX7_set_X7_acted : GoodIn wsX7_set wsX7_acted := goodIn_r _ [17, 18, 19, 7, 20, 21, 22, 5, 23, 1, 24, 25, 26, 27, 28, 29, 30, 31, 32, 33, 34, 35, 36, 37] (by decide +kernel) (by decide +kernel)
set_option maxRecDepth 20000 in
theorem gX7_set_X7_acted : GoodIn wsX7_set (wsV RX7 126 RX7 yX7_acted wsX7_acted) := goodIn_app (goodIn_of _ (by decide +kernel)) ggX7_set_X7_acted
theorem dX7_set_0 : decode cX7_set 0 = .ok (.aload_n 0, 1) := by decide +kernel
theorem dX7_set_1 : decode cX7_set 1 = .ok (.invokevirtual 119, 3) := by decide +kernel
theorem dX7_set_4 : decode cX7_set 4 = .ok (.iload_n 1, 1) := by decide +kernel
theorem dX7_set_5 : decode cX7_set 5 = .ok (.iload_n 2, 1) := by decide +kernel
theorem dX7_set_6 : decode cX7_set 6 = .ok (.invokestatic 144, 3) := by decide +kernel
theorem dX7_set_9 : decode cX7_set 9 = .ok (.ifCond .ne 5, 3) := by decide +kernel
theorem dX7_set_12 : decode cX7_set 12 = .ok (.iconst (-1), 1) := by decide +kernel
theorem dX7_set_13 : decode cX7_set 13 = .ok (.ireturn, 1) := by decide +kernel
theorem dX7_set_14 : decode cX7_set 14 = .ok (.aload_n 0, 1) := by decide +kernel
theorem dX7_set_15 : decode cX7_set 15 = .ok (.getfield 7, 3) := by decide +kernel
theorem dX7_set_18 : decode cX7_set 18 = .ok (.bipush 10, 2) := by decide +kernel
theorem dX7_set_20 : decode cX7_set 20 = .ok (.iload_n 1, 1) := by decide +kernel
theorem dX7_set_21 : decode cX7_set 21 = .ok (.iadd, 1) := by decide +kernel
theorem dX7_set_22 : decode cX7_set 22 = .ok (.iaload, 1) := by decide +kernel
theorem dX7_set_23 : decode cX7_set 23 = .ok (.istore_n 3, 1) := by decide +kernel
theorem dX7_set_24 : decode cX7_set 24 = .ok (.aload_n 0, 1) := by decide +kernel
theorem dX7_set_25 : decode cX7_set 25 = .ok (.getfield 7, 3) := by decide +kernel
theorem dX7_set_28 : decode cX7_set 28 = .ok (.bipush 10, 2) := by decide +kernel
theorem dX7_set_30 : decode cX7_set 30 = .ok (.iload_n 1, 1) := by decide +kernel
theorem dX7_set_31 : decode cX7_set 31 = .ok (.iadd, 1) := by decide +kernel
theorem dX7_set_32 : decode cX7_set 32 = .ok (.iload_n 2, 1) := by decide +kernel
theorem dX7_set_33 : decode cX7_set 33 = .ok (.iastore, 1) := by decide +kernel
theorem dX7_set_34 : decode cX7_set 34 = .ok (.aload_n 0, 1) := by decide +kernel
theorem dX7_set_35 : decode cX7_set 35 = .ok (.iload_n 3, 1) := by decide +kernel
theorem dX7_set_36 : decode cX7_set 36 = .ok (.invokevirtual 126, 3) := by decide +kernel
theorem dX7_set_39 : decode cX7_set 39 = .ok (.ireturn, 1) := by decide +kernel
set_option maxRecDepth 20000 in
theorem ggX7_lotOf_X7_in : GoodIn wsX7_lotOf wsX7_in := goodIn_r _ [5] (by decide +kernel) (by decide +kernel)
set_option maxRecDepth 20000 in
theorem gX7_lotOf_X7_in : GoodIn wsX7_lotOf (va_wsS RX7 50 yX7_in wsX7_in) := goodIn_app (goodIn_of _ (by decide +kernel)) ggX7_lotOf_X7_in
set_option maxRecDepth 20000 in
theorem ggX7_lotOf_X7_ofLot : GoodIn wsX7_lotOf wsX7_ofLot := goodIn_r _ [9, 1, 10, 11, 12, 13, 14, 15, 16, 17, 18, 19, 20, 21, 22, 23] (by decide +kernel) (by decide +kernel)
set_option maxRecDepth 20000 in
theorem gX7_lotOf_X7_ofLot : GoodIn wsX7_lotOf (wsV RX7 38 RX7 yX7_ofLot wsX7_ofLot) := goodIn_app (goodIn_of _ (by decide +kernel)) ggX7_lotOf_X7_ofLot
theorem dX7_lotOf_0 : decode cX7_lotOf 0 = .ok (.iload_n 1, 1) := by decide +kernel
theorem dX7_lotOf_1 : decode cX7_lotOf 1 = .ok (.iconst 0, 1) := by decide +kernel
theorem dX7_lotOf_2 : decode cX7_lotOf 2 = .ok (.iconst 2, 1) := by decide +kernel
theorem dX7_lotOf_3 : decode cX7_lotOf 3 = .ok (.invokestatic 50, 3) := by decide +kernel
theorem dX7_lotOf_6 : decode cX7_lotOf 6 = .ok (.ifCond .eq 16, 3) := by decide +kernel
theorem dX7_lotOf_9 : decode cX7_lotOf 9 = .ok (.iload_n 2, 1) := by decide +kernel
theorem dX7_lotOf_10 : decode cX7_lotOf 10 = .ok (.ifCond .lt 12, 3) := by decide +kernel
theorem dX7_lotOf_13 : decode cX7_lotOf 13 = .ok (.iload_n 3, 1) := by decide +kernel
theorem dX7_lotOf_14 : decode cX7_lotOf 14 = .ok (.iconst 0, 1) := by decide +kernel
theorem dX7_lotOf_15 : decode cX7_lotOf 15 = .ok (.iconst 1, 1) := by decide +kernel
theorem dX7_lotOf_16 : decode cX7_lotOf 16 = .ok (.invokestatic 50, 3) := by decide +kernel
theorem dX7_lotOf_19 : decode cX7_lotOf 19 = .ok (.ifCond .ne 5, 3) := by decide +kernel
theorem dX7_lotOf_22 : decode cX7_lotOf 22 = .ok (.iconst (-1), 1) := by decide +kernel
theorem dX7_lotOf_23 : decode cX7_lotOf 23 = .ok (.ireturn, 1) := by decide +kernel
theorem dX7_lotOf_24 : decode cX7_lotOf 24 = .ok (.iload_n 2, 1) := by decide +kernel
theorem dX7_lotOf_25 : decode cX7_lotOf 25 = .ok (.istore 4, 2) := by decide +kernel
theorem dX7_lotOf_27 : decode cX7_lotOf 27 = .ok (.iconst 0, 1) := by decide +kernel
theorem dX7_lotOf_28 : decode cX7_lotOf 28 = .ok (.istore 5, 2) := by decide +kernel
theorem dX7_lotOf_30 : decode cX7_lotOf 30 = .ok (.iload 5, 2) := by decide +kernel
theorem dX7_lotOf_32 : decode cX7_lotOf 32 = .ok (.aload_n 0, 1) := by decide +kernel
theorem dX7_lotOf_33 : decode cX7_lotOf 33 = .ok (.getfield 7, 3) := by decide +kernel
theorem dX7_lotOf_36 : decode cX7_lotOf 36 = .ok (.iconst 2, 1) := by decide +kernel
theorem dX7_lotOf_37 : decode cX7_lotOf 37 = .ok (.iaload, 1) := by decide +kernel
theorem dX7_lotOf_38 : decode cX7_lotOf 38 = .ok (.if_icmp .ge 62, 3) := by decide +kernel
theorem dX7_lotOf_41 : decode cX7_lotOf 41 = .ok (.aload_n 0, 1) := by decide +kernel
theorem dX7_lotOf_42 : decode cX7_lotOf 42 = .ok (.iload 5, 2) := by decide +kernel
theorem dX7_lotOf_44 : decode cX7_lotOf 44 = .ok (.iconst 0, 1) := by decide +kernel
theorem dX7_lotOf_45 : decode cX7_lotOf 45 = .ok (.invokevirtual 38, 3) := by decide +kernel
theorem dX7_lotOf_48 : decode cX7_lotOf 48 = .ok (.iload_n 1, 1) := by decide +kernel
theorem dX7_lotOf_49 : decode cX7_lotOf 49 = .ok (.if_icmp .ne 7, 3) := by decide +kernel
theorem dX7_lotOf_52 : decode cX7_lotOf 52 = .ok (.iconst 1, 1) := by decide +kernel
theorem dX7_lotOf_53 : decode cX7_lotOf 53 = .ok (.goto 4, 3) := by decide +kernel
theorem dX7_lotOf_56 : decode cX7_lotOf 56 = .ok (.iconst 0, 1) := by decide +kernel
theorem dX7_lotOf_57 : decode cX7_lotOf 57 = .ok (.istore 6, 2) := by decide +kernel
theorem dX7_lotOf_59 : decode cX7_lotOf 59 = .ok (.iload 6, 2) := by decide +kernel
theorem dX7_lotOf_61 : decode cX7_lotOf 61 = .ok (.ifCond .eq 18, 3) := by decide +kernel
theorem dX7_lotOf_64 : decode cX7_lotOf 64 = .ok (.iload 4, 2) := by decide +kernel
theorem dX7_lotOf_66 : decode cX7_lotOf 66 = .ok (.ifCond .ne 13, 3) := by decide +kernel
theorem dX7_lotOf_69 : decode cX7_lotOf 69 = .ok (.aload_n 0, 1) := by decide +kernel
theorem dX7_lotOf_70 : decode cX7_lotOf 70 = .ok (.iload 5, 2) := by decide +kernel
theorem dX7_lotOf_72 : decode cX7_lotOf 72 = .ok (.iload_n 3, 1) := by decide +kernel
theorem dX7_lotOf_73 : decode cX7_lotOf 73 = .ok (.iconst 1, 1) := by decide +kernel
theorem dX7_lotOf_74 : decode cX7_lotOf 74 = .ok (.iadd, 1) := by decide +kernel
theorem dX7_lotOf_75 : decode cX7_lotOf 75 = .ok (.invokevirtual 38, 3) := by decide +kernel
theorem dX7_lotOf_78 : decode cX7_lotOf 78 = .ok (.ireturn, 1) := by decide +kernel
theorem dX7_lotOf_79 : decode cX7_lotOf 79 = .ok (.iload 4, 2) := by decide +kernel
theorem dX7_lotOf_81 : decode cX7_lotOf 81 = .ok (.iload 6, 2) := by decide +kernel
theorem dX7_lotOf_83 : decode cX7_lotOf 83 = .ok (.ifCond .eq 7, 3) := by decide +kernel
theorem dX7_lotOf_86 : decode cX7_lotOf 86 = .ok (.iconst 1, 1) := by decide +kernel
theorem dX7_lotOf_87 : decode cX7_lotOf 87 = .ok (.goto 4, 3) := by decide +kernel
theorem dX7_lotOf_90 : decode cX7_lotOf 90 = .ok (.iconst 0, 1) := by decide +kernel
theorem dX7_lotOf_91 : decode cX7_lotOf 91 = .ok (.isub, 1) := by decide +kernel
theorem dX7_lotOf_92 : decode cX7_lotOf 92 = .ok (.istore 4, 2) := by decide +kernel
theorem dX7_lotOf_94 : decode cX7_lotOf 94 = .ok (.iinc 5 1, 3) := by decide +kernel
theorem dX7_lotOf_97 : decode cX7_lotOf 97 = .ok (.goto (-67), 3) := by decide +kernel
theorem dX7_lotOf_100 : decode cX7_lotOf 100 = .ok (.bipush (-4), 2) := by decide +kernel
theorem dX7_lotOf_102 : decode cX7_lotOf 102 = .ok (.ireturn, 1) := by decide +kernel
set_option maxRecDepth 20000 in
theorem ggX7_lotsOf_X7_ofLot : GoodIn wsX7_lotsOf wsX7_ofLot := goodIn_r _ [6, 1, 7, 8, 9, 10, 11, 12, 13, 14, 15, 16, 17, 18, 19, 20] (by decide +kernel) (by decide +kernel)
set_option maxRecDepth 20000 in
theorem gX7_lotsOf_X7_ofLot : GoodIn wsX7_lotsOf (wsV RX7 38 RX7 yX7_ofLot wsX7_ofLot) := goodIn_app (goodIn_of _ (by decide +kernel)) ggX7_lotsOf_X7_ofLot
theorem dX7_lotsOf_0 : decode cX7_lotsOf 0 = .ok (.iconst 0, 1) := by decide +kernel
theorem dX7_lotsOf_1 : decode cX7_lotsOf 1 = .ok (.istore_n 2, 1) := by decide +kernel
theorem dX7_lotsOf_2 : decode cX7_lotsOf 2 = .ok (.iconst 0, 1) := by decide +kernel
theorem dX7_lotsOf_3 : decode cX7_lotsOf 3 = .ok (.istore_n 3, 1) := by decide +kernel
theorem dX7_lotsOf_4 : decode cX7_lotsOf 4 = .ok (.iload_n 3, 1) := by decide +kernel
theorem dX7_lotsOf_5 : decode cX7_lotsOf 5 = .ok (.aload_n 0, 1) := by decide +kernel
theorem dX7_lotsOf_6 : decode cX7_lotsOf 6 = .ok (.getfield 7, 3) := by decide +kernel
theorem dX7_lotsOf_9 : decode cX7_lotsOf 9 = .ok (.iconst 2, 1) := by decide +kernel
theorem dX7_lotsOf_10 : decode cX7_lotsOf 10 = .ok (.iaload, 1) := by decide +kernel
theorem dX7_lotsOf_11 : decode cX7_lotsOf 11 = .ok (.if_icmp .ge 27, 3) := by decide +kernel
theorem dX7_lotsOf_14 : decode cX7_lotsOf 14 = .ok (.iload_n 2, 1) := by decide +kernel
theorem dX7_lotsOf_15 : decode cX7_lotsOf 15 = .ok (.aload_n 0, 1) := by decide +kernel
theorem dX7_lotsOf_16 : decode cX7_lotsOf 16 = .ok (.iload_n 3, 1) := by decide +kernel
theorem dX7_lotsOf_17 : decode cX7_lotsOf 17 = .ok (.iconst 0, 1) := by decide +kernel
theorem dX7_lotsOf_18 : decode cX7_lotsOf 18 = .ok (.invokevirtual 38, 3) := by decide +kernel
theorem dX7_lotsOf_21 : decode cX7_lotsOf 21 = .ok (.iload_n 1, 1) := by decide +kernel
theorem dX7_lotsOf_22 : decode cX7_lotsOf 22 = .ok (.if_icmp .ne 7, 3) := by decide +kernel
theorem dX7_lotsOf_25 : decode cX7_lotsOf 25 = .ok (.iconst 1, 1) := by decide +kernel
theorem dX7_lotsOf_26 : decode cX7_lotsOf 26 = .ok (.goto 4, 3) := by decide +kernel
theorem dX7_lotsOf_29 : decode cX7_lotsOf 29 = .ok (.iconst 0, 1) := by decide +kernel
theorem dX7_lotsOf_30 : decode cX7_lotsOf 30 = .ok (.iadd, 1) := by decide +kernel
theorem dX7_lotsOf_31 : decode cX7_lotsOf 31 = .ok (.istore_n 2, 1) := by decide +kernel
theorem dX7_lotsOf_32 : decode cX7_lotsOf 32 = .ok (.iinc 3 1, 3) := by decide +kernel
theorem dX7_lotsOf_35 : decode cX7_lotsOf 35 = .ok (.goto (-31), 3) := by decide +kernel
theorem dX7_lotsOf_38 : decode cX7_lotsOf 38 = .ok (.iload_n 2, 1) := by decide +kernel
theorem dX7_lotsOf_39 : decode cX7_lotsOf 39 = .ok (.ireturn, 1) := by decide +kernel
theorem dX7_loadedOf_0 : decode cX7_loadedOf 0 = .ok (.iconst 0, 1) := by decide +kernel
theorem dX7_loadedOf_1 : decode cX7_loadedOf 1 = .ok (.istore_n 2, 1) := by decide +kernel
theorem dX7_loadedOf_2 : decode cX7_loadedOf 2 = .ok (.iconst 0, 1) := by decide +kernel
theorem dX7_loadedOf_3 : decode cX7_loadedOf 3 = .ok (.istore_n 3, 1) := by decide +kernel
theorem dX7_loadedOf_4 : decode cX7_loadedOf 4 = .ok (.iload_n 3, 1) := by decide +kernel
theorem dX7_loadedOf_5 : decode cX7_loadedOf 5 = .ok (.aload_n 0, 1) := by decide +kernel
theorem dX7_loadedOf_6 : decode cX7_loadedOf 6 = .ok (.getfield 7, 3) := by decide +kernel
theorem dX7_loadedOf_9 : decode cX7_loadedOf 9 = .ok (.iconst 3, 1) := by decide +kernel
theorem dX7_loadedOf_10 : decode cX7_loadedOf 10 = .ok (.iaload, 1) := by decide +kernel
theorem dX7_loadedOf_11 : decode cX7_loadedOf 11 = .ok (.if_icmp .ge 44, 3) := by decide +kernel
theorem dX7_loadedOf_14 : decode cX7_loadedOf 14 = .ok (.iload_n 2, 1) := by decide +kernel
theorem dX7_loadedOf_15 : decode cX7_loadedOf 15 = .ok (.aload_n 0, 1) := by decide +kernel
theorem dX7_loadedOf_16 : decode cX7_loadedOf 16 = .ok (.getfield 7, 3) := by decide +kernel
theorem dX7_loadedOf_19 : decode cX7_loadedOf 19 = .ok (.bipush 23, 2) := by decide +kernel
theorem dX7_loadedOf_21 : decode cX7_loadedOf 21 = .ok (.iconst 3, 1) := by decide +kernel
theorem dX7_loadedOf_22 : decode cX7_loadedOf 22 = .ok (.iload_n 3, 1) := by decide +kernel
theorem dX7_loadedOf_23 : decode cX7_loadedOf 23 = .ok (.imul, 1) := by decide +kernel
theorem dX7_loadedOf_24 : decode cX7_loadedOf 24 = .ok (.iadd, 1) := by decide +kernel
theorem dX7_loadedOf_25 : decode cX7_loadedOf 25 = .ok (.iaload, 1) := by decide +kernel
theorem dX7_loadedOf_26 : decode cX7_loadedOf 26 = .ok (.iload_n 1, 1) := by decide +kernel
theorem dX7_loadedOf_27 : decode cX7_loadedOf 27 = .ok (.if_icmp .ne 19, 3) := by decide +kernel
theorem dX7_loadedOf_30 : decode cX7_loadedOf 30 = .ok (.aload_n 0, 1) := by decide +kernel
theorem dX7_loadedOf_31 : decode cX7_loadedOf 31 = .ok (.getfield 7, 3) := by decide +kernel
theorem dX7_loadedOf_34 : decode cX7_loadedOf 34 = .ok (.bipush 23, 2) := by decide +kernel
theorem dX7_loadedOf_36 : decode cX7_loadedOf 36 = .ok (.iconst 3, 1) := by decide +kernel
theorem dX7_loadedOf_37 : decode cX7_loadedOf 37 = .ok (.iload_n 3, 1) := by decide +kernel
theorem dX7_loadedOf_38 : decode cX7_loadedOf 38 = .ok (.imul, 1) := by decide +kernel
theorem dX7_loadedOf_39 : decode cX7_loadedOf 39 = .ok (.iadd, 1) := by decide +kernel
theorem dX7_loadedOf_40 : decode cX7_loadedOf 40 = .ok (.iconst 1, 1) := by decide +kernel
theorem dX7_loadedOf_41 : decode cX7_loadedOf 41 = .ok (.iadd, 1) := by decide +kernel
theorem dX7_loadedOf_42 : decode cX7_loadedOf 42 = .ok (.iaload, 1) := by decide +kernel
theorem dX7_loadedOf_43 : decode cX7_loadedOf 43 = .ok (.goto 4, 3) := by decide +kernel
theorem dX7_loadedOf_46 : decode cX7_loadedOf 46 = .ok (.iconst 0, 1) := by decide +kernel
theorem dX7_loadedOf_47 : decode cX7_loadedOf 47 = .ok (.iadd, 1) := by decide +kernel
theorem dX7_loadedOf_48 : decode cX7_loadedOf 48 = .ok (.istore_n 2, 1) := by decide +kernel
theorem dX7_loadedOf_49 : decode cX7_loadedOf 49 = .ok (.iinc 3 1, 3) := by decide +kernel
theorem dX7_loadedOf_52 : decode cX7_loadedOf 52 = .ok (.goto (-48), 3) := by decide +kernel
theorem dX7_loadedOf_55 : decode cX7_loadedOf 55 = .ok (.iload_n 2, 1) := by decide +kernel
theorem dX7_loadedOf_56 : decode cX7_loadedOf 56 = .ok (.ireturn, 1) := by decide +kernel
set_option maxRecDepth 20000 in
theorem ggX7_storeOf_X7_in : GoodIn wsX7_storeOf wsX7_in := goodIn_r _ [5] (by decide +kernel) (by decide +kernel)
set_option maxRecDepth 20000 in
theorem gX7_storeOf_X7_in : GoodIn wsX7_storeOf (va_wsS RX7 50 yX7_in wsX7_in) := goodIn_app (goodIn_of _ (by decide +kernel)) ggX7_storeOf_X7_in
set_option maxRecDepth 20000 in
theorem ggX7_storeOf_X7_stock : GoodIn wsX7_storeOf wsX7_stock := goodIn_r _ [9, 1, 10, 11, 12, 4, 13, 22, 23, 24, 25, 26, 27, 28, 29, 30, 31, 32, 33, 34, 35] (by decide +kernel) (by decide +kernel)
set_option maxRecDepth 20000 in
theorem gX7_storeOf_X7_stock : GoodIn wsX7_storeOf (wsV RX7 72 RX7 yX7_stock wsX7_stock) := goodIn_app (goodIn_of _ (by decide +kernel)) ggX7_storeOf_X7_stock
set_option maxRecDepth 20000 in
theorem ggX7_storeOf_X7_lotsOf : GoodIn wsX7_storeOf wsX7_lotsOf := goodIn_r _ [17, 1, 10, 11, 12, 4, 13, 22, 23, 24, 25, 26, 27, 28, 29, 30, 31, 32, 33, 34, 35] (by decide +kernel) (by decide +kernel)
set_option maxRecDepth 20000 in
theorem gX7_storeOf_X7_lotsOf : GoodIn wsX7_storeOf (wsV RX7 147 RX7 yX7_lotsOf wsX7_lotsOf) := goodIn_app (goodIn_of _ (by decide +kernel)) ggX7_storeOf_X7_lotsOf
set_option maxRecDepth 20000 in
theorem ggX7_storeOf_X7_loadedOf : GoodIn wsX7_storeOf wsX7_loadedOf := goodIn_r _ [21, 1, 22, 23, 24, 25, 26, 27, 28, 29, 30, 31, 32, 33, 34, 35] (by decide +kernel) (by decide +kernel)
set_option maxRecDepth 20000 in
theorem gX7_storeOf_X7_loadedOf : GoodIn wsX7_storeOf (wsV RX7 150 RX7 yX7_loadedOf wsX7_loadedOf) := goodIn_app (goodIn_of _ (by decide +kernel)) ggX7_storeOf_X7_loadedOf
theorem dX7_storeOf_0 : decode cX7_storeOf 0 = .ok (.iload_n 1, 1) := by decide +kernel
theorem dX7_storeOf_1 : decode cX7_storeOf 1 = .ok (.iconst 0, 1) := by decide +kernel
theorem dX7_storeOf_2 : decode cX7_storeOf 2 = .ok (.iconst 2, 1) := by decide +kernel
theorem dX7_storeOf_3 : decode cX7_storeOf 3 = .ok (.invokestatic 50, 3) := by decide +kernel
theorem dX7_storeOf_6 : decode cX7_storeOf 6 = .ok (.ifCond .eq 12, 3) := by decide +kernel
theorem dX7_storeOf_9 : decode cX7_storeOf 9 = .ok (.iload_n 2, 1) := by decide +kernel
theorem dX7_storeOf_10 : decode cX7_storeOf 10 = .ok (.iconst 0, 1) := by decide +kernel
theorem dX7_storeOf_11 : decode cX7_storeOf 11 = .ok (.iconst 5, 1) := by decide +kernel
theorem dX7_storeOf_12 : decode cX7_storeOf 12 = .ok (.invokestatic 50, 3) := by decide +kernel
theorem dX7_storeOf_15 : decode cX7_storeOf 15 = .ok (.ifCond .ne 5, 3) := by decide +kernel
theorem dX7_storeOf_18 : decode cX7_storeOf 18 = .ok (.iconst (-1), 1) := by decide +kernel
theorem dX7_storeOf_19 : decode cX7_storeOf 19 = .ok (.ireturn, 1) := by decide +kernel
theorem dX7_storeOf_20 : decode cX7_storeOf 20 = .ok (.iload_n 2, 1) := by decide +kernel
theorem dX7_storeOf_21 : decode cX7_storeOf 21 = .ok (.tableswitch 63 0 4 #[35, 41, 41, 41, 57], 35) := by decide +kernel
theorem dX7_storeOf_56 : decode cX7_storeOf 56 = .ok (.aload_n 0, 1) := by decide +kernel
theorem dX7_storeOf_57 : decode cX7_storeOf 57 = .ok (.iload_n 1, 1) := by decide +kernel
theorem dX7_storeOf_58 : decode cX7_storeOf 58 = .ok (.invokevirtual 72, 3) := by decide +kernel
theorem dX7_storeOf_61 : decode cX7_storeOf 61 = .ok (.ireturn, 1) := by decide +kernel
theorem dX7_storeOf_62 : decode cX7_storeOf 62 = .ok (.aload_n 0, 1) := by decide +kernel
theorem dX7_storeOf_63 : decode cX7_storeOf 63 = .ok (.getfield 7, 3) := by decide +kernel
theorem dX7_storeOf_66 : decode cX7_storeOf 66 = .ok (.bipush 14, 2) := by decide +kernel
theorem dX7_storeOf_68 : decode cX7_storeOf 68 = .ok (.iconst 3, 1) := by decide +kernel
theorem dX7_storeOf_69 : decode cX7_storeOf 69 = .ok (.iload_n 2, 1) := by decide +kernel
theorem dX7_storeOf_70 : decode cX7_storeOf 70 = .ok (.imul, 1) := by decide +kernel
theorem dX7_storeOf_71 : decode cX7_storeOf 71 = .ok (.iadd, 1) := by decide +kernel
theorem dX7_storeOf_72 : decode cX7_storeOf 72 = .ok (.iconst 3, 1) := by decide +kernel
theorem dX7_storeOf_73 : decode cX7_storeOf 73 = .ok (.isub, 1) := by decide +kernel
theorem dX7_storeOf_74 : decode cX7_storeOf 74 = .ok (.iload_n 1, 1) := by decide +kernel
theorem dX7_storeOf_75 : decode cX7_storeOf 75 = .ok (.iadd, 1) := by decide +kernel
theorem dX7_storeOf_76 : decode cX7_storeOf 76 = .ok (.iaload, 1) := by decide +kernel
theorem dX7_storeOf_77 : decode cX7_storeOf 77 = .ok (.ireturn, 1) := by decide +kernel
theorem dX7_storeOf_78 : decode cX7_storeOf 78 = .ok (.aload_n 0, 1) := by decide +kernel
theorem dX7_storeOf_79 : decode cX7_storeOf 79 = .ok (.iload_n 1, 1) := by decide +kernel
theorem dX7_storeOf_80 : decode cX7_storeOf 80 = .ok (.invokevirtual 147, 3) := by decide +kernel
theorem dX7_storeOf_83 : decode cX7_storeOf 83 = .ok (.ireturn, 1) := by decide +kernel
theorem dX7_storeOf_84 : decode cX7_storeOf 84 = .ok (.aload_n 0, 1) := by decide +kernel
theorem dX7_storeOf_85 : decode cX7_storeOf 85 = .ok (.iload_n 1, 1) := by decide +kernel
theorem dX7_storeOf_86 : decode cX7_storeOf 86 = .ok (.invokevirtual 150, 3) := by decide +kernel
theorem dX7_storeOf_89 : decode cX7_storeOf 89 = .ok (.ireturn, 1) := by decide +kernel
set_option maxRecDepth 20000 in
theorem ggX7_partyOf_X7_isParty : GoodIn wsX7_partyOf wsX7_isParty := goodIn_r _ [5, 6, 7, 8, 4, 9, 14, 15, 16, 17, 18, 19, 20, 21, 22, 23, 24, 25, 26, 27] (by decide +kernel) (by decide +kernel)
set_option maxRecDepth 20000 in
theorem gX7_partyOf_X7_isParty : GoodIn wsX7_partyOf (wsV RX7 113 RX7 yX7_isParty wsX7_isParty) := goodIn_app (goodIn_of _ (by decide +kernel)) ggX7_partyOf_X7_isParty
set_option maxRecDepth 20000 in
theorem ggX7_partyOf_X7_in : GoodIn wsX7_partyOf wsX7_in := goodIn_r _ [9] (by decide +kernel) (by decide +kernel)
set_option maxRecDepth 20000 in
theorem gX7_partyOf_X7_in : GoodIn wsX7_partyOf (va_wsS RX7 50 yX7_in wsX7_in) := goodIn_app (goodIn_of _ (by decide +kernel)) ggX7_partyOf_X7_in
set_option maxRecDepth 20000 in
theorem ggX7_partyOf_X7_ofParty : GoodIn wsX7_partyOf wsX7_ofParty := goodIn_r _ [13, 6, 14, 15, 16, 17, 18, 19, 20, 21, 22, 23, 24, 25, 26, 27] (by decide +kernel) (by decide +kernel)
set_option maxRecDepth 20000 in
theorem gX7_partyOf_X7_ofParty : GoodIn wsX7_partyOf (wsV RX7 54 RX7 yX7_ofParty wsX7_ofParty) := goodIn_app (goodIn_of _ (by decide +kernel)) ggX7_partyOf_X7_ofParty
theorem dX7_partyOf_0 : decode cX7_partyOf 0 = .ok (.aload_n 0, 1) := by decide +kernel
theorem dX7_partyOf_1 : decode cX7_partyOf 1 = .ok (.iload_n 1, 1) := by decide +kernel
theorem dX7_partyOf_2 : decode cX7_partyOf 2 = .ok (.invokevirtual 113, 3) := by decide +kernel
theorem dX7_partyOf_5 : decode cX7_partyOf 5 = .ok (.ifCond .eq 13, 3) := by decide +kernel
theorem dX7_partyOf_8 : decode cX7_partyOf 8 = .ok (.iload_n 2, 1) := by decide +kernel
theorem dX7_partyOf_9 : decode cX7_partyOf 9 = .ok (.iconst 0, 1) := by decide +kernel
theorem dX7_partyOf_10 : decode cX7_partyOf 10 = .ok (.bipush 6, 2) := by decide +kernel
theorem dX7_partyOf_12 : decode cX7_partyOf 12 = .ok (.invokestatic 50, 3) := by decide +kernel
theorem dX7_partyOf_15 : decode cX7_partyOf 15 = .ok (.ifCond .ne 5, 3) := by decide +kernel
theorem dX7_partyOf_18 : decode cX7_partyOf 18 = .ok (.iconst (-1), 1) := by decide +kernel
theorem dX7_partyOf_19 : decode cX7_partyOf 19 = .ok (.ireturn, 1) := by decide +kernel
theorem dX7_partyOf_20 : decode cX7_partyOf 20 = .ok (.aload_n 0, 1) := by decide +kernel
theorem dX7_partyOf_21 : decode cX7_partyOf 21 = .ok (.iload_n 1, 1) := by decide +kernel
theorem dX7_partyOf_22 : decode cX7_partyOf 22 = .ok (.iconst 4, 1) := by decide +kernel
theorem dX7_partyOf_23 : decode cX7_partyOf 23 = .ok (.invokevirtual 54, 3) := by decide +kernel
theorem dX7_partyOf_26 : decode cX7_partyOf 26 = .ok (.aload_n 0, 1) := by decide +kernel
theorem dX7_partyOf_27 : decode cX7_partyOf 27 = .ok (.iload_n 1, 1) := by decide +kernel
theorem dX7_partyOf_28 : decode cX7_partyOf 28 = .ok (.iconst 2, 1) := by decide +kernel
theorem dX7_partyOf_29 : decode cX7_partyOf 29 = .ok (.invokevirtual 54, 3) := by decide +kernel
theorem dX7_partyOf_32 : decode cX7_partyOf 32 = .ok (.isub, 1) := by decide +kernel
theorem dX7_partyOf_33 : decode cX7_partyOf 33 = .ok (.istore_n 3, 1) := by decide +kernel
theorem dX7_partyOf_34 : decode cX7_partyOf 34 = .ok (.iload_n 2, 1) := by decide +kernel
theorem dX7_partyOf_35 : decode cX7_partyOf 35 = .ok (.lookupswitch 58 #[(5, 25), (6, 48)], 25) := by decide +kernel
theorem dX7_partyOf_60 : decode cX7_partyOf 60 = .ok (.aload_n 0, 1) := by decide +kernel
theorem dX7_partyOf_61 : decode cX7_partyOf 61 = .ok (.iload_n 1, 1) := by decide +kernel
theorem dX7_partyOf_62 : decode cX7_partyOf 62 = .ok (.iconst 5, 1) := by decide +kernel
theorem dX7_partyOf_63 : decode cX7_partyOf 63 = .ok (.invokevirtual 54, 3) := by decide +kernel
theorem dX7_partyOf_66 : decode cX7_partyOf 66 = .ok (.ifCond .ne 8, 3) := by decide +kernel
theorem dX7_partyOf_69 : decode cX7_partyOf 69 = .ok (.bipush (-4), 2) := by decide +kernel
theorem dX7_partyOf_71 : decode cX7_partyOf 71 = .ok (.goto 11, 3) := by decide +kernel
theorem dX7_partyOf_74 : decode cX7_partyOf 74 = .ok (.aload_n 0, 1) := by decide +kernel
theorem dX7_partyOf_75 : decode cX7_partyOf 75 = .ok (.iload_n 1, 1) := by decide +kernel
theorem dX7_partyOf_76 : decode cX7_partyOf 76 = .ok (.iconst 5, 1) := by decide +kernel
theorem dX7_partyOf_77 : decode cX7_partyOf 77 = .ok (.invokevirtual 54, 3) := by decide +kernel
theorem dX7_partyOf_80 : decode cX7_partyOf 80 = .ok (.iconst 1, 1) := by decide +kernel
theorem dX7_partyOf_81 : decode cX7_partyOf 81 = .ok (.isub, 1) := by decide +kernel
theorem dX7_partyOf_82 : decode cX7_partyOf 82 = .ok (.ireturn, 1) := by decide +kernel
theorem dX7_partyOf_83 : decode cX7_partyOf 83 = .ok (.iload_n 3, 1) := by decide +kernel
theorem dX7_partyOf_84 : decode cX7_partyOf 84 = .ok (.ifCond .ge 7, 3) := by decide +kernel
theorem dX7_partyOf_87 : decode cX7_partyOf 87 = .ok (.iconst 0, 1) := by decide +kernel
theorem dX7_partyOf_88 : decode cX7_partyOf 88 = .ok (.goto 4, 3) := by decide +kernel
theorem dX7_partyOf_91 : decode cX7_partyOf 91 = .ok (.iload_n 3, 1) := by decide +kernel
theorem dX7_partyOf_92 : decode cX7_partyOf 92 = .ok (.ireturn, 1) := by decide +kernel
theorem dX7_partyOf_93 : decode cX7_partyOf 93 = .ok (.aload_n 0, 1) := by decide +kernel
theorem dX7_partyOf_94 : decode cX7_partyOf 94 = .ok (.iload_n 1, 1) := by decide +kernel
theorem dX7_partyOf_95 : decode cX7_partyOf 95 = .ok (.iload_n 2, 1) := by decide +kernel
theorem dX7_partyOf_96 : decode cX7_partyOf 96 = .ok (.invokevirtual 54, 3) := by decide +kernel
theorem dX7_partyOf_99 : decode cX7_partyOf 99 = .ok (.ireturn, 1) := by decide +kernel
set_option maxRecDepth 20000 in
theorem ggX7_count_X7_partiesOf : GoodIn wsX7_count wsX7_partiesOf := goodIn_r _ [9, 1, 10, 11, 12, 8, 13, 25, 26, 27, 28, 29, 30, 31, 32, 33, 34, 35, 36, 37, 38] (by decide +kernel) (by decide +kernel)
set_option maxRecDepth 20000 in
theorem gX7_count_X7_partiesOf : GoodIn wsX7_count (wsV RX7 57 RX7 yX7_partiesOf wsX7_partiesOf) := goodIn_app (goodIn_of _ (by decide +kernel)) ggX7_count_X7_partiesOf
set_option maxRecDepth 20000 in
theorem ggX7_count_X7_guests : GoodIn wsX7_count wsX7_guests := goodIn_r _ [17, 1, 10, 11, 12, 8, 13, 25, 26, 27, 28, 29, 30, 31, 32, 33, 34, 35, 36, 37, 38] (by decide +kernel) (by decide +kernel)
set_option maxRecDepth 20000 in
theorem gX7_count_X7_guests : GoodIn wsX7_count (wsV RX7 68 RX7 yX7_guests wsX7_guests) := goodIn_app (goodIn_of _ (by decide +kernel)) ggX7_count_X7_guests
set_option maxRecDepth 20000 in
theorem ggX7_count_X7_isStorm : GoodIn wsX7_count wsX7_isStorm := goodIn_r _ [21, 1, 25, 26, 27, 28, 29, 30, 31, 32, 33, 34, 35, 36, 37, 38] (by decide +kernel) (by decide +kernel)
set_option maxRecDepth 20000 in
theorem gX7_count_X7_isStorm : GoodIn wsX7_count (wsV RX7 64 RX7 yX7_isStorm wsX7_isStorm) := goodIn_app (goodIn_of _ (by decide +kernel)) ggX7_count_X7_isStorm
set_option maxRecDepth 20000 in
theorem ggX7_count_X7_in : GoodIn wsX7_count wsX7_in := goodIn_r _ [24] (by decide +kernel) (by decide +kernel)
set_option maxRecDepth 20000 in
theorem gX7_count_X7_in : GoodIn wsX7_count (va_wsS RX7 50 yX7_in wsX7_in) := goodIn_app (goodIn_of _ (by decide +kernel)) ggX7_count_X7_in
theorem dX7_count_0 : decode cX7_count 0 = .ok (.iload_n 1, 1) := by decide +kernel
theorem dX7_count_1 : decode cX7_count 1 = .ok (.tableswitch 174 0 14 #[75, 82, 88, 94, 99, 106, 125, 132, 139, 139, 139, 139, 151, 156, 161], 75) := by decide +kernel
theorem dX7_count_76 : decode cX7_count 76 = .ok (.aload_n 0, 1) := by decide +kernel
theorem dX7_count_77 : decode cX7_count 77 = .ok (.getfield 7, 3) := by decide +kernel
theorem dX7_count_80 : decode cX7_count 80 = .ok (.iconst 4, 1) := by decide +kernel
theorem dX7_count_81 : decode cX7_count 81 = .ok (.iaload, 1) := by decide +kernel
theorem dX7_count_82 : decode cX7_count 82 = .ok (.ireturn, 1) := by decide +kernel
theorem dX7_count_83 : decode cX7_count 83 = .ok (.aload_n 0, 1) := by decide +kernel
theorem dX7_count_84 : decode cX7_count 84 = .ok (.iconst 0, 1) := by decide +kernel
theorem dX7_count_85 : decode cX7_count 85 = .ok (.invokevirtual 57, 3) := by decide +kernel
theorem dX7_count_88 : decode cX7_count 88 = .ok (.ireturn, 1) := by decide +kernel
theorem dX7_count_89 : decode cX7_count 89 = .ok (.aload_n 0, 1) := by decide +kernel
theorem dX7_count_90 : decode cX7_count 90 = .ok (.iconst 1, 1) := by decide +kernel
theorem dX7_count_91 : decode cX7_count 91 = .ok (.invokevirtual 57, 3) := by decide +kernel
theorem dX7_count_94 : decode cX7_count 94 = .ok (.ireturn, 1) := by decide +kernel
theorem dX7_count_95 : decode cX7_count 95 = .ok (.aload_n 0, 1) := by decide +kernel
theorem dX7_count_96 : decode cX7_count 96 = .ok (.invokevirtual 68, 3) := by decide +kernel
theorem dX7_count_99 : decode cX7_count 99 = .ok (.ireturn, 1) := by decide +kernel
theorem dX7_count_100 : decode cX7_count 100 = .ok (.aload_n 0, 1) := by decide +kernel
theorem dX7_count_101 : decode cX7_count 101 = .ok (.getfield 7, 3) := by decide +kernel
theorem dX7_count_104 : decode cX7_count 104 = .ok (.iconst 0, 1) := by decide +kernel
theorem dX7_count_105 : decode cX7_count 105 = .ok (.iaload, 1) := by decide +kernel
theorem dX7_count_106 : decode cX7_count 106 = .ok (.ireturn, 1) := by decide +kernel
theorem dX7_count_107 : decode cX7_count 107 = .ok (.aload_n 0, 1) := by decide +kernel
theorem dX7_count_108 : decode cX7_count 108 = .ok (.aload_n 0, 1) := by decide +kernel
theorem dX7_count_109 : decode cX7_count 109 = .ok (.getfield 7, 3) := by decide +kernel
theorem dX7_count_112 : decode cX7_count 112 = .ok (.iconst 0, 1) := by decide +kernel
theorem dX7_count_113 : decode cX7_count 113 = .ok (.iaload, 1) := by decide +kernel
theorem dX7_count_114 : decode cX7_count 114 = .ok (.invokevirtual 64, 3) := by decide +kernel
theorem dX7_count_117 : decode cX7_count 117 = .ok (.ifCond .eq 7, 3) := by decide +kernel
theorem dX7_count_120 : decode cX7_count 120 = .ok (.iconst 1, 1) := by decide +kernel
theorem dX7_count_121 : decode cX7_count 121 = .ok (.goto 4, 3) := by decide +kernel
theorem dX7_count_124 : decode cX7_count 124 = .ok (.iconst 0, 1) := by decide +kernel
theorem dX7_count_125 : decode cX7_count 125 = .ok (.ireturn, 1) := by decide +kernel
theorem dX7_count_126 : decode cX7_count 126 = .ok (.aload_n 0, 1) := by decide +kernel
theorem dX7_count_127 : decode cX7_count 127 = .ok (.getfield 7, 3) := by decide +kernel
theorem dX7_count_130 : decode cX7_count 130 = .ok (.iconst 1, 1) := by decide +kernel
theorem dX7_count_131 : decode cX7_count 131 = .ok (.iaload, 1) := by decide +kernel
theorem dX7_count_132 : decode cX7_count 132 = .ok (.ireturn, 1) := by decide +kernel
theorem dX7_count_133 : decode cX7_count 133 = .ok (.aload_n 0, 1) := by decide +kernel
theorem dX7_count_134 : decode cX7_count 134 = .ok (.getfield 7, 3) := by decide +kernel
theorem dX7_count_137 : decode cX7_count 137 = .ok (.iconst 3, 1) := by decide +kernel
theorem dX7_count_138 : decode cX7_count 138 = .ok (.iaload, 1) := by decide +kernel
theorem dX7_count_139 : decode cX7_count 139 = .ok (.ireturn, 1) := by decide +kernel
theorem dX7_count_140 : decode cX7_count 140 = .ok (.aload_n 0, 1) := by decide +kernel
theorem dX7_count_141 : decode cX7_count 141 = .ok (.getfield 7, 3) := by decide +kernel
theorem dX7_count_144 : decode cX7_count 144 = .ok (.iconst 5, 1) := by decide +kernel
theorem dX7_count_145 : decode cX7_count 145 = .ok (.iload_n 1, 1) := by decide +kernel
theorem dX7_count_146 : decode cX7_count 146 = .ok (.iadd, 1) := by decide +kernel
theorem dX7_count_147 : decode cX7_count 147 = .ok (.bipush 8, 2) := by decide +kernel
theorem dX7_count_149 : decode cX7_count 149 = .ok (.isub, 1) := by decide +kernel
theorem dX7_count_150 : decode cX7_count 150 = .ok (.iaload, 1) := by decide +kernel
theorem dX7_count_151 : decode cX7_count 151 = .ok (.ireturn, 1) := by decide +kernel
theorem dX7_count_152 : decode cX7_count 152 = .ok (.aload_n 0, 1) := by decide +kernel
theorem dX7_count_153 : decode cX7_count 153 = .ok (.getfield 34, 3) := by decide +kernel
theorem dX7_count_156 : decode cX7_count 156 = .ok (.ireturn, 1) := by decide +kernel
theorem dX7_count_157 : decode cX7_count 157 = .ok (.aload_n 0, 1) := by decide +kernel
theorem dX7_count_158 : decode cX7_count 158 = .ok (.getfield 153, 3) := by decide +kernel
theorem dX7_count_161 : decode cX7_count 161 = .ok (.ireturn, 1) := by decide +kernel
theorem dX7_count_162 : decode cX7_count 162 = .ok (.aload_n 0, 1) := by decide +kernel
theorem dX7_count_163 : decode cX7_count 163 = .ok (.getfield 156, 3) := by decide +kernel
theorem dX7_count_166 : decode cX7_count 166 = .ok (.ifCond .eq 7, 3) := by decide +kernel
theorem dX7_count_169 : decode cX7_count 169 = .ok (.iconst 1, 1) := by decide +kernel
theorem dX7_count_170 : decode cX7_count 170 = .ok (.goto 4, 3) := by decide +kernel
theorem dX7_count_173 : decode cX7_count 173 = .ok (.iconst 0, 1) := by decide +kernel
theorem dX7_count_174 : decode cX7_count 174 = .ok (.ireturn, 1) := by decide +kernel
theorem dX7_count_175 : decode cX7_count 175 = .ok (.iload_n 1, 1) := by decide +kernel
theorem dX7_count_176 : decode cX7_count 176 = .ok (.bipush 20, 2) := by decide +kernel
theorem dX7_count_178 : decode cX7_count 178 = .ok (.bipush 23, 2) := by decide +kernel
theorem dX7_count_180 : decode cX7_count 180 = .ok (.invokestatic 50, 3) := by decide +kernel
theorem dX7_count_183 : decode cX7_count 183 = .ok (.ifCond .eq 18, 3) := by decide +kernel
theorem dX7_count_186 : decode cX7_count 186 = .ok (.aload_n 0, 1) := by decide +kernel
theorem dX7_count_187 : decode cX7_count 187 = .ok (.getfield 7, 3) := by decide +kernel
theorem dX7_count_190 : decode cX7_count 190 = .ok (.bipush 10, 2) := by decide +kernel
theorem dX7_count_192 : decode cX7_count 192 = .ok (.iload_n 1, 1) := by decide +kernel
theorem dX7_count_193 : decode cX7_count 193 = .ok (.iadd, 1) := by decide +kernel
theorem dX7_count_194 : decode cX7_count 194 = .ok (.bipush 20, 2) := by decide +kernel
theorem dX7_count_196 : decode cX7_count 196 = .ok (.isub, 1) := by decide +kernel
theorem dX7_count_197 : decode cX7_count 197 = .ok (.iaload, 1) := by decide +kernel
theorem dX7_count_198 : decode cX7_count 198 = .ok (.goto 4, 3) := by decide +kernel
theorem dX7_count_201 : decode cX7_count 201 = .ok (.iconst (-1), 1) := by decide +kernel
theorem dX7_count_202 : decode cX7_count 202 = .ok (.ireturn, 1) := by decide +kernel
set_option maxRecDepth 20000 in
theorem ggX7_goneOn_X7_isParty : GoodIn wsX7_goneOn wsX7_isParty := goodIn_r _ [6, 1, 7, 8, 5, 9, 79, 80, 81, 82, 83, 84, 85, 86, 87, 88, 89, 90, 91, 92] (by decide +kernel) (by decide +kernel)
set_option maxRecDepth 20000 in
theorem gX7_goneOn_X7_isParty : GoodIn wsX7_goneOn (wsV RX7 113 RX7 yX7_isParty wsX7_isParty) := goodIn_app (goodIn_of _ (by decide +kernel)) ggX7_goneOn_X7_isParty
set_option maxRecDepth 20000 in
theorem ggX7_goneOn_X7_ofParty : GoodIn wsX7_goneOn wsX7_ofParty := goodIn_r _ [13, 1, 79, 80, 81, 82, 83, 84, 85, 86, 87, 88, 89, 90, 91, 92] (by decide +kernel) (by decide +kernel)
set_option maxRecDepth 20000 in
theorem gX7_goneOn_X7_ofParty : GoodIn wsX7_goneOn (wsV RX7 54 RX7 yX7_ofParty wsX7_ofParty) := goodIn_app (goodIn_of _ (by decide +kernel)) ggX7_goneOn_X7_ofParty
set_option maxRecDepth 20000 in
theorem ggX7_goneOn_X7_begins : GoodIn wsX7_goneOn wsX7_begins := goodIn_r _ [17, 18, 1, 79, 80, 81, 82, 83, 84, 85, 86, 87, 88, 89, 90, 91, 92] (by decide +kernel) (by decide +kernel)
set_option maxRecDepth 20000 in
theorem gX7_goneOn_X7_begins : GoodIn wsX7_goneOn (wsV RX7 119 RX7 yX7_begins wsX7_begins) := goodIn_app (goodIn_of _ (by decide +kernel)) ggX7_goneOn_X7_begins
set_option maxRecDepth 20000 in
theorem ggX7_goneOn_X7_night : GoodIn wsX7_goneOn wsX7_night := goodIn_r _ [22, 1, 23, 24, 25, 5, 26, 27, 28, 29, 30, 10, 11, 12, 13, 31, 32, 33, 34, 35, 36, 37, 38, 39, 40, 41, 42, 43, 44, 45, 46, 47, 48, 49, 50, 51, 52, 53, 54, 55, 56, 57, 58, 59, 60, 61, 62, 63, 64, 65, 66, 67, 68, 69, 70, 71, 72, 73, 74, 79, 80, 81, 82, 83, 84, 85, 86, 87, 88, 89, 90, 91, 92] (by decide +kernel) (by decide +kernel)
set_option maxRecDepth 20000 in
theorem gX7_goneOn_X7_night : GoodIn wsX7_goneOn (wsV RX7 100 RX7 yX7_night wsX7_night) := goodIn_app (goodIn_of _ (by decide +kernel)) ggX7_goneOn_X7_night
set_option maxRecDepth 20000 in
theorem ggX7_goneOn_X7_returns : GoodIn wsX7_goneOn wsX7_returns := goodIn_r _ [78, 1, 18, 79, 80, 81, 82, 83, 84, 85, 86, 87, 88, 89, 90, 91, 92] (by decide +kernel) (by decide +kernel)
set_option maxRecDepth 20000 in
theorem gX7_goneOn_X7_returns : GoodIn wsX7_goneOn (wsV RX7 31 RX7 yX7_returns wsX7_returns) := goodIn_app (goodIn_of _ (by decide +kernel)) ggX7_goneOn_X7_returns
theorem dX7_goneOn_0 : decode cX7_goneOn 0 = .ok (.aload_n 0, 1) := by decide +kernel
theorem dX7_goneOn_1 : decode cX7_goneOn 1 = .ok (.iload_n 1, 1) := by decide +kernel
theorem dX7_goneOn_2 : decode cX7_goneOn 2 = .ok (.invokevirtual 113, 3) := by decide +kernel
theorem dX7_goneOn_5 : decode cX7_goneOn 5 = .ok (.ifCond .ne 5, 3) := by decide +kernel
theorem dX7_goneOn_8 : decode cX7_goneOn 8 = .ok (.iconst (-1), 1) := by decide +kernel
theorem dX7_goneOn_9 : decode cX7_goneOn 9 = .ok (.ireturn, 1) := by decide +kernel
theorem dX7_goneOn_10 : decode cX7_goneOn 10 = .ok (.aload_n 0, 1) := by decide +kernel
theorem dX7_goneOn_11 : decode cX7_goneOn 11 = .ok (.iload_n 1, 1) := by decide +kernel
theorem dX7_goneOn_12 : decode cX7_goneOn 12 = .ok (.iconst 3, 1) := by decide +kernel
theorem dX7_goneOn_13 : decode cX7_goneOn 13 = .ok (.invokevirtual 54, 3) := by decide +kernel
theorem dX7_goneOn_16 : decode cX7_goneOn 16 = .ok (.iconst 1, 1) := by decide +kernel
theorem dX7_goneOn_17 : decode cX7_goneOn 17 = .ok (.if_icmp .le 6, 3) := by decide +kernel
theorem dX7_goneOn_20 : decode cX7_goneOn 20 = .ok (.bipush (-2), 2) := by decide +kernel
theorem dX7_goneOn_22 : decode cX7_goneOn 22 = .ok (.ireturn, 1) := by decide +kernel
theorem dX7_goneOn_23 : decode cX7_goneOn 23 = .ok (.aload_n 0, 1) := by decide +kernel
theorem dX7_goneOn_24 : decode cX7_goneOn 24 = .ok (.invokevirtual 119, 3) := by decide +kernel
theorem dX7_goneOn_27 : decode cX7_goneOn 27 = .ok (.aload_n 0, 1) := by decide +kernel
theorem dX7_goneOn_28 : decode cX7_goneOn 28 = .ok (.iload_n 1, 1) := by decide +kernel
theorem dX7_goneOn_29 : decode cX7_goneOn 29 = .ok (.iconst 3, 1) := by decide +kernel
theorem dX7_goneOn_30 : decode cX7_goneOn 30 = .ok (.invokevirtual 54, 3) := by decide +kernel
theorem dX7_goneOn_33 : decode cX7_goneOn 33 = .ok (.iconst 1, 1) := by decide +kernel
theorem dX7_goneOn_34 : decode cX7_goneOn 34 = .ok (.if_icmp .gt 10, 3) := by decide +kernel
theorem dX7_goneOn_37 : decode cX7_goneOn 37 = .ok (.aload_n 0, 1) := by decide +kernel
theorem dX7_goneOn_38 : decode cX7_goneOn 38 = .ok (.invokevirtual 100, 3) := by decide +kernel
theorem dX7_goneOn_41 : decode cX7_goneOn 41 = .ok (.goto (-14), 3) := by decide +kernel
theorem dX7_goneOn_44 : decode cX7_goneOn 44 = .ok (.aload_n 0, 1) := by decide +kernel
theorem dX7_goneOn_45 : decode cX7_goneOn 45 = .ok (.iload_n 1, 1) := by decide +kernel
theorem dX7_goneOn_46 : decode cX7_goneOn 46 = .ok (.iconst 3, 1) := by decide +kernel
theorem dX7_goneOn_47 : decode cX7_goneOn 47 = .ok (.invokevirtual 54, 3) := by decide +kernel
theorem dX7_goneOn_50 : decode cX7_goneOn 50 = .ok (.iconst 2, 1) := by decide +kernel
theorem dX7_goneOn_51 : decode cX7_goneOn 51 = .ok (.if_icmp .ne 14, 3) := by decide +kernel
theorem dX7_goneOn_54 : decode cX7_goneOn 54 = .ok (.aload_n 0, 1) := by decide +kernel
theorem dX7_goneOn_55 : decode cX7_goneOn 55 = .ok (.getfield 7, 3) := by decide +kernel
theorem dX7_goneOn_58 : decode cX7_goneOn 58 = .ok (.iconst 0, 1) := by decide +kernel
theorem dX7_goneOn_59 : decode cX7_goneOn 59 = .ok (.iaload, 1) := by decide +kernel
theorem dX7_goneOn_60 : decode cX7_goneOn 60 = .ok (.iconst 1, 1) := by decide +kernel
theorem dX7_goneOn_61 : decode cX7_goneOn 61 = .ok (.isub, 1) := by decide +kernel
theorem dX7_goneOn_62 : decode cX7_goneOn 62 = .ok (.goto 5, 3) := by decide +kernel
theorem dX7_goneOn_65 : decode cX7_goneOn 65 = .ok (.bipush (-4), 2) := by decide +kernel
theorem dX7_goneOn_67 : decode cX7_goneOn 67 = .ok (.istore_n 2, 1) := by decide +kernel
theorem dX7_goneOn_68 : decode cX7_goneOn 68 = .ok (.aload_n 0, 1) := by decide +kernel
theorem dX7_goneOn_69 : decode cX7_goneOn 69 = .ok (.invokevirtual 31, 3) := by decide +kernel
theorem dX7_goneOn_72 : decode cX7_goneOn 72 = .ok (.iload_n 2, 1) := by decide +kernel
theorem dX7_goneOn_73 : decode cX7_goneOn 73 = .ok (.ireturn, 1) := by decide +kernel
set_option maxRecDepth 20000 in
theorem ggX7_outOn_X7_in : GoodIn wsX7_outOn wsX7_in := goodIn_r _ [5] (by decide +kernel) (by decide +kernel)
set_option maxRecDepth 20000 in
theorem gX7_outOn_X7_in : GoodIn wsX7_outOn (va_wsS RX7 50 yX7_in wsX7_in) := goodIn_app (goodIn_of _ (by decide +kernel)) ggX7_outOn_X7_in
set_option maxRecDepth 20000 in
theorem ggX7_outOn_X7_begins : GoodIn wsX7_outOn wsX7_begins := goodIn_r _ [9, 10, 1, 83, 84, 85, 86, 87, 88, 89, 90, 91, 92, 93, 94, 95, 96] (by decide +kernel) (by decide +kernel)
set_option maxRecDepth 20000 in
theorem gX7_outOn_X7_begins : GoodIn wsX7_outOn (wsV RX7 119 RX7 yX7_begins wsX7_begins) := goodIn_app (goodIn_of _ (by decide +kernel)) ggX7_outOn_X7_begins
set_option maxRecDepth 20000 in
theorem ggX7_outOn_X7_isAny : GoodIn wsX7_outOn wsX7_isAny := goodIn_r _ [14, 15, 16, 17, 4, 18, 1, 19, 20, 21, 22, 83, 84, 85, 86, 87, 88, 89, 90, 91, 92, 93, 94, 95, 96] (by decide +kernel) (by decide +kernel)
set_option maxRecDepth 20000 in
theorem gX7_outOn_X7_isAny : GoodIn wsX7_outOn (wsV RX7 96 RX7 yX7_isAny wsX7_isAny) := goodIn_app (goodIn_of _ (by decide +kernel)) ggX7_outOn_X7_isAny
set_option maxRecDepth 20000 in
theorem ggX7_outOn_X7_night : GoodIn wsX7_outOn wsX7_night := goodIn_r _ [26, 1, 27, 28, 29, 4, 30, 31, 32, 33, 34, 19, 20, 21, 22, 35, 36, 37, 38, 39, 40, 41, 42, 43, 44, 45, 46, 47, 48, 49, 50, 51, 52, 53, 54, 55, 56, 57, 58, 59, 60, 61, 62, 63, 64, 65, 66, 67, 68, 69, 70, 71, 72, 73, 74, 75, 76, 77, 78, 83, 84, 85, 86, 87, 88, 89, 90, 91, 92, 93, 94, 95, 96] (by decide +kernel) (by decide +kernel)
set_option maxRecDepth 20000 in
theorem gX7_outOn_X7_night : GoodIn wsX7_outOn (wsV RX7 100 RX7 yX7_night wsX7_night) := goodIn_app (goodIn_of _ (by decide +kernel)) ggX7_outOn_X7_night
set_option maxRecDepth 20000 in
theorem ggX7_outOn_X7_stock : GoodIn wsX7_outOn wsX7_stock := goodIn_r _ [54, 1, 55, 56, 57, 4, 58, 83, 84, 85, 86, 87, 88, 89, 90, 91, 92, 93, 94, 95, 96] (by decide +kernel) (by decide +kernel)
set_option maxRecDepth 20000 in
theorem gX7_outOn_X7_stock : GoodIn wsX7_outOn (wsV RX7 72 RX7 yX7_stock wsX7_stock) := goodIn_app (goodIn_of _ (by decide +kernel)) ggX7_outOn_X7_stock
set_option maxRecDepth 20000 in
theorem ggX7_outOn_X7_returns : GoodIn wsX7_outOn wsX7_returns := goodIn_r _ [82, 1, 10, 83, 84, 85, 86, 87, 88, 89, 90, 91, 92, 93, 94, 95, 96] (by decide +kernel) (by decide +kernel)
set_option maxRecDepth 20000 in
theorem gX7_outOn_X7_returns : GoodIn wsX7_outOn (wsV RX7 31 RX7 yX7_returns wsX7_returns) := goodIn_app (goodIn_of _ (by decide +kernel)) ggX7_outOn_X7_returns
theorem dX7_outOn_0 : decode cX7_outOn 0 = .ok (.iload_n 1, 1) := by decide +kernel
theorem dX7_outOn_1 : decode cX7_outOn 1 = .ok (.iconst 0, 1) := by decide +kernel
theorem dX7_outOn_2 : decode cX7_outOn 2 = .ok (.iconst 2, 1) := by decide +kernel
theorem dX7_outOn_3 : decode cX7_outOn 3 = .ok (.invokestatic 50, 3) := by decide +kernel
theorem dX7_outOn_6 : decode cX7_outOn 6 = .ok (.ifCond .ne 5, 3) := by decide +kernel
theorem dX7_outOn_9 : decode cX7_outOn 9 = .ok (.iconst (-1), 1) := by decide +kernel
theorem dX7_outOn_10 : decode cX7_outOn 10 = .ok (.ireturn, 1) := by decide +kernel
theorem dX7_outOn_11 : decode cX7_outOn 11 = .ok (.aload_n 0, 1) := by decide +kernel
theorem dX7_outOn_12 : decode cX7_outOn 12 = .ok (.invokevirtual 119, 3) := by decide +kernel
theorem dX7_outOn_15 : decode cX7_outOn 15 = .ok (.bipush (-4), 2) := by decide +kernel
theorem dX7_outOn_17 : decode cX7_outOn 17 = .ok (.istore_n 2, 1) := by decide +kernel
theorem dX7_outOn_18 : decode cX7_outOn 18 = .ok (.iload_n 2, 1) := by decide +kernel
theorem dX7_outOn_19 : decode cX7_outOn 19 = .ok (.ifCond .ge 39, 3) := by decide +kernel
theorem dX7_outOn_22 : decode cX7_outOn 22 = .ok (.aload_n 0, 1) := by decide +kernel
theorem dX7_outOn_23 : decode cX7_outOn 23 = .ok (.invokevirtual 96, 3) := by decide +kernel
theorem dX7_outOn_26 : decode cX7_outOn 26 = .ok (.ifCond .eq 32, 3) := by decide +kernel
theorem dX7_outOn_29 : decode cX7_outOn 29 = .ok (.aload_n 0, 1) := by decide +kernel
theorem dX7_outOn_30 : decode cX7_outOn 30 = .ok (.invokevirtual 100, 3) := by decide +kernel
theorem dX7_outOn_33 : decode cX7_outOn 33 = .ok (.aload_n 0, 1) := by decide +kernel
theorem dX7_outOn_34 : decode cX7_outOn 34 = .ok (.iload_n 1, 1) := by decide +kernel
theorem dX7_outOn_35 : decode cX7_outOn 35 = .ok (.invokevirtual 72, 3) := by decide +kernel
theorem dX7_outOn_38 : decode cX7_outOn 38 = .ok (.ifCond .ne 14, 3) := by decide +kernel
theorem dX7_outOn_41 : decode cX7_outOn 41 = .ok (.aload_n 0, 1) := by decide +kernel
theorem dX7_outOn_42 : decode cX7_outOn 42 = .ok (.getfield 7, 3) := by decide +kernel
theorem dX7_outOn_45 : decode cX7_outOn 45 = .ok (.iconst 0, 1) := by decide +kernel
theorem dX7_outOn_46 : decode cX7_outOn 46 = .ok (.iaload, 1) := by decide +kernel
theorem dX7_outOn_47 : decode cX7_outOn 47 = .ok (.iconst 1, 1) := by decide +kernel
theorem dX7_outOn_48 : decode cX7_outOn 48 = .ok (.isub, 1) := by decide +kernel
theorem dX7_outOn_49 : decode cX7_outOn 49 = .ok (.goto 5, 3) := by decide +kernel
theorem dX7_outOn_52 : decode cX7_outOn 52 = .ok (.bipush (-4), 2) := by decide +kernel
theorem dX7_outOn_54 : decode cX7_outOn 54 = .ok (.istore_n 2, 1) := by decide +kernel
theorem dX7_outOn_55 : decode cX7_outOn 55 = .ok (.goto (-37), 3) := by decide +kernel
theorem dX7_outOn_58 : decode cX7_outOn 58 = .ok (.aload_n 0, 1) := by decide +kernel
theorem dX7_outOn_59 : decode cX7_outOn 59 = .ok (.invokevirtual 31, 3) := by decide +kernel
theorem dX7_outOn_62 : decode cX7_outOn 62 = .ok (.iload_n 2, 1) := by decide +kernel
theorem dX7_outOn_63 : decode cX7_outOn 63 = .ok (.ireturn, 1) := by decide +kernel
set_option maxRecDepth 20000 in
theorem ggX7_most_X7_isStay : GoodIn wsX7_most wsX7_isStay := goodIn_r _ [6, 1, 7, 8, 5, 9, 87, 88, 89, 90, 91, 92, 93, 94, 95, 96, 97, 98, 99, 100] (by decide +kernel) (by decide +kernel)
set_option maxRecDepth 20000 in
theorem gX7_most_X7_isStay : GoodIn wsX7_most (wsV RX7 106 RX7 yX7_isStay wsX7_isStay) := goodIn_app (goodIn_of _ (by decide +kernel)) ggX7_most_X7_isStay
set_option maxRecDepth 20000 in
theorem ggX7_most_X7_isTaken : GoodIn wsX7_most wsX7_isTaken := goodIn_r _ [13, 14, 1, 15, 16, 17, 5, 18, 19, 20, 21, 22, 23, 24, 25, 26, 27, 28, 29, 30, 31, 32, 33, 34, 35, 36, 37, 38, 39, 40, 41, 42, 43, 44, 45, 46, 47, 48, 49, 50, 51, 52, 53, 54, 55, 56, 57, 58, 59, 60, 61, 62, 63, 64, 65, 66, 67, 68, 69, 70, 71, 72, 73, 74, 75, 76, 77, 78, 79, 80, 81, 82, 83, 84, 85, 86, 87, 88, 89, 90, 91, 92, 93, 94, 95, 96, 97, 98, 99, 100] (by decide +kernel) (by decide +kernel)
set_option maxRecDepth 20000 in
theorem gX7_most_X7_isTaken : GoodIn wsX7_most (wsV RX7 110 RX7 yX7_isTaken wsX7_isTaken) := goodIn_app (goodIn_of _ (by decide +kernel)) ggX7_most_X7_isTaken
theorem dX7_most_0 : decode cX7_most 0 = .ok (.aload_n 0, 1) := by decide +kernel
theorem dX7_most_1 : decode cX7_most 1 = .ok (.iload_n 1, 1) := by decide +kernel
theorem dX7_most_2 : decode cX7_most 2 = .ok (.iload_n 2, 1) := by decide +kernel
theorem dX7_most_3 : decode cX7_most 3 = .ok (.invokevirtual 106, 3) := by decide +kernel
theorem dX7_most_6 : decode cX7_most 6 = .ok (.ifCond .ne 5, 3) := by decide +kernel
theorem dX7_most_9 : decode cX7_most 9 = .ok (.iconst (-1), 1) := by decide +kernel
theorem dX7_most_10 : decode cX7_most 10 = .ok (.ireturn, 1) := by decide +kernel
theorem dX7_most_11 : decode cX7_most 11 = .ok (.aload_n 0, 1) := by decide +kernel
theorem dX7_most_12 : decode cX7_most 12 = .ok (.getfield 7, 3) := by decide +kernel
theorem dX7_most_15 : decode cX7_most 15 = .ok (.iconst 4, 1) := by decide +kernel
theorem dX7_most_16 : decode cX7_most 16 = .ok (.iaload, 1) := by decide +kernel
theorem dX7_most_17 : decode cX7_most 17 = .ok (.bipush 16, 2) := by decide +kernel
theorem dX7_most_19 : decode cX7_most 19 = .ok (.if_icmp .ne 6, 3) := by decide +kernel
theorem dX7_most_22 : decode cX7_most 22 = .ok (.bipush (-3), 2) := by decide +kernel
theorem dX7_most_24 : decode cX7_most 24 = .ok (.ireturn, 1) := by decide +kernel
theorem dX7_most_25 : decode cX7_most 25 = .ok (.bipush 6, 2) := by decide +kernel
theorem dX7_most_27 : decode cX7_most 27 = .ok (.istore_n 3, 1) := by decide +kernel
theorem dX7_most_28 : decode cX7_most 28 = .ok (.iload_n 3, 1) := by decide +kernel
theorem dX7_most_29 : decode cX7_most 29 = .ok (.ifCond .le 19, 3) := by decide +kernel
theorem dX7_most_32 : decode cX7_most 32 = .ok (.aload_n 0, 1) := by decide +kernel
theorem dX7_most_33 : decode cX7_most 33 = .ok (.iload_n 3, 1) := by decide +kernel
theorem dX7_most_34 : decode cX7_most 34 = .ok (.iload_n 1, 1) := by decide +kernel
theorem dX7_most_35 : decode cX7_most 35 = .ok (.iload_n 2, 1) := by decide +kernel
theorem dX7_most_36 : decode cX7_most 36 = .ok (.invokevirtual 110, 3) := by decide +kernel
theorem dX7_most_39 : decode cX7_most 39 = .ok (.ifCond .ne 9, 3) := by decide +kernel
theorem dX7_most_42 : decode cX7_most 42 = .ok (.iinc 3 (-1), 3) := by decide +kernel
theorem dX7_most_45 : decode cX7_most 45 = .ok (.goto (-17), 3) := by decide +kernel
theorem dX7_most_48 : decode cX7_most 48 = .ok (.iload_n 3, 1) := by decide +kernel
theorem dX7_most_49 : decode cX7_most 49 = .ok (.ireturn, 1) := by decide +kernel
theorem dX7_keep_0 : decode cX7_keep 0 = .ok (.iconst 0, 1) := by decide +kernel
theorem dX7_keep_1 : decode cX7_keep 1 = .ok (.istore_n 1, 1) := by decide +kernel
theorem dX7_keep_2 : decode cX7_keep 2 = .ok (.iload_n 1, 1) := by decide +kernel
theorem dX7_keep_3 : decode cX7_keep 3 = .ok (.sipush 599, 3) := by decide +kernel
theorem dX7_keep_6 : decode cX7_keep 6 = .ok (.if_icmp .ge 21, 3) := by decide +kernel
theorem dX7_keep_9 : decode cX7_keep 9 = .ok (.aload_n 0, 1) := by decide +kernel
theorem dX7_keep_10 : decode cX7_keep 10 = .ok (.getfield 16, 3) := by decide +kernel
theorem dX7_keep_13 : decode cX7_keep 13 = .ok (.iload_n 1, 1) := by decide +kernel
theorem dX7_keep_14 : decode cX7_keep 14 = .ok (.aload_n 0, 1) := by decide +kernel
theorem dX7_keep_15 : decode cX7_keep 15 = .ok (.getfield 7, 3) := by decide +kernel
theorem dX7_keep_18 : decode cX7_keep 18 = .ok (.iload_n 1, 1) := by decide +kernel
theorem dX7_keep_19 : decode cX7_keep 19 = .ok (.iaload, 1) := by decide +kernel
theorem dX7_keep_20 : decode cX7_keep 20 = .ok (.iastore, 1) := by decide +kernel
theorem dX7_keep_21 : decode cX7_keep 21 = .ok (.iinc 1 1, 3) := by decide +kernel
theorem dX7_keep_24 : decode cX7_keep 24 = .ok (.goto (-22), 3) := by decide +kernel
theorem dX7_keep_27 : decode cX7_keep 27 = .ok (.aload_n 0, 1) := by decide +kernel
theorem dX7_keep_28 : decode cX7_keep 28 = .ok (.iconst 1, 1) := by decide +kernel
theorem dX7_keep_29 : decode cX7_keep 29 = .ok (.putfield 156, 3) := by decide +kernel
theorem dX7_keep_32 : decode cX7_keep 32 = .ok (.aload_n 0, 1) := by decide +kernel
theorem dX7_keep_33 : decode cX7_keep 33 = .ok (.getfield 7, 3) := by decide +kernel
theorem dX7_keep_36 : decode cX7_keep 36 = .ok (.iconst 0, 1) := by decide +kernel
theorem dX7_keep_37 : decode cX7_keep 37 = .ok (.iaload, 1) := by decide +kernel
theorem dX7_keep_38 : decode cX7_keep 38 = .ok (.ireturn, 1) := by decide +kernel
set_option maxRecDepth 20000 in
theorem ggX7_restore_X7_begins : GoodIn wsX7_restore wsX7_begins := goodIn_r _ [8, 9, 2, 20, 21, 22, 23, 24, 25, 26, 27, 28, 29, 30, 31, 32, 33] (by decide +kernel) (by decide +kernel)
set_option maxRecDepth 20000 in
theorem gX7_restore_X7_begins : GoodIn wsX7_restore (wsV RX7 119 RX7 yX7_begins wsX7_begins) := goodIn_app (goodIn_of _ (by decide +kernel)) ggX7_restore_X7_begins
set_option maxRecDepth 20000 in
theorem ggX7_restore_X7_acted : GoodIn wsX7_restore wsX7_acted := goodIn_r _ [13, 14, 15, 9, 16, 17, 18, 7, 19, 2, 20, 21, 22, 23, 24, 25, 26, 27, 28, 29, 30, 31, 32, 33] (by decide +kernel) (by decide +kernel)
set_option maxRecDepth 20000 in
theorem gX7_restore_X7_acted : GoodIn wsX7_restore (wsV RX7 126 RX7 yX7_acted wsX7_acted) := goodIn_app (goodIn_of _ (by decide +kernel)) ggX7_restore_X7_acted
theorem dX7_restore_0 : decode cX7_restore 0 = .ok (.aload_n 0, 1) := by decide +kernel
theorem dX7_restore_1 : decode cX7_restore 1 = .ok (.invokevirtual 119, 3) := by decide +kernel
theorem dX7_restore_4 : decode cX7_restore 4 = .ok (.aload_n 0, 1) := by decide +kernel
theorem dX7_restore_5 : decode cX7_restore 5 = .ok (.getfield 156, 3) := by decide +kernel
theorem dX7_restore_8 : decode cX7_restore 8 = .ok (.ifCond .ne 6, 3) := by decide +kernel
theorem dX7_restore_11 : decode cX7_restore 11 = .ok (.bipush (-2), 2) := by decide +kernel
theorem dX7_restore_13 : decode cX7_restore 13 = .ok (.ireturn, 1) := by decide +kernel
theorem dX7_restore_14 : decode cX7_restore 14 = .ok (.iconst 0, 1) := by decide +kernel
