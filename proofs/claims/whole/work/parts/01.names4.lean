theorem dX6_init_0 : decode cX6_init 0 = .ok (.aload_n 0, 1) := by decide +kernel
theorem dX6_init_1 : decode cX6_init 1 = .ok (.invokespecial 1, 3) := by decide +kernel
theorem dX6_init_4 : decode cX6_init 4 = .ok (.aload_n 0, 1) := by decide +kernel
theorem dX6_init_5 : decode cX6_init 5 = .ok (.new 7, 3) := by decide +kernel
theorem dX6_init_8 : decode cX6_init 8 = .ok (.dup, 1) := by decide +kernel
theorem dX6_init_9 : decode cX6_init 9 = .ok (.invokespecial 9, 3) := by decide +kernel
theorem dX6_init_12 : decode cX6_init 12 = .ok (.putfield 10, 3) := by decide +kernel
theorem dX6_init_15 : decode cX6_init 15 = .ok (.aload_n 0, 1) := by decide +kernel
theorem dX6_init_16 : decode cX6_init 16 = .ok (.new 7, 3) := by decide +kernel
theorem dX6_init_19 : decode cX6_init 19 = .ok (.dup, 1) := by decide +kernel
theorem dX6_init_20 : decode cX6_init 20 = .ok (.invokespecial 9, 3) := by decide +kernel
theorem dX6_init_23 : decode cX6_init 23 = .ok (.putfield 16, 3) := by decide +kernel
theorem dX6_init_26 : decode cX6_init 26 = .ok (.aload_n 0, 1) := by decide +kernel
theorem dX6_init_27 : decode cX6_init 27 = .ok (.new 7, 3) := by decide +kernel
theorem dX6_init_30 : decode cX6_init 30 = .ok (.dup, 1) := by decide +kernel
theorem dX6_init_31 : decode cX6_init 31 = .ok (.invokespecial 9, 3) := by decide +kernel
theorem dX6_init_34 : decode cX6_init 34 = .ok (.putfield 19, 3) := by decide +kernel
theorem dX6_init_37 : decode cX6_init 37 = .ok (.aload_n 0, 1) := by decide +kernel
theorem dX6_init_38 : decode cX6_init 38 = .ok (.new 22, 3) := by decide +kernel
theorem dX6_init_41 : decode cX6_init 41 = .ok (.dup, 1) := by decide +kernel
theorem dX6_init_42 : decode cX6_init 42 = .ok (.invokespecial 24, 3) := by decide +kernel
theorem dX6_init_45 : decode cX6_init 45 = .ok (.putfield 25, 3) := by decide +kernel
theorem dX6_init_48 : decode cX6_init 48 = .ok (.aload_n 0, 1) := by decide +kernel
theorem dX6_init_49 : decode cX6_init 49 = .ok (.new 29, 3) := by decide +kernel
theorem dX6_init_52 : decode cX6_init 52 = .ok (.dup, 1) := by decide +kernel
theorem dX6_init_53 : decode cX6_init 53 = .ok (.invokespecial 31, 3) := by decide +kernel
theorem dX6_init_56 : decode cX6_init 56 = .ok (.putfield 32, 3) := by decide +kernel
theorem dX6_init_59 : decode cX6_init 59 = .ok (.aload_n 0, 1) := by decide +kernel
theorem dX6_init_60 : decode cX6_init 60 = .ok (.new 36, 3) := by decide +kernel
theorem dX6_init_63 : decode cX6_init 63 = .ok (.dup, 1) := by decide +kernel
theorem dX6_init_64 : decode cX6_init 64 = .ok (.aload_n 0, 1) := by decide +kernel
theorem dX6_init_65 : decode cX6_init 65 = .ok (.getfield 16, 3) := by decide +kernel
theorem dX6_init_68 : decode cX6_init 68 = .ok (.invokespecial 38, 3) := by decide +kernel
theorem dX6_init_71 : decode cX6_init 71 = .ok (.putfield 41, 3) := by decide +kernel
theorem dX6_init_74 : decode cX6_init 74 = .ok (.aload_n 0, 1) := by decide +kernel
theorem dX6_init_75 : decode cX6_init 75 = .ok (.iconst 0, 1) := by decide +kernel
theorem dX6_init_76 : decode cX6_init 76 = .ok (.putfield 45, 3) := by decide +kernel
theorem dX6_init_79 : decode cX6_init 79 = .ok (.return_, 1) := by decide +kernel
set_option maxRecDepth 20000 in
theorem ggX6_load_X0_prepare : GoodIn wsX6_load wsX0_prepare := goodIn_r _ [7, 8, 9, 10, 11, 12, 13, 14, 15, 16, 17, 18, 19, 20, 21, 22, 23, 24, 25, 26, 27, 28, 29, 30, 31, 32, 33, 34, 35, 36, 37, 38, 39, 40, 41, 42, 43, 44, 45, 46, 47, 48, 49, 50, 51, 52, 53, 54, 55, 56, 57, 58, 87, 88, 89, 90, 91, 92, 93, 94, 95, 96, 97, 98, 99, 100, 101, 102, 103, 104, 105, 106, 107, 108, 109, 110, 111, 112, 113, 114, 115, 116] (by decide +kernel) (by decide +kernel)
set_option maxRecDepth 20000 in
theorem gX6_load_X0_prepare : GoodIn wsX6_load (wsV RX6 49 RX0 yX0_prepare wsX0_prepare) := goodIn_app (goodIn_of _ (by decide +kernel)) ggX6_load_X0_prepare
set_option maxRecDepth 20000 in
theorem ggX6_load_X1_putOnPallet : GoodIn wsX6_load wsX1_putOnPallet := goodIn_r _ [62, 15, 63, 64, 65, 32, 66, 67, 68, 69, 70, 45, 38, 39, 40, 89, 90, 91, 92, 93, 94, 95, 96, 97, 98, 99, 100, 101, 102, 103, 104, 105, 106, 107, 108, 109] (by decide +kernel) (by decide +kernel)
set_option maxRecDepth 20000 in
theorem gX6_load_X1_putOnPallet : GoodIn wsX6_load (wsV RX6 52 RX1 yX1_putOnPallet wsX1_putOnPallet) := goodIn_app (goodIn_of _ (by decide +kernel)) ggX6_load_X1_putOnPallet
set_option maxRecDepth 20000 in
theorem ggX6_load_X6_recorded : GoodIn wsX6_load wsX6_recorded := goodIn_r _ [75, 1, 76, 77, 78, 6, 79, 8, 9, 80, 81, 82, 83, 84, 85, 86, 87, 88] (by decide +kernel) (by decide +kernel)
set_option maxRecDepth 20000 in
theorem gX6_load_X6_recorded : GoodIn wsX6_load (wsV RX6 56 RX6 yX6_recorded wsX6_recorded) := goodIn_app (goodIn_of _ (by decide +kernel)) ggX6_load_X6_recorded
theorem dX6_load_0 : decode cX6_load 0 = .ok (.aload_n 0, 1) := by decide +kernel
theorem dX6_load_1 : decode cX6_load 1 = .ok (.getfield 25, 3) := by decide +kernel
theorem dX6_load_4 : decode cX6_load 4 = .ok (.aload_n 0, 1) := by decide +kernel
theorem dX6_load_5 : decode cX6_load 5 = .ok (.getfield 10, 3) := by decide +kernel
theorem dX6_load_8 : decode cX6_load 8 = .ok (.invokevirtual 49, 3) := by decide +kernel
theorem dX6_load_11 : decode cX6_load 11 = .ok (.aload_n 0, 1) := by decide +kernel
theorem dX6_load_12 : decode cX6_load 12 = .ok (.aload_n 0, 1) := by decide +kernel
theorem dX6_load_13 : decode cX6_load 13 = .ok (.getfield 10, 3) := by decide +kernel
theorem dX6_load_16 : decode cX6_load 16 = .ok (.iload_n 1, 1) := by decide +kernel
theorem dX6_load_17 : decode cX6_load 17 = .ok (.iload_n 2, 1) := by decide +kernel
theorem dX6_load_18 : decode cX6_load 18 = .ok (.iload_n 3, 1) := by decide +kernel
theorem dX6_load_19 : decode cX6_load 19 = .ok (.invokevirtual 52, 3) := by decide +kernel
theorem dX6_load_22 : decode cX6_load 22 = .ok (.invokevirtual 56, 3) := by decide +kernel
theorem dX6_load_25 : decode cX6_load 25 = .ok (.ireturn, 1) := by decide +kernel
set_option maxRecDepth 20000 in
theorem ggX6_fly_X0_prepare : GoodIn wsX6_fly wsX0_prepare := goodIn_r _ [7, 8, 9, 10, 11, 12, 13, 14, 15, 16, 17, 18, 19, 20, 21, 22, 23, 24, 25, 26, 27, 28, 29, 30, 31, 32, 33, 34, 35, 36, 37, 38, 39, 40, 41, 42, 43, 44, 45, 46, 47, 48, 49, 50, 51, 52, 53, 54, 55, 56, 57, 58, 96, 97, 98, 99, 100, 101, 102, 103, 104, 105, 106, 107, 108, 109, 110, 111, 112, 113, 114, 115, 116, 117, 118, 119, 120, 121, 122, 123, 124, 125] (by decide +kernel) (by decide +kernel)
set_option maxRecDepth 20000 in
theorem gX6_fly_X0_prepare : GoodIn wsX6_fly (wsV RX6 49 RX0 yX0_prepare wsX0_prepare) := goodIn_app (goodIn_of _ (by decide +kernel)) ggX6_fly_X0_prepare
set_option maxRecDepth 20000 in
theorem ggX6_fly_X1_bringPallet : GoodIn wsX6_fly wsX1_bringPallet := goodIn_r _ [62, 15, 63, 24, 22, 64, 23, 65, 66, 67, 13, 68, 17, 69, 70, 71, 32, 72, 45, 38, 39, 40, 73, 74, 75, 76, 44, 37, 34, 36, 41, 77, 78, 79, 98, 99, 100, 101, 102, 103, 104, 105, 106, 107, 108, 109, 110, 111, 112, 113, 114, 115, 116, 117, 118] (by decide +kernel) (by decide +kernel)
set_option maxRecDepth 20000 in
theorem gX6_fly_X1_bringPallet : GoodIn wsX6_fly (wsV RX6 60 RX1 yX1_bringPallet wsX1_bringPallet) := goodIn_app (goodIn_of _ (by decide +kernel)) ggX6_fly_X1_bringPallet
set_option maxRecDepth 20000 in
theorem ggX6_fly_X6_recorded : GoodIn wsX6_fly wsX6_recorded := goodIn_r _ [84, 1, 85, 86, 87, 6, 88, 8, 9, 89, 90, 91, 92, 93, 94, 95, 96, 97] (by decide +kernel) (by decide +kernel)
set_option maxRecDepth 20000 in
theorem gX6_fly_X6_recorded : GoodIn wsX6_fly (wsV RX6 56 RX6 yX6_recorded wsX6_recorded) := goodIn_app (goodIn_of _ (by decide +kernel)) ggX6_fly_X6_recorded
theorem dX6_fly_0 : decode cX6_fly 0 = .ok (.aload_n 0, 1) := by decide +kernel
theorem dX6_fly_1 : decode cX6_fly 1 = .ok (.getfield 25, 3) := by decide +kernel
theorem dX6_fly_4 : decode cX6_fly 4 = .ok (.aload_n 0, 1) := by decide +kernel
theorem dX6_fly_5 : decode cX6_fly 5 = .ok (.getfield 10, 3) := by decide +kernel
theorem dX6_fly_8 : decode cX6_fly 8 = .ok (.invokevirtual 49, 3) := by decide +kernel
theorem dX6_fly_11 : decode cX6_fly 11 = .ok (.aload_n 0, 1) := by decide +kernel
theorem dX6_fly_12 : decode cX6_fly 12 = .ok (.aload_n 0, 1) := by decide +kernel
theorem dX6_fly_13 : decode cX6_fly 13 = .ok (.getfield 10, 3) := by decide +kernel
theorem dX6_fly_16 : decode cX6_fly 16 = .ok (.invokevirtual 60, 3) := by decide +kernel
theorem dX6_fly_19 : decode cX6_fly 19 = .ok (.invokevirtual 56, 3) := by decide +kernel
theorem dX6_fly_22 : decode cX6_fly 22 = .ok (.ireturn, 1) := by decide +kernel
set_option maxRecDepth 20000 in
theorem ggX6_book_X0_prepare : GoodIn wsX6_book wsX0_prepare := goodIn_r _ [8, 9, 10, 11, 12, 13, 14, 15, 16, 17, 18, 19, 20, 21, 22, 23, 24, 25, 26, 27, 28, 29, 30, 31, 32, 33, 34, 35, 36, 37, 38, 39, 40, 41, 42, 43, 44, 45, 46, 47, 48, 49, 50, 51, 52, 53, 54, 55, 56, 57, 58, 59, 150, 151, 152, 153, 154, 155, 156, 157, 158, 159, 160, 161, 162, 163, 164, 165, 166, 167, 168, 169, 170, 171, 172, 173, 174, 175, 176, 177, 178, 179] (by decide +kernel) (by decide +kernel)
set_option maxRecDepth 20000 in
theorem gX6_book_X0_prepare : GoodIn wsX6_book (wsV RX6 49 RX0 yX0_prepare wsX0_prepare) := goodIn_app (goodIn_of _ (by decide +kernel)) ggX6_book_X0_prepare
set_option maxRecDepth 20000 in
theorem ggX6_book_X1_takeBooking : GoodIn wsX6_book wsX1_takeBooking := goodIn_r _ [63, 17, 64, 65, 66, 67, 14, 68, 24, 69, 70, 71, 72, 73, 12, 13, 15, 16, 18, 19, 20, 21, 22, 23, 25, 26, 27, 28, 29, 30, 31, 32, 33, 34, 35, 36, 37, 38, 39, 40, 41, 42, 43, 44, 45, 46, 47, 48, 49, 50, 51, 52, 53, 54, 55, 56, 57, 58, 59, 74, 75, 76, 77, 78, 79, 80, 81, 82, 83, 84, 85, 86, 87, 88, 89, 90, 91, 92, 93, 94, 95, 96, 97, 98, 99, 100, 101, 102, 103, 104, 105, 106, 107, 108, 109, 110, 111, 112, 113, 114, 115, 116, 117, 118, 119, 120, 121, 122, 123, 124, 125, 126, 127, 128, 129, 130, 131, 132, 133, 152, 153, 154, 155, 156, 157, 158, 159, 160, 161, 173, 174, 175, 176, 177, 178, 179, 162, 163, 164, 165, 166, 167, 168, 169, 170, 171, 172] (by decide +kernel) (by decide +kernel)
set_option maxRecDepth 20000 in
theorem gX6_book_X1_takeBooking : GoodIn wsX6_book (wsV RX6 64 RX1 yX1_takeBooking wsX1_takeBooking) := goodIn_app (goodIn_of _ (by decide +kernel)) ggX6_book_X1_takeBooking
set_option maxRecDepth 20000 in
theorem ggX6_book_X6_recorded : GoodIn wsX6_book wsX6_recorded := goodIn_r _ [138, 1, 139, 140, 141, 7, 142, 9, 10, 143, 144, 145, 146, 147, 148, 149, 150, 151] (by decide +kernel) (by decide +kernel)
set_option maxRecDepth 20000 in
theorem gX6_book_X6_recorded : GoodIn wsX6_book (wsV RX6 56 RX6 yX6_recorded wsX6_recorded) := goodIn_app (goodIn_of _ (by decide +kernel)) ggX6_book_X6_recorded
theorem dX6_book_0 : decode cX6_book 0 = .ok (.aload_n 0, 1) := by decide +kernel
theorem dX6_book_1 : decode cX6_book 1 = .ok (.getfield 25, 3) := by decide +kernel
theorem dX6_book_4 : decode cX6_book 4 = .ok (.aload_n 0, 1) := by decide +kernel
theorem dX6_book_5 : decode cX6_book 5 = .ok (.getfield 10, 3) := by decide +kernel
theorem dX6_book_8 : decode cX6_book 8 = .ok (.invokevirtual 49, 3) := by decide +kernel
theorem dX6_book_11 : decode cX6_book 11 = .ok (.aload_n 0, 1) := by decide +kernel
theorem dX6_book_12 : decode cX6_book 12 = .ok (.aload_n 0, 1) := by decide +kernel
theorem dX6_book_13 : decode cX6_book 13 = .ok (.getfield 10, 3) := by decide +kernel
theorem dX6_book_16 : decode cX6_book 16 = .ok (.iload_n 1, 1) := by decide +kernel
theorem dX6_book_17 : decode cX6_book 17 = .ok (.iload_n 2, 1) := by decide +kernel
theorem dX6_book_18 : decode cX6_book 18 = .ok (.iload_n 3, 1) := by decide +kernel
theorem dX6_book_19 : decode cX6_book 19 = .ok (.aload_n 0, 1) := by decide +kernel
theorem dX6_book_20 : decode cX6_book 20 = .ok (.getfield 16, 3) := by decide +kernel
theorem dX6_book_23 : decode cX6_book 23 = .ok (.invokevirtual 64, 3) := by decide +kernel
theorem dX6_book_26 : decode cX6_book 26 = .ok (.invokevirtual 56, 3) := by decide +kernel
theorem dX6_book_29 : decode cX6_book 29 = .ok (.ireturn, 1) := by decide +kernel
set_option maxRecDepth 20000 in
theorem ggX6_cancel_X0_prepare : GoodIn wsX6_cancel wsX0_prepare := goodIn_r _ [7, 8, 9, 10, 11, 12, 13, 14, 15, 16, 17, 18, 19, 20, 21, 22, 23, 24, 25, 26, 27, 28, 29, 30, 31, 32, 33, 34, 35, 36, 37, 38, 39, 40, 41, 42, 43, 44, 45, 46, 47, 48, 49, 50, 51, 52, 53, 54, 55, 56, 57, 58, 88, 89, 90, 91, 92, 93, 94, 95, 96, 97, 98, 99, 100, 101, 102, 103, 104, 105, 106, 107, 108, 109, 110, 111, 112, 113, 114, 115, 116, 117] (by decide +kernel) (by decide +kernel)
set_option maxRecDepth 20000 in
theorem gX6_cancel_X0_prepare : GoodIn wsX6_cancel (wsV RX6 49 RX0 yX0_prepare wsX0_prepare) := goodIn_app (goodIn_of _ (by decide +kernel)) ggX6_cancel_X0_prepare
set_option maxRecDepth 20000 in
theorem ggX6_cancel_X1_callOff : GoodIn wsX6_cancel wsX1_callOff := goodIn_r _ [62, 16, 63, 64, 65, 66, 49, 67, 58, 68, 69, 70, 71, 55, 90, 91, 92, 93, 94, 95, 96, 97, 98, 99, 111, 112, 113, 114, 115, 116, 117] (by decide +kernel) (by decide +kernel)
set_option maxRecDepth 20000 in
theorem gX6_cancel_X1_callOff : GoodIn wsX6_cancel (wsV RX6 68 RX1 yX1_callOff wsX1_callOff) := goodIn_app (goodIn_of _ (by decide +kernel)) ggX6_cancel_X1_callOff
set_option maxRecDepth 20000 in
theorem ggX6_cancel_X6_recorded : GoodIn wsX6_cancel wsX6_recorded := goodIn_r _ [76, 1, 77, 78, 79, 6, 80, 8, 9, 81, 82, 83, 84, 85, 86, 87, 88, 89] (by decide +kernel) (by decide +kernel)
set_option maxRecDepth 20000 in
theorem gX6_cancel_X6_recorded : GoodIn wsX6_cancel (wsV RX6 56 RX6 yX6_recorded wsX6_recorded) := goodIn_app (goodIn_of _ (by decide +kernel)) ggX6_cancel_X6_recorded
theorem dX6_cancel_0 : decode cX6_cancel 0 = .ok (.aload_n 0, 1) := by decide +kernel
theorem dX6_cancel_1 : decode cX6_cancel 1 = .ok (.getfield 25, 3) := by decide +kernel
theorem dX6_cancel_4 : decode cX6_cancel 4 = .ok (.aload_n 0, 1) := by decide +kernel
theorem dX6_cancel_5 : decode cX6_cancel 5 = .ok (.getfield 10, 3) := by decide +kernel
theorem dX6_cancel_8 : decode cX6_cancel 8 = .ok (.invokevirtual 49, 3) := by decide +kernel
theorem dX6_cancel_11 : decode cX6_cancel 11 = .ok (.aload_n 0, 1) := by decide +kernel
theorem dX6_cancel_12 : decode cX6_cancel 12 = .ok (.aload_n 0, 1) := by decide +kernel
theorem dX6_cancel_13 : decode cX6_cancel 13 = .ok (.getfield 10, 3) := by decide +kernel
theorem dX6_cancel_16 : decode cX6_cancel 16 = .ok (.iload_n 1, 1) := by decide +kernel
theorem dX6_cancel_17 : decode cX6_cancel 17 = .ok (.invokevirtual 68, 3) := by decide +kernel
theorem dX6_cancel_20 : decode cX6_cancel 20 = .ok (.invokevirtual 56, 3) := by decide +kernel
theorem dX6_cancel_23 : decode cX6_cancel 23 = .ok (.ireturn, 1) := by decide +kernel
set_option maxRecDepth 20000 in
theorem ggX6_storm_X0_prepare : GoodIn wsX6_storm wsX0_prepare := goodIn_r _ [7, 8, 9, 10, 11, 12, 13, 14, 15, 16, 17, 18, 19, 20, 21, 22, 23, 24, 25, 26, 27, 28, 29, 30, 31, 32, 33, 34, 35, 36, 37, 38, 39, 40, 41, 42, 43, 44, 45, 46, 47, 48, 49, 50, 51, 52, 53, 54, 55, 56, 57, 58, 79, 80, 81, 82, 83, 84, 85, 86, 87, 88, 89, 90, 91, 92, 93, 94, 95, 96, 97, 98, 99, 100, 101, 102, 103, 104, 105, 106, 107, 108] (by decide +kernel) (by decide +kernel)
set_option maxRecDepth 20000 in
theorem gX6_storm_X0_prepare : GoodIn wsX6_storm (wsV RX6 49 RX0 yX0_prepare wsX0_prepare) := goodIn_app (goodIn_of _ (by decide +kernel)) ggX6_storm_X0_prepare
set_option maxRecDepth 20000 in
theorem ggX6_storm_X1_tellStorm : GoodIn wsX6_storm wsX1_tellStorm := goodIn_r _ [62, 23, 17, 81, 82, 83, 84, 85, 86, 87, 88, 89, 90] (by decide +kernel) (by decide +kernel)
set_option maxRecDepth 20000 in
theorem gX6_storm_X1_tellStorm : GoodIn wsX6_storm (wsV RX6 71 RX1 yX1_tellStorm wsX1_tellStorm) := goodIn_app (goodIn_of _ (by decide +kernel)) ggX6_storm_X1_tellStorm
set_option maxRecDepth 20000 in
theorem ggX6_storm_X6_recorded : GoodIn wsX6_storm wsX6_recorded := goodIn_r _ [67, 1, 68, 69, 70, 6, 71, 8, 9, 72, 73, 74, 75, 76, 77, 78, 79, 80] (by decide +kernel) (by decide +kernel)
set_option maxRecDepth 20000 in
theorem gX6_storm_X6_recorded : GoodIn wsX6_storm (wsV RX6 56 RX6 yX6_recorded wsX6_recorded) := goodIn_app (goodIn_of _ (by decide +kernel)) ggX6_storm_X6_recorded
theorem dX6_storm_0 : decode cX6_storm 0 = .ok (.aload_n 0, 1) := by decide +kernel
theorem dX6_storm_1 : decode cX6_storm 1 = .ok (.getfield 25, 3) := by decide +kernel
theorem dX6_storm_4 : decode cX6_storm 4 = .ok (.aload_n 0, 1) := by decide +kernel
theorem dX6_storm_5 : decode cX6_storm 5 = .ok (.getfield 10, 3) := by decide +kernel
theorem dX6_storm_8 : decode cX6_storm 8 = .ok (.invokevirtual 49, 3) := by decide +kernel
theorem dX6_storm_11 : decode cX6_storm 11 = .ok (.aload_n 0, 1) := by decide +kernel
theorem dX6_storm_12 : decode cX6_storm 12 = .ok (.aload_n 0, 1) := by decide +kernel
theorem dX6_storm_13 : decode cX6_storm 13 = .ok (.getfield 10, 3) := by decide +kernel
theorem dX6_storm_16 : decode cX6_storm 16 = .ok (.iload_n 1, 1) := by decide +kernel
theorem dX6_storm_17 : decode cX6_storm 17 = .ok (.iload_n 2, 1) := by decide +kernel
theorem dX6_storm_18 : decode cX6_storm 18 = .ok (.invokevirtual 71, 3) := by decide +kernel
theorem dX6_storm_21 : decode cX6_storm 21 = .ok (.invokevirtual 56, 3) := by decide +kernel
theorem dX6_storm_24 : decode cX6_storm 24 = .ok (.ireturn, 1) := by decide +kernel
set_option maxRecDepth 20000 in
theorem ggX6_clear_X0_prepare : GoodIn wsX6_clear wsX0_prepare := goodIn_r _ [7, 8, 9, 10, 11, 12, 13, 14, 15, 16, 17, 18, 19, 20, 21, 22, 23, 24, 25, 26, 27, 28, 29, 30, 31, 32, 33, 34, 35, 36, 37, 38, 39, 40, 41, 42, 43, 44, 45, 46, 47, 48, 49, 50, 51, 52, 53, 54, 55, 56, 57, 58, 79, 80, 81, 82, 83, 84, 85, 86, 87, 88, 89, 90, 91, 92, 93, 94, 95, 96, 97, 98, 99, 100, 101, 102, 103, 104, 105, 106, 107, 108] (by decide +kernel) (by decide +kernel)
set_option maxRecDepth 20000 in
theorem gX6_clear_X0_prepare : GoodIn wsX6_clear (wsV RX6 49 RX0 yX0_prepare wsX0_prepare) := goodIn_app (goodIn_of _ (by decide +kernel)) ggX6_clear_X0_prepare
set_option maxRecDepth 20000 in
theorem ggX6_clear_X1_tellCalm : GoodIn wsX6_clear wsX1_tellCalm := goodIn_r _ [62, 23, 17, 81, 82, 83, 84, 85, 86, 87, 88, 89, 90] (by decide +kernel) (by decide +kernel)
set_option maxRecDepth 20000 in
theorem gX6_clear_X1_tellCalm : GoodIn wsX6_clear (wsV RX6 75 RX1 yX1_tellCalm wsX1_tellCalm) := goodIn_app (goodIn_of _ (by decide +kernel)) ggX6_clear_X1_tellCalm
set_option maxRecDepth 20000 in
theorem ggX6_clear_X6_recorded : GoodIn wsX6_clear wsX6_recorded := goodIn_r _ [67, 1, 68, 69, 70, 6, 71, 8, 9, 72, 73, 74, 75, 76, 77, 78, 79, 80] (by decide +kernel) (by decide +kernel)
set_option maxRecDepth 20000 in
theorem gX6_clear_X6_recorded : GoodIn wsX6_clear (wsV RX6 56 RX6 yX6_recorded wsX6_recorded) := goodIn_app (goodIn_of _ (by decide +kernel)) ggX6_clear_X6_recorded
theorem dX6_clear_0 : decode cX6_clear 0 = .ok (.aload_n 0, 1) := by decide +kernel
theorem dX6_clear_1 : decode cX6_clear 1 = .ok (.getfield 25, 3) := by decide +kernel
theorem dX6_clear_4 : decode cX6_clear 4 = .ok (.aload_n 0, 1) := by decide +kernel
theorem dX6_clear_5 : decode cX6_clear 5 = .ok (.getfield 10, 3) := by decide +kernel
theorem dX6_clear_8 : decode cX6_clear 8 = .ok (.invokevirtual 49, 3) := by decide +kernel
theorem dX6_clear_11 : decode cX6_clear 11 = .ok (.aload_n 0, 1) := by decide +kernel
theorem dX6_clear_12 : decode cX6_clear 12 = .ok (.aload_n 0, 1) := by decide +kernel
theorem dX6_clear_13 : decode cX6_clear 13 = .ok (.getfield 10, 3) := by decide +kernel
theorem dX6_clear_16 : decode cX6_clear 16 = .ok (.iload_n 1, 1) := by decide +kernel
theorem dX6_clear_17 : decode cX6_clear 17 = .ok (.invokevirtual 75, 3) := by decide +kernel
theorem dX6_clear_20 : decode cX6_clear 20 = .ok (.invokevirtual 56, 3) := by decide +kernel
theorem dX6_clear_23 : decode cX6_clear 23 = .ok (.ireturn, 1) := by decide +kernel
set_option maxRecDepth 20000 in
theorem ggX6_sleep_X0_prepare : GoodIn wsX6_sleep wsX0_prepare := goodIn_r _ [7, 8, 9, 10, 11, 12, 13, 14, 15, 16, 17, 18, 19, 20, 21, 22, 23, 24, 25, 26, 27, 28, 29, 30, 31, 32, 33, 34, 35, 36, 37, 38, 39, 40, 41, 42, 43, 44, 45, 46, 47, 48, 49, 50, 51, 52, 53, 54, 55, 56, 57, 58, 131, 132, 133, 134, 135, 136, 137, 138, 139, 140, 141, 142, 143, 144, 145, 146, 147, 148, 149, 150, 151, 152, 153, 154, 155, 156, 157, 158, 159, 160] (by decide +kernel) (by decide +kernel)
set_option maxRecDepth 20000 in
theorem gX6_sleep_X0_prepare : GoodIn wsX6_sleep (wsV RX6 49 RX0 yX0_prepare wsX0_prepare) := goodIn_app (goodIn_of _ (by decide +kernel)) ggX6_sleep_X0_prepare
set_option maxRecDepth 20000 in
theorem ggX6_sleep_X1_passNights : GoodIn wsX6_sleep wsX1_passNights := goodIn_r _ [62, 23, 25, 63, 64, 65, 13, 66, 16, 22, 15, 28, 67, 68, 69, 70, 26, 27, 71, 72, 73, 74, 17, 75, 76, 77, 49, 78, 58, 55, 56, 54, 79, 80, 81, 82, 51, 83, 84, 85, 86, 53, 57, 87, 88, 89, 32, 90, 44, 34, 36, 91, 92, 93, 94, 95, 96, 97, 98, 42, 99, 100, 101, 102, 103, 104, 105, 106, 107, 108, 109, 110, 37, 43, 111, 112, 113, 114, 133, 134, 135, 136, 137, 138, 139, 140, 141, 142, 154, 155, 156, 157, 158, 159, 160, 143, 144, 145, 146, 147, 148, 149, 150, 151, 152, 153] (by decide +kernel) (by decide +kernel)
set_option maxRecDepth 20000 in
theorem gX6_sleep_X1_passNights : GoodIn wsX6_sleep (wsV RX6 78 RX1 yX1_passNights wsX1_passNights) := goodIn_app (goodIn_of _ (by decide +kernel)) ggX6_sleep_X1_passNights
set_option maxRecDepth 20000 in
theorem ggX6_sleep_X6_recorded : GoodIn wsX6_sleep wsX6_recorded := goodIn_r _ [119, 1, 120, 121, 122, 6, 123, 8, 9, 124, 125, 126, 127, 128, 129, 130, 131, 132] (by decide +kernel) (by decide +kernel)
set_option maxRecDepth 20000 in
theorem gX6_sleep_X6_recorded : GoodIn wsX6_sleep (wsV RX6 56 RX6 yX6_recorded wsX6_recorded) := goodIn_app (goodIn_of _ (by decide +kernel)) ggX6_sleep_X6_recorded
theorem dX6_sleep_0 : decode cX6_sleep 0 = .ok (.aload_n 0, 1) := by decide +kernel
theorem dX6_sleep_1 : decode cX6_sleep 1 = .ok (.getfield 25, 3) := by decide +kernel
theorem dX6_sleep_4 : decode cX6_sleep 4 = .ok (.aload_n 0, 1) := by decide +kernel
theorem dX6_sleep_5 : decode cX6_sleep 5 = .ok (.getfield 10, 3) := by decide +kernel
theorem dX6_sleep_8 : decode cX6_sleep 8 = .ok (.invokevirtual 49, 3) := by decide +kernel
theorem dX6_sleep_11 : decode cX6_sleep 11 = .ok (.aload_n 0, 1) := by decide +kernel
theorem dX6_sleep_12 : decode cX6_sleep 12 = .ok (.aload_n 0, 1) := by decide +kernel
theorem dX6_sleep_13 : decode cX6_sleep 13 = .ok (.getfield 10, 3) := by decide +kernel
theorem dX6_sleep_16 : decode cX6_sleep 16 = .ok (.iload_n 1, 1) := by decide +kernel
theorem dX6_sleep_17 : decode cX6_sleep 17 = .ok (.invokevirtual 78, 3) := by decide +kernel
theorem dX6_sleep_20 : decode cX6_sleep 20 = .ok (.invokevirtual 56, 3) := by decide +kernel
theorem dX6_sleep_23 : decode cX6_sleep 23 = .ok (.ireturn, 1) := by decide +kernel
set_option maxRecDepth 20000 in
theorem ggX6_set_X0_prepare : GoodIn wsX6_set wsX0_prepare := goodIn_r _ [7, 8, 9, 10, 11, 12, 13, 14, 15, 16, 17, 18, 19, 20, 21, 22, 23, 24, 25, 26, 27, 28, 29, 30, 31, 32, 33, 34, 35, 36, 37, 38, 39, 40, 41, 42, 43, 44, 45, 46, 47, 48, 49, 50, 51, 52, 53, 54, 55, 56, 57, 58, 81, 82, 83, 84, 85, 86, 87, 88, 89, 90, 91, 92, 93, 94, 95, 96, 97, 98, 99, 100, 101, 102, 103, 104, 105, 106, 107, 108, 109, 110] (by decide +kernel) (by decide +kernel)
set_option maxRecDepth 20000 in
theorem gX6_set_X0_prepare : GoodIn wsX6_set (wsV RX6 49 RX0 yX0_prepare wsX0_prepare) := goodIn_app (goodIn_of _ (by decide +kernel)) ggX6_set_X0_prepare
set_option maxRecDepth 20000 in
theorem ggX6_set_X1_changeSetting : GoodIn wsX6_set wsX1_changeSetting := goodIn_r _ [62, 63, 64, 22, 83, 84, 85, 86, 87, 88, 89, 90, 91, 92] (by decide +kernel) (by decide +kernel)
set_option maxRecDepth 20000 in
theorem gX6_set_X1_changeSetting : GoodIn wsX6_set (wsV RX6 81 RX1 yX1_changeSetting wsX1_changeSetting) := goodIn_app (goodIn_of _ (by decide +kernel)) ggX6_set_X1_changeSetting
set_option maxRecDepth 20000 in
theorem ggX6_set_X6_recorded : GoodIn wsX6_set wsX6_recorded := goodIn_r _ [69, 1, 70, 71, 72, 6, 73, 8, 9, 74, 75, 76, 77, 78, 79, 80, 81, 82] (by decide +kernel) (by decide +kernel)
set_option maxRecDepth 20000 in
theorem gX6_set_X6_recorded : GoodIn wsX6_set (wsV RX6 56 RX6 yX6_recorded wsX6_recorded) := goodIn_app (goodIn_of _ (by decide +kernel)) ggX6_set_X6_recorded
theorem dX6_set_0 : decode cX6_set 0 = .ok (.aload_n 0, 1) := by decide +kernel
theorem dX6_set_1 : decode cX6_set 1 = .ok (.getfield 25, 3) := by decide +kernel
theorem dX6_set_4 : decode cX6_set 4 = .ok (.aload_n 0, 1) := by decide +kernel
theorem dX6_set_5 : decode cX6_set 5 = .ok (.getfield 10, 3) := by decide +kernel
theorem dX6_set_8 : decode cX6_set 8 = .ok (.invokevirtual 49, 3) := by decide +kernel
theorem dX6_set_11 : decode cX6_set 11 = .ok (.aload_n 0, 1) := by decide +kernel
theorem dX6_set_12 : decode cX6_set 12 = .ok (.aload_n 0, 1) := by decide +kernel
theorem dX6_set_13 : decode cX6_set 13 = .ok (.getfield 10, 3) := by decide +kernel
theorem dX6_set_16 : decode cX6_set 16 = .ok (.iload_n 1, 1) := by decide +kernel
theorem dX6_set_17 : decode cX6_set 17 = .ok (.iload_n 2, 1) := by decide +kernel
theorem dX6_set_18 : decode cX6_set 18 = .ok (.invokevirtual 81, 3) := by decide +kernel
theorem dX6_set_21 : decode cX6_set 21 = .ok (.invokevirtual 56, 3) := by decide +kernel
theorem dX6_set_24 : decode cX6_set 24 = .ok (.ireturn, 1) := by decide +kernel
set_option maxRecDepth 20000 in
theorem ggX6_lotOf_X4_isKind : GoodIn wsX6_lotOf wsX4_isKind := goodIn_r _ [8] (by decide +kernel) (by decide +kernel)
set_option maxRecDepth 20000 in
theorem gX6_lotOf_X4_isKind : GoodIn wsX6_lotOf (va_wsS RX6 84 yX4_isKind wsX4_isKind) := goodIn_app (goodIn_of _ (by decide +kernel)) ggX6_lotOf_X4_isKind
set_option maxRecDepth 20000 in
theorem ggX6_lotOf_X4_find : GoodIn wsX6_lotOf wsX4_find := goodIn_r _ [12, 13, 14, 32, 33, 34, 35, 36, 37, 38, 39, 40, 41, 42] (by decide +kernel) (by decide +kernel)
set_option maxRecDepth 20000 in
theorem gX6_lotOf_X4_find : GoodIn wsX6_lotOf (wsV RX6 94 RX4 yX4_find wsX4_find) := goodIn_app (goodIn_of _ (by decide +kernel)) ggX6_lotOf_X4_find
theorem dX6_lotOf_0 : decode cX6_lotOf 0 = .ok (.iload_n 1, 1) := by decide +kernel
theorem dX6_lotOf_1 : decode cX6_lotOf 1 = .ok (.invokestatic 84, 3) := by decide +kernel
theorem dX6_lotOf_4 : decode cX6_lotOf 4 = .ok (.ifCond .eq 16, 3) := by decide +kernel
theorem dX6_lotOf_7 : decode cX6_lotOf 7 = .ok (.iload_n 3, 1) := by decide +kernel
theorem dX6_lotOf_8 : decode cX6_lotOf 8 = .ok (.ifCond .lt 12, 3) := by decide +kernel
theorem dX6_lotOf_11 : decode cX6_lotOf 11 = .ok (.iload_n 3, 1) := by decide +kernel
theorem dX6_lotOf_12 : decode cX6_lotOf 12 = .ok (.iconst 1, 1) := by decide +kernel
theorem dX6_lotOf_13 : decode cX6_lotOf 13 = .ok (.if_icmp .gt 7, 3) := by decide +kernel
theorem dX6_lotOf_16 : decode cX6_lotOf 16 = .ok (.iload_n 2, 1) := by decide +kernel
theorem dX6_lotOf_17 : decode cX6_lotOf 17 = .ok (.ifCond .ge 5, 3) := by decide +kernel
theorem dX6_lotOf_20 : decode cX6_lotOf 20 = .ok (.iconst (-1), 1) := by decide +kernel
theorem dX6_lotOf_21 : decode cX6_lotOf 21 = .ok (.ireturn, 1) := by decide +kernel
theorem dX6_lotOf_22 : decode cX6_lotOf 22 = .ok (.aload_n 0, 1) := by decide +kernel
theorem dX6_lotOf_23 : decode cX6_lotOf 23 = .ok (.getfield 10, 3) := by decide +kernel
theorem dX6_lotOf_26 : decode cX6_lotOf 26 = .ok (.getfield 90, 3) := by decide +kernel
theorem dX6_lotOf_29 : decode cX6_lotOf 29 = .ok (.iload_n 1, 1) := by decide +kernel
theorem dX6_lotOf_30 : decode cX6_lotOf 30 = .ok (.iload_n 2, 1) := by decide +kernel
theorem dX6_lotOf_31 : decode cX6_lotOf 31 = .ok (.invokevirtual 94, 3) := by decide +kernel
theorem dX6_lotOf_34 : decode cX6_lotOf 34 = .ok (.istore 4, 2) := by decide +kernel
theorem dX6_lotOf_36 : decode cX6_lotOf 36 = .ok (.iload 4, 2) := by decide +kernel
theorem dX6_lotOf_38 : decode cX6_lotOf 38 = .ok (.ifCond .ge 6, 3) := by decide +kernel
theorem dX6_lotOf_41 : decode cX6_lotOf 41 = .ok (.bipush (-4), 2) := by decide +kernel
theorem dX6_lotOf_43 : decode cX6_lotOf 43 = .ok (.ireturn, 1) := by decide +kernel
theorem dX6_lotOf_44 : decode cX6_lotOf 44 = .ok (.iload_n 3, 1) := by decide +kernel
theorem dX6_lotOf_45 : decode cX6_lotOf 45 = .ok (.ifCond .ne 19, 3) := by decide +kernel
theorem dX6_lotOf_48 : decode cX6_lotOf 48 = .ok (.aload_n 0, 1) := by decide +kernel
theorem dX6_lotOf_49 : decode cX6_lotOf 49 = .ok (.getfield 10, 3) := by decide +kernel
theorem dX6_lotOf_52 : decode cX6_lotOf 52 = .ok (.getfield 90, 3) := by decide +kernel
theorem dX6_lotOf_55 : decode cX6_lotOf 55 = .ok (.getfield 97, 3) := by decide +kernel
theorem dX6_lotOf_58 : decode cX6_lotOf 58 = .ok (.iload 4, 2) := by decide +kernel
theorem dX6_lotOf_60 : decode cX6_lotOf 60 = .ok (.iaload, 1) := by decide +kernel
theorem dX6_lotOf_61 : decode cX6_lotOf 61 = .ok (.goto 16, 3) := by decide +kernel
theorem dX6_lotOf_64 : decode cX6_lotOf 64 = .ok (.aload_n 0, 1) := by decide +kernel
theorem dX6_lotOf_65 : decode cX6_lotOf 65 = .ok (.getfield 10, 3) := by decide +kernel
theorem dX6_lotOf_68 : decode cX6_lotOf 68 = .ok (.getfield 90, 3) := by decide +kernel
theorem dX6_lotOf_71 : decode cX6_lotOf 71 = .ok (.getfield 101, 3) := by decide +kernel
theorem dX6_lotOf_74 : decode cX6_lotOf 74 = .ok (.iload 4, 2) := by decide +kernel
theorem dX6_lotOf_76 : decode cX6_lotOf 76 = .ok (.iaload, 1) := by decide +kernel
theorem dX6_lotOf_77 : decode cX6_lotOf 77 = .ok (.ireturn, 1) := by decide +kernel
set_option maxRecDepth 20000 in
theorem ggX6_storeOf_X4_isKind : GoodIn wsX6_storeOf wsX4_isKind := goodIn_r _ [9] (by decide +kernel) (by decide +kernel)
set_option maxRecDepth 20000 in
theorem gX6_storeOf_X4_isKind : GoodIn wsX6_storeOf (va_wsS RX6 84 yX4_isKind wsX4_isKind) := goodIn_app (goodIn_of _ (by decide +kernel)) ggX6_storeOf_X4_isKind
set_option maxRecDepth 20000 in
theorem ggX6_storeOf_X4_stock : GoodIn wsX6_storeOf wsX4_stock := goodIn_r _ [13, 14, 15, 16, 45, 46, 47, 48, 49, 50, 51, 52, 53, 54, 55] (by decide +kernel) (by decide +kernel)
set_option maxRecDepth 20000 in
theorem gX6_storeOf_X4_stock : GoodIn wsX6_storeOf (wsV RX6 104 RX4 yX4_stock wsX4_stock) := goodIn_app (goodIn_of _ (by decide +kernel)) ggX6_storeOf_X4_stock
set_option maxRecDepth 20000 in
theorem ggX6_storeOf_X4_lotsOfKind : GoodIn wsX6_storeOf wsX4_lotsOfKind := goodIn_r _ [20, 14, 15, 45, 46, 47, 48, 49, 50, 51, 52, 53, 54, 55] (by decide +kernel) (by decide +kernel)
set_option maxRecDepth 20000 in
theorem gX6_storeOf_X4_lotsOfKind : GoodIn wsX6_storeOf (wsV RX6 116 RX4 yX4_lotsOfKind wsX4_lotsOfKind) := goodIn_app (goodIn_of _ (by decide +kernel)) ggX6_storeOf_X4_lotsOfKind
set_option maxRecDepth 20000 in
theorem ggX6_storeOf_X4_amountOnPallet : GoodIn wsX6_storeOf wsX4_amountOnPallet := goodIn_r _ [24, 25, 26, 27, 45, 46, 47, 48, 49, 50, 51, 52, 53, 54, 55] (by decide +kernel) (by decide +kernel)
set_option maxRecDepth 20000 in
theorem gX6_storeOf_X4_amountOnPallet : GoodIn wsX6_storeOf (wsV RX6 119 RX4 yX4_amountOnPallet wsX4_amountOnPallet) := goodIn_app (goodIn_of _ (by decide +kernel)) ggX6_storeOf_X4_amountOnPallet
theorem dX6_storeOf_0 : decode cX6_storeOf 0 = .ok (.iload_n 1, 1) := by decide +kernel
theorem dX6_storeOf_1 : decode cX6_storeOf 1 = .ok (.invokestatic 84, 3) := by decide +kernel
theorem dX6_storeOf_4 : decode cX6_storeOf 4 = .ok (.ifCond .ne 5, 3) := by decide +kernel
theorem dX6_storeOf_7 : decode cX6_storeOf 7 = .ok (.iconst (-1), 1) := by decide +kernel
theorem dX6_storeOf_8 : decode cX6_storeOf 8 = .ok (.ireturn, 1) := by decide +kernel
theorem dX6_storeOf_9 : decode cX6_storeOf 9 = .ok (.aload_n 0, 1) := by decide +kernel
theorem dX6_storeOf_10 : decode cX6_storeOf 10 = .ok (.getfield 10, 3) := by decide +kernel
theorem dX6_storeOf_13 : decode cX6_storeOf 13 = .ok (.getfield 90, 3) := by decide +kernel
theorem dX6_storeOf_16 : decode cX6_storeOf 16 = .ok (.astore_n 3, 1) := by decide +kernel
theorem dX6_storeOf_17 : decode cX6_storeOf 17 = .ok (.iload_n 2, 1) := by decide +kernel
theorem dX6_storeOf_18 : decode cX6_storeOf 18 = .ok (.tableswitch 77 0 5 #[38, 44, 51, 58, 65, 71], 38) := by decide +kernel
theorem dX6_storeOf_56 : decode cX6_storeOf 56 = .ok (.aload_n 3, 1) := by decide +kernel
theorem dX6_storeOf_57 : decode cX6_storeOf 57 = .ok (.iload_n 1, 1) := by decide +kernel
theorem dX6_storeOf_58 : decode cX6_storeOf 58 = .ok (.invokevirtual 104, 3) := by decide +kernel
theorem dX6_storeOf_61 : decode cX6_storeOf 61 = .ok (.ireturn, 1) := by decide +kernel
theorem dX6_storeOf_62 : decode cX6_storeOf 62 = .ok (.aload_n 3, 1) := by decide +kernel
theorem dX6_storeOf_63 : decode cX6_storeOf 63 = .ok (.getfield 107, 3) := by decide +kernel
theorem dX6_storeOf_66 : decode cX6_storeOf 66 = .ok (.iload_n 1, 1) := by decide +kernel
theorem dX6_storeOf_67 : decode cX6_storeOf 67 = .ok (.iaload, 1) := by decide +kernel
theorem dX6_storeOf_68 : decode cX6_storeOf 68 = .ok (.ireturn, 1) := by decide +kernel
theorem dX6_storeOf_69 : decode cX6_storeOf 69 = .ok (.aload_n 3, 1) := by decide +kernel
theorem dX6_storeOf_70 : decode cX6_storeOf 70 = .ok (.getfield 110, 3) := by decide +kernel
theorem dX6_storeOf_73 : decode cX6_storeOf 73 = .ok (.iload_n 1, 1) := by decide +kernel
theorem dX6_storeOf_74 : decode cX6_storeOf 74 = .ok (.iaload, 1) := by decide +kernel
theorem dX6_storeOf_75 : decode cX6_storeOf 75 = .ok (.ireturn, 1) := by decide +kernel
theorem dX6_storeOf_76 : decode cX6_storeOf 76 = .ok (.aload_n 3, 1) := by decide +kernel
theorem dX6_storeOf_77 : decode cX6_storeOf 77 = .ok (.getfield 113, 3) := by decide +kernel
theorem dX6_storeOf_80 : decode cX6_storeOf 80 = .ok (.iload_n 1, 1) := by decide +kernel
theorem dX6_storeOf_81 : decode cX6_storeOf 81 = .ok (.iaload, 1) := by decide +kernel
theorem dX6_storeOf_82 : decode cX6_storeOf 82 = .ok (.ireturn, 1) := by decide +kernel
theorem dX6_storeOf_83 : decode cX6_storeOf 83 = .ok (.aload_n 3, 1) := by decide +kernel
theorem dX6_storeOf_84 : decode cX6_storeOf 84 = .ok (.iload_n 1, 1) := by decide +kernel
theorem dX6_storeOf_85 : decode cX6_storeOf 85 = .ok (.invokevirtual 116, 3) := by decide +kernel
theorem dX6_storeOf_88 : decode cX6_storeOf 88 = .ok (.ireturn, 1) := by decide +kernel
theorem dX6_storeOf_89 : decode cX6_storeOf 89 = .ok (.aload_n 3, 1) := by decide +kernel
theorem dX6_storeOf_90 : decode cX6_storeOf 90 = .ok (.iload_n 1, 1) := by decide +kernel
theorem dX6_storeOf_91 : decode cX6_storeOf 91 = .ok (.invokevirtual 119, 3) := by decide +kernel
theorem dX6_storeOf_94 : decode cX6_storeOf 94 = .ok (.ireturn, 1) := by decide +kernel
theorem dX6_storeOf_95 : decode cX6_storeOf 95 = .ok (.iconst (-1), 1) := by decide +kernel
theorem dX6_storeOf_96 : decode cX6_storeOf 96 = .ok (.ireturn, 1) := by decide +kernel
set_option maxRecDepth 20000 in
theorem ggX6_partyOf_X2_has : GoodIn wsX6_partyOf wsX2_has := goodIn_r _ [17, 18, 36, 37, 38, 39, 40, 41, 42] (by decide +kernel) (by decide +kernel)
set_option maxRecDepth 20000 in
theorem gX6_partyOf_X2_has : GoodIn wsX6_partyOf (wsV RX6 126 RX2 yX2_has wsX2_has) := goodIn_app (goodIn_of _ (by decide +kernel)) ggX6_partyOf_X2_has
theorem dX6_partyOf_0 : decode cX6_partyOf 0 = .ok (.aload_n 0, 1) := by decide +kernel
theorem dX6_partyOf_1 : decode cX6_partyOf 1 = .ok (.getfield 10, 3) := by decide +kernel
theorem dX6_partyOf_4 : decode cX6_partyOf 4 = .ok (.getfield 122, 3) := by decide +kernel
theorem dX6_partyOf_7 : decode cX6_partyOf 7 = .ok (.astore_n 3, 1) := by decide +kernel
theorem dX6_partyOf_8 : decode cX6_partyOf 8 = .ok (.aload_n 3, 1) := by decide +kernel
theorem dX6_partyOf_9 : decode cX6_partyOf 9 = .ok (.iload_n 1, 1) := by decide +kernel
theorem dX6_partyOf_10 : decode cX6_partyOf 10 = .ok (.invokevirtual 126, 3) := by decide +kernel
theorem dX6_partyOf_13 : decode cX6_partyOf 13 = .ok (.ifCond .ne 5, 3) := by decide +kernel
theorem dX6_partyOf_16 : decode cX6_partyOf 16 = .ok (.iconst (-1), 1) := by decide +kernel
theorem dX6_partyOf_17 : decode cX6_partyOf 17 = .ok (.ireturn, 1) := by decide +kernel
theorem dX6_partyOf_18 : decode cX6_partyOf 18 = .ok (.iload_n 2, 1) := by decide +kernel
theorem dX6_partyOf_19 : decode cX6_partyOf 19 = .ok (.tableswitch 115 0 6 #[41, 48, 55, 62, 69, 76, 97], 41) := by decide +kernel
theorem dX6_partyOf_60 : decode cX6_partyOf 60 = .ok (.aload_n 3, 1) := by decide +kernel
theorem dX6_partyOf_61 : decode cX6_partyOf 61 = .ok (.getfield 131, 3) := by decide +kernel
theorem dX6_partyOf_64 : decode cX6_partyOf 64 = .ok (.iload_n 1, 1) := by decide +kernel
theorem dX6_partyOf_65 : decode cX6_partyOf 65 = .ok (.iaload, 1) := by decide +kernel
theorem dX6_partyOf_66 : decode cX6_partyOf 66 = .ok (.ireturn, 1) := by decide +kernel
theorem dX6_partyOf_67 : decode cX6_partyOf 67 = .ok (.aload_n 3, 1) := by decide +kernel
theorem dX6_partyOf_68 : decode cX6_partyOf 68 = .ok (.getfield 134, 3) := by decide +kernel
theorem dX6_partyOf_71 : decode cX6_partyOf 71 = .ok (.iload_n 1, 1) := by decide +kernel
theorem dX6_partyOf_72 : decode cX6_partyOf 72 = .ok (.iaload, 1) := by decide +kernel
theorem dX6_partyOf_73 : decode cX6_partyOf 73 = .ok (.ireturn, 1) := by decide +kernel
theorem dX6_partyOf_74 : decode cX6_partyOf 74 = .ok (.aload_n 3, 1) := by decide +kernel
theorem dX6_partyOf_75 : decode cX6_partyOf 75 = .ok (.getfield 137, 3) := by decide +kernel
theorem dX6_partyOf_78 : decode cX6_partyOf 78 = .ok (.iload_n 1, 1) := by decide +kernel
theorem dX6_partyOf_79 : decode cX6_partyOf 79 = .ok (.iaload, 1) := by decide +kernel
theorem dX6_partyOf_80 : decode cX6_partyOf 80 = .ok (.ireturn, 1) := by decide +kernel
theorem dX6_partyOf_81 : decode cX6_partyOf 81 = .ok (.aload_n 3, 1) := by decide +kernel
theorem dX6_partyOf_82 : decode cX6_partyOf 82 = .ok (.getfield 140, 3) := by decide +kernel
theorem dX6_partyOf_85 : decode cX6_partyOf 85 = .ok (.iload_n 1, 1) := by decide +kernel
theorem dX6_partyOf_86 : decode cX6_partyOf 86 = .ok (.iaload, 1) := by decide +kernel
theorem dX6_partyOf_87 : decode cX6_partyOf 87 = .ok (.ireturn, 1) := by decide +kernel
theorem dX6_partyOf_88 : decode cX6_partyOf 88 = .ok (.aload_n 3, 1) := by decide +kernel
theorem dX6_partyOf_89 : decode cX6_partyOf 89 = .ok (.getfield 143, 3) := by decide +kernel
theorem dX6_partyOf_92 : decode cX6_partyOf 92 = .ok (.iload_n 1, 1) := by decide +kernel
theorem dX6_partyOf_93 : decode cX6_partyOf 93 = .ok (.iaload, 1) := by decide +kernel
theorem dX6_partyOf_94 : decode cX6_partyOf 94 = .ok (.ireturn, 1) := by decide +kernel
theorem dX6_partyOf_95 : decode cX6_partyOf 95 = .ok (.aload_n 3, 1) := by decide +kernel
theorem dX6_partyOf_96 : decode cX6_partyOf 96 = .ok (.getfield 146, 3) := by decide +kernel
theorem dX6_partyOf_99 : decode cX6_partyOf 99 = .ok (.iload_n 1, 1) := by decide +kernel
theorem dX6_partyOf_100 : decode cX6_partyOf 100 = .ok (.iaload, 1) := by decide +kernel
theorem dX6_partyOf_101 : decode cX6_partyOf 101 = .ok (.ifCond .ge 8, 3) := by decide +kernel
theorem dX6_partyOf_104 : decode cX6_partyOf 104 = .ok (.bipush (-4), 2) := by decide +kernel
theorem dX6_partyOf_106 : decode cX6_partyOf 106 = .ok (.goto 9, 3) := by decide +kernel
theorem dX6_partyOf_109 : decode cX6_partyOf 109 = .ok (.aload_n 3, 1) := by decide +kernel
theorem dX6_partyOf_110 : decode cX6_partyOf 110 = .ok (.getfield 146, 3) := by decide +kernel
theorem dX6_partyOf_113 : decode cX6_partyOf 113 = .ok (.iload_n 1, 1) := by decide +kernel
theorem dX6_partyOf_114 : decode cX6_partyOf 114 = .ok (.iaload, 1) := by decide +kernel
theorem dX6_partyOf_115 : decode cX6_partyOf 115 = .ok (.ireturn, 1) := by decide +kernel
theorem dX6_partyOf_116 : decode cX6_partyOf 116 = .ok (.iconst 0, 1) := by decide +kernel
theorem dX6_partyOf_117 : decode cX6_partyOf 117 = .ok (.aload_n 3, 1) := by decide +kernel
theorem dX6_partyOf_118 : decode cX6_partyOf 118 = .ok (.getfield 143, 3) := by decide +kernel
theorem dX6_partyOf_121 : decode cX6_partyOf 121 = .ok (.iload_n 1, 1) := by decide +kernel
theorem dX6_partyOf_122 : decode cX6_partyOf 122 = .ok (.iaload, 1) := by decide +kernel
theorem dX6_partyOf_123 : decode cX6_partyOf 123 = .ok (.aload_n 3, 1) := by decide +kernel
theorem dX6_partyOf_124 : decode cX6_partyOf 124 = .ok (.getfield 137, 3) := by decide +kernel
theorem dX6_partyOf_127 : decode cX6_partyOf 127 = .ok (.iload_n 1, 1) := by decide +kernel
theorem dX6_partyOf_128 : decode cX6_partyOf 128 = .ok (.iaload, 1) := by decide +kernel
theorem dX6_partyOf_129 : decode cX6_partyOf 129 = .ok (.isub, 1) := by decide +kernel
theorem dX6_partyOf_130 : decode cX6_partyOf 130 = .ok (.invokestatic 149, 3) := by decide +kernel
theorem dX6_partyOf_133 : decode cX6_partyOf 133 = .ok (.ireturn, 1) := by decide +kernel
theorem dX6_partyOf_134 : decode cX6_partyOf 134 = .ok (.iconst (-1), 1) := by decide +kernel
theorem dX6_partyOf_135 : decode cX6_partyOf 135 = .ok (.ireturn, 1) := by decide +kernel
set_option maxRecDepth 20000 in
theorem ggX6_count_X2_withStatus : GoodIn wsX6_count wsX2_withStatus := goodIn_r _ [21, 22, 23, 58, 59, 60, 61, 62, 63, 64] (by decide +kernel) (by decide +kernel)
set_option maxRecDepth 20000 in
theorem gX6_count_X2_withStatus : GoodIn wsX6_count (wsV RX6 158 RX2 yX2_withStatus wsX2_withStatus) := goodIn_app (goodIn_of _ (by decide +kernel)) ggX6_count_X2_withStatus
set_option maxRecDepth 20000 in
theorem ggX6_count_X2_guests : GoodIn wsX6_count wsX2_guests := goodIn_r _ [27, 22, 23, 28, 58, 59, 60, 61, 62, 63, 64] (by decide +kernel) (by decide +kernel)
set_option maxRecDepth 20000 in
theorem gX6_count_X2_guests : GoodIn wsX6_count (wsV RX6 161 RX2 yX2_guests wsX2_guests) := goodIn_app (goodIn_of _ (by decide +kernel)) ggX6_count_X2_guests
set_option maxRecDepth 20000 in
theorem ggX6_count_X1_isStorm : GoodIn wsX6_count wsX1_isStorm := goodIn_r _ [33, 34, 35, 48, 49, 50, 51, 52, 53, 54, 55, 56, 57] (by decide +kernel) (by decide +kernel)
set_option maxRecDepth 20000 in
theorem gX6_count_X1_isStorm : GoodIn wsX6_count (wsV RX6 166 RX1 yX1_isStorm wsX1_isStorm) := goodIn_app (goodIn_of _ (by decide +kernel)) ggX6_count_X1_isStorm
set_option maxRecDepth 20000 in
theorem ggX6_count_X1_settingAt : GoodIn wsX6_count wsX1_settingAt := goodIn_r _ [39, 40, 48, 49, 50, 51, 52, 53, 54, 55, 56, 57] (by decide +kernel) (by decide +kernel)
set_option maxRecDepth 20000 in
theorem gX6_count_X1_settingAt : GoodIn wsX6_count (wsV RX6 192 RX1 yX1_settingAt wsX1_settingAt) := goodIn_app (goodIn_of _ (by decide +kernel)) ggX6_count_X1_settingAt
theorem dX6_count_0 : decode cX6_count 0 = .ok (.iload_n 1, 1) := by decide +kernel
theorem dX6_count_1 : decode cX6_count 1 = .ok (.tableswitch 225 0 14 #[75, 86, 98, 110, 121, 129, 145, 153, 164, 172, 180, 188, 196, 204, 212], 75) := by decide +kernel
theorem dX6_count_76 : decode cX6_count 76 = .ok (.aload_n 0, 1) := by decide +kernel
theorem dX6_count_77 : decode cX6_count 77 = .ok (.getfield 10, 3) := by decide +kernel
theorem dX6_count_80 : decode cX6_count 80 = .ok (.getfield 122, 3) := by decide +kernel
theorem dX6_count_83 : decode cX6_count 83 = .ok (.getfield 154, 3) := by decide +kernel
theorem dX6_count_86 : decode cX6_count 86 = .ok (.ireturn, 1) := by decide +kernel
theorem dX6_count_87 : decode cX6_count 87 = .ok (.aload_n 0, 1) := by decide +kernel
theorem dX6_count_88 : decode cX6_count 88 = .ok (.getfield 10, 3) := by decide +kernel
theorem dX6_count_91 : decode cX6_count 91 = .ok (.getfield 122, 3) := by decide +kernel
theorem dX6_count_94 : decode cX6_count 94 = .ok (.iconst 0, 1) := by decide +kernel
theorem dX6_count_95 : decode cX6_count 95 = .ok (.invokevirtual 158, 3) := by decide +kernel
theorem dX6_count_98 : decode cX6_count 98 = .ok (.ireturn, 1) := by decide +kernel
theorem dX6_count_99 : decode cX6_count 99 = .ok (.aload_n 0, 1) := by decide +kernel
theorem dX6_count_100 : decode cX6_count 100 = .ok (.getfield 10, 3) := by decide +kernel
theorem dX6_count_103 : decode cX6_count 103 = .ok (.getfield 122, 3) := by decide +kernel
theorem dX6_count_106 : decode cX6_count 106 = .ok (.iconst 1, 1) := by decide +kernel
theorem dX6_count_107 : decode cX6_count 107 = .ok (.invokevirtual 158, 3) := by decide +kernel
theorem dX6_count_110 : decode cX6_count 110 = .ok (.ireturn, 1) := by decide +kernel
theorem dX6_count_111 : decode cX6_count 111 = .ok (.aload_n 0, 1) := by decide +kernel
theorem dX6_count_112 : decode cX6_count 112 = .ok (.getfield 10, 3) := by decide +kernel
theorem dX6_count_115 : decode cX6_count 115 = .ok (.getfield 122, 3) := by decide +kernel
theorem dX6_count_118 : decode cX6_count 118 = .ok (.invokevirtual 161, 3) := by decide +kernel
theorem dX6_count_121 : decode cX6_count 121 = .ok (.ireturn, 1) := by decide +kernel
theorem dX6_count_122 : decode cX6_count 122 = .ok (.aload_n 0, 1) := by decide +kernel
theorem dX6_count_123 : decode cX6_count 123 = .ok (.getfield 10, 3) := by decide +kernel
theorem dX6_count_126 : decode cX6_count 126 = .ok (.getfield 164, 3) := by decide +kernel
theorem dX6_count_129 : decode cX6_count 129 = .ok (.ireturn, 1) := by decide +kernel
theorem dX6_count_130 : decode cX6_count 130 = .ok (.aload_n 0, 1) := by decide +kernel
theorem dX6_count_131 : decode cX6_count 131 = .ok (.getfield 10, 3) := by decide +kernel
theorem dX6_count_134 : decode cX6_count 134 = .ok (.invokevirtual 166, 3) := by decide +kernel
theorem dX6_count_137 : decode cX6_count 137 = .ok (.ifCond .eq 7, 3) := by decide +kernel
theorem dX6_count_140 : decode cX6_count 140 = .ok (.iconst 1, 1) := by decide +kernel
theorem dX6_count_141 : decode cX6_count 141 = .ok (.goto 4, 3) := by decide +kernel
theorem dX6_count_144 : decode cX6_count 144 = .ok (.iconst 0, 1) := by decide +kernel
theorem dX6_count_145 : decode cX6_count 145 = .ok (.ireturn, 1) := by decide +kernel
theorem dX6_count_146 : decode cX6_count 146 = .ok (.aload_n 0, 1) := by decide +kernel
theorem dX6_count_147 : decode cX6_count 147 = .ok (.getfield 10, 3) := by decide +kernel
theorem dX6_count_150 : decode cX6_count 150 = .ok (.getfield 170, 3) := by decide +kernel
theorem dX6_count_153 : decode cX6_count 153 = .ok (.ireturn, 1) := by decide +kernel
theorem dX6_count_154 : decode cX6_count 154 = .ok (.aload_n 0, 1) := by decide +kernel
theorem dX6_count_155 : decode cX6_count 155 = .ok (.getfield 10, 3) := by decide +kernel
theorem dX6_count_158 : decode cX6_count 158 = .ok (.getfield 90, 3) := by decide +kernel
theorem dX6_count_161 : decode cX6_count 161 = .ok (.getfield 173, 3) := by decide +kernel
theorem dX6_count_164 : decode cX6_count 164 = .ok (.ireturn, 1) := by decide +kernel
theorem dX6_count_165 : decode cX6_count 165 = .ok (.aload_n 0, 1) := by decide +kernel
theorem dX6_count_166 : decode cX6_count 166 = .ok (.getfield 10, 3) := by decide +kernel
theorem dX6_count_169 : decode cX6_count 169 = .ok (.getfield 176, 3) := by decide +kernel
theorem dX6_count_172 : decode cX6_count 172 = .ok (.ireturn, 1) := by decide +kernel
theorem dX6_count_173 : decode cX6_count 173 = .ok (.aload_n 0, 1) := by decide +kernel
theorem dX6_count_174 : decode cX6_count 174 = .ok (.getfield 10, 3) := by decide +kernel
theorem dX6_count_177 : decode cX6_count 177 = .ok (.getfield 179, 3) := by decide +kernel
theorem dX6_count_180 : decode cX6_count 180 = .ok (.ireturn, 1) := by decide +kernel
theorem dX6_count_181 : decode cX6_count 181 = .ok (.aload_n 0, 1) := by decide +kernel
theorem dX6_count_182 : decode cX6_count 182 = .ok (.getfield 10, 3) := by decide +kernel
theorem dX6_count_185 : decode cX6_count 185 = .ok (.getfield 182, 3) := by decide +kernel
theorem dX6_count_188 : decode cX6_count 188 = .ok (.ireturn, 1) := by decide +kernel
theorem dX6_count_189 : decode cX6_count 189 = .ok (.aload_n 0, 1) := by decide +kernel
theorem dX6_count_190 : decode cX6_count 190 = .ok (.getfield 10, 3) := by decide +kernel
theorem dX6_count_193 : decode cX6_count 193 = .ok (.getfield 185, 3) := by decide +kernel
theorem dX6_count_196 : decode cX6_count 196 = .ok (.ireturn, 1) := by decide +kernel
theorem dX6_count_197 : decode cX6_count 197 = .ok (.aload_n 0, 1) := by decide +kernel
theorem dX6_count_198 : decode cX6_count 198 = .ok (.getfield 25, 3) := by decide +kernel
theorem dX6_count_201 : decode cX6_count 201 = .ok (.getfield 188, 3) := by decide +kernel
theorem dX6_count_204 : decode cX6_count 204 = .ok (.ireturn, 1) := by decide +kernel
theorem dX6_count_205 : decode cX6_count 205 = .ok (.aload_n 0, 1) := by decide +kernel
theorem dX6_count_206 : decode cX6_count 206 = .ok (.getfield 32, 3) := by decide +kernel
theorem dX6_count_209 : decode cX6_count 209 = .ok (.getfield 191, 3) := by decide +kernel
theorem dX6_count_212 : decode cX6_count 212 = .ok (.ireturn, 1) := by decide +kernel
theorem dX6_count_213 : decode cX6_count 213 = .ok (.aload_n 0, 1) := by decide +kernel
theorem dX6_count_214 : decode cX6_count 214 = .ok (.getfield 45, 3) := by decide +kernel
theorem dX6_count_217 : decode cX6_count 217 = .ok (.ifCond .eq 7, 3) := by decide +kernel
theorem dX6_count_220 : decode cX6_count 220 = .ok (.iconst 1, 1) := by decide +kernel
theorem dX6_count_221 : decode cX6_count 221 = .ok (.goto 4, 3) := by decide +kernel
theorem dX6_count_224 : decode cX6_count 224 = .ok (.iconst 0, 1) := by decide +kernel
theorem dX6_count_225 : decode cX6_count 225 = .ok (.ireturn, 1) := by decide +kernel
theorem dX6_count_226 : decode cX6_count 226 = .ok (.aload_n 0, 1) := by decide +kernel
theorem dX6_count_227 : decode cX6_count 227 = .ok (.getfield 10, 3) := by decide +kernel
theorem dX6_count_230 : decode cX6_count 230 = .ok (.iload_n 1, 1) := by decide +kernel
theorem dX6_count_231 : decode cX6_count 231 = .ok (.bipush 20, 2) := by decide +kernel
theorem dX6_count_233 : decode cX6_count 233 = .ok (.isub, 1) := by decide +kernel
theorem dX6_count_234 : decode cX6_count 234 = .ok (.invokevirtual 192, 3) := by decide +kernel
theorem dX6_count_237 : decode cX6_count 237 = .ok (.ireturn, 1) := by decide +kernel
set_option maxRecDepth 20000 in
theorem ggX6_goneOn_X2_has : GoodIn wsX6_goneOn wsX2_has := goodIn_r _ [8, 9, 140, 141, 142, 143, 144, 145, 146] (by decide +kernel) (by decide +kernel)
set_option maxRecDepth 20000 in
theorem gX6_goneOn_X2_has : GoodIn wsX6_goneOn (wsV RX6 126 RX2 yX2_has wsX2_has) := goodIn_app (goodIn_of _ (by decide +kernel)) ggX6_goneOn_X2_has
set_option maxRecDepth 20000 in
theorem ggX6_goneOn_X2_isAwaited : GoodIn wsX6_goneOn wsX2_isAwaited := goodIn_r _ [13, 14, 15, 5, 6, 7, 8, 9, 140, 141, 142, 143, 144, 145, 146] (by decide +kernel) (by decide +kernel)
set_option maxRecDepth 20000 in
theorem gX6_goneOn_X2_isAwaited : GoodIn wsX6_goneOn (wsV RX6 195 RX2 yX2_isAwaited wsX2_isAwaited) := goodIn_app (goodIn_of _ (by decide +kernel)) ggX6_goneOn_X2_isAwaited
set_option maxRecDepth 20000 in
theorem ggX6_goneOn_X1_copyFrom : GoodIn wsX6_goneOn wsX1_copyFrom := goodIn_r _ [20, 21, 22, 23, 24, 25, 26, 27, 28, 29, 30, 31, 32, 33, 34, 35, 36, 37, 38, 39, 40, 41, 42, 43, 44, 45, 46, 47, 48, 49, 50, 51, 52, 53, 54, 7, 55, 56, 57, 58, 59, 14, 60, 61, 9, 130, 131, 132, 133, 134, 135, 136, 137, 138, 139, 147, 148, 149, 150, 151, 152, 153, 154, 155, 156, 157, 140, 141, 142, 143, 144, 145, 146] (by decide +kernel) (by decide +kernel)
set_option maxRecDepth 20000 in
theorem gX6_goneOn_X1_copyFrom : GoodIn wsX6_goneOn (wsV RX6 198 RX1 yX1_copyFrom wsX1_copyFrom) := goodIn_app (goodIn_of _ (by decide +kernel)) ggX6_goneOn_X1_copyFrom
set_option maxRecDepth 20000 in
theorem ggX6_goneOn_X1_dayWhenGone : GoodIn wsX6_goneOn wsX1_dayWhenGone := goodIn_r _ [65, 22, 29, 66, 11, 12, 7, 13, 14, 15, 5, 6, 8, 9, 67, 68, 69, 19, 70, 28, 21, 34, 71, 72, 73, 74, 31, 32, 33, 75, 76, 77, 78, 23, 79, 80, 81, 82, 60, 59, 83, 84, 85, 86, 56, 87, 88, 89, 90, 58, 61, 91, 92, 93, 38, 94, 50, 40, 42, 95, 96, 97, 98, 99, 100, 101, 102, 48, 103, 104, 105, 106, 107, 108, 109, 110, 111, 112, 113, 114, 43, 49, 115, 116, 117, 118, 119, 120, 121, 122, 130, 131, 132, 133, 134, 135, 136, 137, 138, 139, 140, 141, 142, 143, 144, 145, 146, 147, 148, 149, 150, 151, 152, 153, 154, 155, 156, 157] (by decide +kernel) (by decide +kernel)
set_option maxRecDepth 20000 in
theorem gX6_goneOn_X1_dayWhenGone : GoodIn wsX6_goneOn (wsV RX6 201 RX1 yX1_dayWhenGone wsX1_dayWhenGone) := goodIn_app (goodIn_of _ (by decide +kernel)) ggX6_goneOn_X1_dayWhenGone
theorem dX6_goneOn_0 : decode cX6_goneOn 0 = .ok (.aload_n 0, 1) := by decide +kernel
theorem dX6_goneOn_1 : decode cX6_goneOn 1 = .ok (.getfield 10, 3) := by decide +kernel
theorem dX6_goneOn_4 : decode cX6_goneOn 4 = .ok (.getfield 122, 3) := by decide +kernel
theorem dX6_goneOn_7 : decode cX6_goneOn 7 = .ok (.iload_n 1, 1) := by decide +kernel
theorem dX6_goneOn_8 : decode cX6_goneOn 8 = .ok (.invokevirtual 126, 3) := by decide +kernel
theorem dX6_goneOn_11 : decode cX6_goneOn 11 = .ok (.ifCond .ne 5, 3) := by decide +kernel
theorem dX6_goneOn_14 : decode cX6_goneOn 14 = .ok (.iconst (-1), 1) := by decide +kernel
theorem dX6_goneOn_15 : decode cX6_goneOn 15 = .ok (.ireturn, 1) := by decide +kernel
theorem dX6_goneOn_16 : decode cX6_goneOn 16 = .ok (.aload_n 0, 1) := by decide +kernel
theorem dX6_goneOn_17 : decode cX6_goneOn 17 = .ok (.getfield 10, 3) := by decide +kernel
theorem dX6_goneOn_20 : decode cX6_goneOn 20 = .ok (.getfield 122, 3) := by decide +kernel
theorem dX6_goneOn_23 : decode cX6_goneOn 23 = .ok (.iload_n 1, 1) := by decide +kernel
theorem dX6_goneOn_24 : decode cX6_goneOn 24 = .ok (.invokevirtual 195, 3) := by decide +kernel
theorem dX6_goneOn_27 : decode cX6_goneOn 27 = .ok (.ifCond .ne 6, 3) := by decide +kernel
theorem dX6_goneOn_30 : decode cX6_goneOn 30 = .ok (.bipush (-2), 2) := by decide +kernel
theorem dX6_goneOn_32 : decode cX6_goneOn 32 = .ok (.ireturn, 1) := by decide +kernel
theorem dX6_goneOn_33 : decode cX6_goneOn 33 = .ok (.aload_n 0, 1) := by decide +kernel
theorem dX6_goneOn_34 : decode cX6_goneOn 34 = .ok (.getfield 16, 3) := by decide +kernel
theorem dX6_goneOn_37 : decode cX6_goneOn 37 = .ok (.aload_n 0, 1) := by decide +kernel
theorem dX6_goneOn_38 : decode cX6_goneOn 38 = .ok (.getfield 10, 3) := by decide +kernel
theorem dX6_goneOn_41 : decode cX6_goneOn 41 = .ok (.invokevirtual 198, 3) := by decide +kernel
theorem dX6_goneOn_44 : decode cX6_goneOn 44 = .ok (.aload_n 0, 1) := by decide +kernel
theorem dX6_goneOn_45 : decode cX6_goneOn 45 = .ok (.getfield 16, 3) := by decide +kernel
theorem dX6_goneOn_48 : decode cX6_goneOn 48 = .ok (.iload_n 1, 1) := by decide +kernel
theorem dX6_goneOn_49 : decode cX6_goneOn 49 = .ok (.invokevirtual 201, 3) := by decide +kernel
theorem dX6_goneOn_52 : decode cX6_goneOn 52 = .ok (.ireturn, 1) := by decide +kernel
set_option maxRecDepth 20000 in
theorem ggX6_outOn_X4_isKind : GoodIn wsX6_outOn wsX4_isKind := goodIn_r _ [6] (by decide +kernel) (by decide +kernel)
set_option maxRecDepth 20000 in
theorem gX6_outOn_X4_isKind : GoodIn wsX6_outOn (va_wsS RX6 84 yX4_isKind wsX4_isKind) := goodIn_app (goodIn_of _ (by decide +kernel)) ggX6_outOn_X4_isKind
set_option maxRecDepth 20000 in
theorem ggX6_outOn_X1_copyFrom : GoodIn wsX6_outOn wsX1_copyFrom := goodIn_r _ [11, 12, 13, 14, 15, 16, 17, 18, 19, 20, 21, 22, 23, 24, 25, 26, 27, 28, 5, 29, 30, 31, 32, 33, 34, 35, 36, 37, 38, 39, 40, 41, 42, 43, 44, 45, 46, 47, 48, 49, 50, 51, 52, 53, 54, 122, 123, 124, 125, 126, 127, 128, 129, 130, 131, 132, 133, 134, 135, 136, 137, 138, 139, 140, 141, 142, 143, 144, 145, 146, 147, 148, 149] (by decide +kernel) (by decide +kernel)
set_option maxRecDepth 20000 in
theorem gX6_outOn_X1_copyFrom : GoodIn wsX6_outOn (wsV RX6 198 RX1 yX1_copyFrom wsX1_copyFrom) := goodIn_app (goodIn_of _ (by decide +kernel)) ggX6_outOn_X1_copyFrom
set_option maxRecDepth 20000 in
theorem ggX6_outOn_X1_dayWhenOut : GoodIn wsX6_outOn wsX1_dayWhenOut := goodIn_r _ [58, 13, 12, 20, 59, 60, 61, 45, 62, 54, 51, 63, 64, 65, 10, 66, 19, 25, 67, 68, 69, 70, 22, 23, 24, 71, 72, 73, 74, 14, 75, 76, 77, 78, 52, 50, 79, 80, 81, 82, 47, 83, 84, 85, 86, 49, 53, 87, 88, 89, 5, 90, 40, 30, 32, 91, 92, 93, 94, 95, 96, 97, 98, 38, 99, 100, 101, 102, 103, 104, 105, 106, 107, 108, 109, 110, 33, 39, 111, 112, 113, 114, 122, 123, 124, 125, 126, 127, 128, 129, 130, 131, 143, 144, 145, 146, 147, 148, 149, 132, 133, 134, 135, 136, 137, 138, 139, 140, 141, 142] (by decide +kernel) (by decide +kernel)
set_option maxRecDepth 20000 in
theorem gX6_outOn_X1_dayWhenOut : GoodIn wsX6_outOn (wsV RX6 204 RX1 yX1_dayWhenOut wsX1_dayWhenOut) := goodIn_app (goodIn_of _ (by decide +kernel)) ggX6_outOn_X1_dayWhenOut
theorem dX6_outOn_0 : decode cX6_outOn 0 = .ok (.iload_n 1, 1) := by decide +kernel
theorem dX6_outOn_1 : decode cX6_outOn 1 = .ok (.invokestatic 84, 3) := by decide +kernel
theorem dX6_outOn_4 : decode cX6_outOn 4 = .ok (.ifCond .ne 5, 3) := by decide +kernel
theorem dX6_outOn_7 : decode cX6_outOn 7 = .ok (.iconst (-1), 1) := by decide +kernel
theorem dX6_outOn_8 : decode cX6_outOn 8 = .ok (.ireturn, 1) := by decide +kernel
theorem dX6_outOn_9 : decode cX6_outOn 9 = .ok (.aload_n 0, 1) := by decide +kernel
theorem dX6_outOn_10 : decode cX6_outOn 10 = .ok (.getfield 16, 3) := by decide +kernel
theorem dX6_outOn_13 : decode cX6_outOn 13 = .ok (.aload_n 0, 1) := by decide +kernel
theorem dX6_outOn_14 : decode cX6_outOn 14 = .ok (.getfield 10, 3) := by decide +kernel
theorem dX6_outOn_17 : decode cX6_outOn 17 = .ok (.invokevirtual 198, 3) := by decide +kernel
theorem dX6_outOn_20 : decode cX6_outOn 20 = .ok (.aload_n 0, 1) := by decide +kernel
theorem dX6_outOn_21 : decode cX6_outOn 21 = .ok (.getfield 16, 3) := by decide +kernel
theorem dX6_outOn_24 : decode cX6_outOn 24 = .ok (.iload_n 1, 1) := by decide +kernel
theorem dX6_outOn_25 : decode cX6_outOn 25 = .ok (.invokevirtual 204, 3) := by decide +kernel
theorem dX6_outOn_28 : decode cX6_outOn 28 = .ok (.ireturn, 1) := by decide +kernel
set_option maxRecDepth 20000 in
theorem ggX6_most_X1_mayBeBooked : GoodIn wsX6_most wsX1_mayBeBooked := goodIn_r _ [9, 10, 129, 130, 131, 132, 133, 134, 135, 136, 137, 138] (by decide +kernel) (by decide +kernel)
set_option maxRecDepth 20000 in
theorem gX6_most_X1_mayBeBooked : GoodIn wsX6_most (wsV RX6 207 RX1 yX1_mayBeBooked wsX1_mayBeBooked) := goodIn_app (goodIn_of _ (by decide +kernel)) ggX6_most_X1_mayBeBooked
set_option maxRecDepth 20000 in
theorem ggX6_most_X1_wouldSuffice : GoodIn wsX6_most wsX1_wouldSuffice := goodIn_r _ [14, 15, 16, 17, 18, 8, 19, 20, 21, 22, 23, 24, 25, 26, 10, 27, 28, 29, 30, 31, 32, 33, 34, 35, 36, 37, 38, 39, 40, 41, 42, 43, 44, 45, 46, 47, 48, 49, 50, 51, 52, 53, 54, 55, 56, 57, 58, 59, 60, 61, 62, 63, 64, 65, 66, 67, 68, 69, 70, 71, 72, 73, 74, 75, 76, 77, 78, 79, 80, 81, 82, 83, 84, 85, 86, 87, 88, 89, 90, 91, 92, 93, 94, 95, 96, 97, 98, 99, 100, 101, 102, 103, 104, 105, 106, 107, 108, 109, 110, 111, 112, 113, 114, 115, 116, 117, 118, 119, 120, 121, 129, 130, 131, 132, 133, 134, 135, 136, 137, 138, 146, 147, 148, 149, 150, 151, 152, 153, 154, 155, 156, 139, 140, 141, 142, 143, 144, 145] (by decide +kernel) (by decide +kernel)
set_option maxRecDepth 20000 in
theorem gX6_most_X1_wouldSuffice : GoodIn wsX6_most (wsV RX6 211 RX1 yX1_wouldSuffice wsX1_wouldSuffice) := goodIn_app (goodIn_of _ (by decide +kernel)) ggX6_most_X1_wouldSuffice
theorem dX6_most_0 : decode cX6_most 0 = .ok (.aload_n 0, 1) := by decide +kernel
theorem dX6_most_1 : decode cX6_most 1 = .ok (.getfield 10, 3) := by decide +kernel
theorem dX6_most_4 : decode cX6_most 4 = .ok (.iconst 1, 1) := by decide +kernel
theorem dX6_most_5 : decode cX6_most 5 = .ok (.iload_n 1, 1) := by decide +kernel
theorem dX6_most_6 : decode cX6_most 6 = .ok (.iload_n 2, 1) := by decide +kernel
theorem dX6_most_7 : decode cX6_most 7 = .ok (.invokevirtual 207, 3) := by decide +kernel
theorem dX6_most_10 : decode cX6_most 10 = .ok (.ifCond .ne 5, 3) := by decide +kernel
theorem dX6_most_13 : decode cX6_most 13 = .ok (.iconst (-1), 1) := by decide +kernel
theorem dX6_most_14 : decode cX6_most 14 = .ok (.ireturn, 1) := by decide +kernel
theorem dX6_most_15 : decode cX6_most 15 = .ok (.aload_n 0, 1) := by decide +kernel
theorem dX6_most_16 : decode cX6_most 16 = .ok (.getfield 10, 3) := by decide +kernel
theorem dX6_most_19 : decode cX6_most 19 = .ok (.getfield 122, 3) := by decide +kernel
theorem dX6_most_22 : decode cX6_most 22 = .ok (.getfield 154, 3) := by decide +kernel
theorem dX6_most_25 : decode cX6_most 25 = .ok (.bipush 16, 2) := by decide +kernel
theorem dX6_most_27 : decode cX6_most 27 = .ok (.if_icmp .lt 6, 3) := by decide +kernel
theorem dX6_most_30 : decode cX6_most 30 = .ok (.bipush (-3), 2) := by decide +kernel
theorem dX6_most_32 : decode cX6_most 32 = .ok (.ireturn, 1) := by decide +kernel
theorem dX6_most_33 : decode cX6_most 33 = .ok (.bipush 6, 2) := by decide +kernel
theorem dX6_most_35 : decode cX6_most 35 = .ok (.istore_n 3, 1) := by decide +kernel
theorem dX6_most_36 : decode cX6_most 36 = .ok (.iload_n 3, 1) := by decide +kernel
theorem dX6_most_37 : decode cX6_most 37 = .ok (.iconst 1, 1) := by decide +kernel
theorem dX6_most_38 : decode cX6_most 38 = .ok (.if_icmp .lt 28, 3) := by decide +kernel
theorem dX6_most_41 : decode cX6_most 41 = .ok (.aload_n 0, 1) := by decide +kernel
theorem dX6_most_42 : decode cX6_most 42 = .ok (.getfield 16, 3) := by decide +kernel
theorem dX6_most_45 : decode cX6_most 45 = .ok (.aload_n 0, 1) := by decide +kernel
theorem dX6_most_46 : decode cX6_most 46 = .ok (.getfield 10, 3) := by decide +kernel
theorem dX6_most_49 : decode cX6_most 49 = .ok (.iload_n 3, 1) := by decide +kernel
theorem dX6_most_50 : decode cX6_most 50 = .ok (.iload_n 1, 1) := by decide +kernel
theorem dX6_most_51 : decode cX6_most 51 = .ok (.iload_n 2, 1) := by decide +kernel
theorem dX6_most_52 : decode cX6_most 52 = .ok (.invokevirtual 211, 3) := by decide +kernel
theorem dX6_most_55 : decode cX6_most 55 = .ok (.ifCond .eq 5, 3) := by decide +kernel
theorem dX6_most_58 : decode cX6_most 58 = .ok (.iload_n 3, 1) := by decide +kernel
theorem dX6_most_59 : decode cX6_most 59 = .ok (.ireturn, 1) := by decide +kernel
theorem dX6_most_60 : decode cX6_most 60 = .ok (.iinc 3 (-1), 3) := by decide +kernel
theorem dX6_most_63 : decode cX6_most 63 = .ok (.goto (-27), 3) := by decide +kernel
theorem dX6_most_66 : decode cX6_most 66 = .ok (.iconst 0, 1) := by decide +kernel
theorem dX6_most_67 : decode cX6_most 67 = .ok (.ireturn, 1) := by decide +kernel
set_option maxRecDepth 20000 in
theorem ggX6_keep_X1_copyFrom : GoodIn wsX6_keep wsX1_copyFrom := goodIn_r _ [9, 10, 11, 12, 13, 14, 15, 16, 17, 18, 19, 20, 21, 22, 23, 24, 25, 26, 27, 28, 29, 30, 31, 32, 33, 34, 35, 36, 37, 38, 39, 40, 41, 42, 43, 44, 45, 46, 47, 48, 49, 50, 51, 52, 53, 61, 62, 63, 64, 65, 66, 67, 68, 69, 70, 71, 72, 73, 74, 75, 76, 77, 78, 79, 80, 81, 82, 83, 84, 85, 86, 87, 88] (by decide +kernel) (by decide +kernel)
set_option maxRecDepth 20000 in
theorem gX6_keep_X1_copyFrom : GoodIn wsX6_keep (wsV RX6 198 RX1 yX1_copyFrom wsX1_copyFrom) := goodIn_app (goodIn_of _ (by decide +kernel)) ggX6_keep_X1_copyFrom
theorem dX6_keep_0 : decode cX6_keep 0 = .ok (.aload_n 0, 1) := by decide +kernel
theorem dX6_keep_1 : decode cX6_keep 1 = .ok (.getfield 19, 3) := by decide +kernel
theorem dX6_keep_4 : decode cX6_keep 4 = .ok (.aload_n 0, 1) := by decide +kernel
theorem dX6_keep_5 : decode cX6_keep 5 = .ok (.getfield 10, 3) := by decide +kernel
theorem dX6_keep_8 : decode cX6_keep 8 = .ok (.invokevirtual 198, 3) := by decide +kernel
theorem dX6_keep_11 : decode cX6_keep 11 = .ok (.aload_n 0, 1) := by decide +kernel
theorem dX6_keep_12 : decode cX6_keep 12 = .ok (.iconst 1, 1) := by decide +kernel
theorem dX6_keep_13 : decode cX6_keep 13 = .ok (.putfield 45, 3) := by decide +kernel
theorem dX6_keep_16 : decode cX6_keep 16 = .ok (.aload_n 0, 1) := by decide +kernel
theorem dX6_keep_17 : decode cX6_keep 17 = .ok (.getfield 10, 3) := by decide +kernel
theorem dX6_keep_20 : decode cX6_keep 20 = .ok (.getfield 164, 3) := by decide +kernel
theorem dX6_keep_23 : decode cX6_keep 23 = .ok (.ireturn, 1) := by decide +kernel
set_option maxRecDepth 20000 in
theorem ggX6_restore_X0_prepare : GoodIn wsX6_restore wsX0_prepare := goodIn_r _ [10, 11, 12, 13, 14, 15, 16, 17, 18, 19, 20, 21, 22, 23, 24, 25, 26, 27, 28, 29, 30, 31, 32, 33, 34, 35, 36, 37, 38, 39, 40, 41, 42, 43, 44, 45, 46, 47, 48, 49, 50, 51, 52, 53, 54, 55, 56, 57, 58, 59, 60, 61, 89, 90, 79, 80, 81, 82, 83, 84, 85, 86, 87, 88, 91, 92, 93, 94, 95, 96, 97, 98, 99, 100, 101, 102, 103, 104, 105, 106, 107, 108] (by decide +kernel) (by decide +kernel)
set_option maxRecDepth 20000 in
theorem gX6_restore_X0_prepare : GoodIn wsX6_restore (wsV RX6 49 RX0 yX0_prepare wsX0_prepare) := goodIn_app (goodIn_of _ (by decide +kernel)) ggX6_restore_X0_prepare
set_option maxRecDepth 20000 in
theorem ggX6_restore_X1_copyFrom : GoodIn wsX6_restore wsX1_copyFrom := goodIn_r _ [17, 18, 19, 20, 21, 22, 23, 24, 25, 26, 27, 28, 29, 30, 31, 32, 33, 34, 35, 36, 37, 38, 39, 40, 41, 42, 43, 44, 45, 46, 47, 48, 49, 50, 51, 52, 53, 54, 55, 56, 57, 58, 59, 60, 61, 79, 80, 81, 82, 83, 84, 85, 86, 87, 88, 91, 92, 93, 94, 95, 96, 97, 98, 99, 100, 101, 102, 103, 104, 105, 106, 107, 108] (by decide +kernel) (by decide +kernel)
set_option maxRecDepth 20000 in
theorem gX6_restore_X1_copyFrom : GoodIn wsX6_restore (wsV RX6 198 RX1 yX1_copyFrom wsX1_copyFrom) := goodIn_app (goodIn_of _ (by decide +kernel)) ggX6_restore_X1_copyFrom
set_option maxRecDepth 20000 in
theorem ggX6_restore_X6_recorded : GoodIn wsX6_restore wsX6_recorded := goodIn_r _ [67, 2, 68, 69, 70, 9, 71, 11, 12, 72, 73, 74, 75, 76, 77, 78, 89, 90] (by decide +kernel) (by decide +kernel)
set_option maxRecDepth 20000 in
theorem gX6_restore_X6_recorded : GoodIn wsX6_restore (wsV RX6 56 RX6 yX6_recorded wsX6_recorded) := goodIn_app (goodIn_of _ (by decide +kernel)) ggX6_restore_X6_recorded
theorem dX6_restore_0 : decode cX6_restore 0 = .ok (.aload_n 0, 1) := by decide +kernel
theorem dX6_restore_1 : decode cX6_restore 1 = .ok (.getfield 45, 3) := by decide +kernel
theorem dX6_restore_4 : decode cX6_restore 4 = .ok (.ifCond .ne 6, 3) := by decide +kernel
theorem dX6_restore_7 : decode cX6_restore 7 = .ok (.bipush (-2), 2) := by decide +kernel
theorem dX6_restore_9 : decode cX6_restore 9 = .ok (.ireturn, 1) := by decide +kernel
theorem dX6_restore_10 : decode cX6_restore 10 = .ok (.aload_n 0, 1) := by decide +kernel
theorem dX6_restore_11 : decode cX6_restore 11 = .ok (.getfield 25, 3) := by decide +kernel
theorem dX6_restore_14 : decode cX6_restore 14 = .ok (.aload_n 0, 1) := by decide +kernel
theorem dX6_restore_15 : decode cX6_restore 15 = .ok (.getfield 10, 3) := by decide +kernel
theorem dX6_restore_18 : decode cX6_restore 18 = .ok (.invokevirtual 49, 3) := by decide +kernel
theorem dX6_restore_21 : decode cX6_restore 21 = .ok (.aload_n 0, 1) := by decide +kernel
theorem dX6_restore_22 : decode cX6_restore 22 = .ok (.getfield 10, 3) := by decide +kernel
theorem dX6_restore_25 : decode cX6_restore 25 = .ok (.aload_n 0, 1) := by decide +kernel
theorem dX6_restore_26 : decode cX6_restore 26 = .ok (.getfield 19, 3) := by decide +kernel
theorem dX6_restore_29 : decode cX6_restore 29 = .ok (.invokevirtual 198, 3) := by decide +kernel
theorem dX6_restore_32 : decode cX6_restore 32 = .ok (.aload_n 0, 1) := by decide +kernel
theorem dX6_restore_33 : decode cX6_restore 33 = .ok (.aload_n 0, 1) := by decide +kernel
theorem dX6_restore_34 : decode cX6_restore 34 = .ok (.getfield 10, 3) := by decide +kernel
theorem dX6_restore_37 : decode cX6_restore 37 = .ok (.getfield 164, 3) := by decide +kernel
theorem dX6_restore_40 : decode cX6_restore 40 = .ok (.invokevirtual 56, 3) := by decide +kernel
theorem dX6_restore_43 : decode cX6_restore 43 = .ok (.ireturn, 1) := by decide +kernel
set_option maxRecDepth 20000 in
theorem ggX6_undo_X0_takeBack : GoodIn wsX6_undo wsX0_takeBack := goodIn_r _ [8, 9, 10, 11, 12, 13, 14, 15, 16, 17, 18, 19, 20, 21, 22, 23, 24, 25, 26, 27, 28, 29, 30, 31, 32, 33, 34, 35, 36, 37, 38, 39, 40, 41, 42, 43, 44, 45, 46, 47, 48, 49, 50, 51, 52, 53, 54, 55, 56, 57, 58, 59, 67, 68, 69, 70, 71, 72, 73, 74, 75, 76, 77, 78, 79, 80, 81, 82, 83, 84, 85, 86, 87, 88, 89, 90, 91, 92, 93, 94, 95, 96] (by decide +kernel) (by decide +kernel)
set_option maxRecDepth 20000 in
theorem gX6_undo_X0_takeBack : GoodIn wsX6_undo (wsV RX6 215 RX0 yX0_takeBack wsX0_takeBack) := goodIn_app (goodIn_of _ (by decide +kernel)) ggX6_undo_X0_takeBack
theorem dX6_undo_0 : decode cX6_undo 0 = .ok (.aload_n 0, 1) := by decide +kernel
theorem dX6_undo_1 : decode cX6_undo 1 = .ok (.getfield 25, 3) := by decide +kernel
theorem dX6_undo_4 : decode cX6_undo 4 = .ok (.getfield 188, 3) := by decide +kernel
theorem dX6_undo_7 : decode cX6_undo 7 = .ok (.ifCond .ne 6, 3) := by decide +kernel
theorem dX6_undo_10 : decode cX6_undo 10 = .ok (.bipush (-2), 2) := by decide +kernel
theorem dX6_undo_12 : decode cX6_undo 12 = .ok (.ireturn, 1) := by decide +kernel
theorem dX6_undo_13 : decode cX6_undo 13 = .ok (.aload_n 0, 1) := by decide +kernel
theorem dX6_undo_14 : decode cX6_undo 14 = .ok (.getfield 25, 3) := by decide +kernel
theorem dX6_undo_17 : decode cX6_undo 17 = .ok (.aload_n 0, 1) := by decide +kernel
theorem dX6_undo_18 : decode cX6_undo 18 = .ok (.getfield 10, 3) := by decide +kernel
theorem dX6_undo_21 : decode cX6_undo 21 = .ok (.invokevirtual 215, 3) := by decide +kernel
theorem dX6_undo_24 : decode cX6_undo 24 = .ok (.aload_n 0, 1) := by decide +kernel
theorem dX6_undo_25 : decode cX6_undo 25 = .ok (.getfield 25, 3) := by decide +kernel
theorem dX6_undo_28 : decode cX6_undo 28 = .ok (.getfield 188, 3) := by decide +kernel
theorem dX6_undo_31 : decode cX6_undo 31 = .ok (.ireturn, 1) := by decide +kernel
set_option maxRecDepth 20000 in
theorem ggX6_type_X5_append : GoodIn wsX6_type wsX5_append := goodIn_r _ [7, 8, 9, 17, 18, 19, 20, 21] (by decide +kernel) (by decide +kernel)
set_option maxRecDepth 20000 in
theorem gX6_type_X5_append : GoodIn wsX6_type (wsV RX6 218 RX5 yX5_append wsX5_append) := goodIn_app (goodIn_of _ (by decide +kernel)) ggX6_type_X5_append
theorem dX6_type_0 : decode cX6_type 0 = .ok (.iload_n 1, 1) := by decide +kernel
theorem dX6_type_1 : decode cX6_type 1 = .ok (.bipush 32, 2) := by decide +kernel
theorem dX6_type_3 : decode cX6_type 3 = .ok (.if_icmp .lt 9, 3) := by decide +kernel
theorem dX6_type_6 : decode cX6_type 6 = .ok (.iload_n 1, 1) := by decide +kernel
theorem dX6_type_7 : decode cX6_type 7 = .ok (.bipush 126, 2) := by decide +kernel
theorem dX6_type_9 : decode cX6_type 9 = .ok (.if_icmp .le 5, 3) := by decide +kernel
theorem dX6_type_12 : decode cX6_type 12 = .ok (.iconst (-1), 1) := by decide +kernel
theorem dX6_type_13 : decode cX6_type 13 = .ok (.ireturn, 1) := by decide +kernel
theorem dX6_type_14 : decode cX6_type 14 = .ok (.aload_n 0, 1) := by decide +kernel
theorem dX6_type_15 : decode cX6_type 15 = .ok (.getfield 32, 3) := by decide +kernel
theorem dX6_type_18 : decode cX6_type 18 = .ok (.getfield 191, 3) := by decide +kernel
theorem dX6_type_21 : decode cX6_type 21 = .ok (.bipush 60, 2) := by decide +kernel
theorem dX6_type_23 : decode cX6_type 23 = .ok (.if_icmp .lt 6, 3) := by decide +kernel
theorem dX6_type_26 : decode cX6_type 26 = .ok (.bipush (-3), 2) := by decide +kernel
theorem dX6_type_28 : decode cX6_type 28 = .ok (.ireturn, 1) := by decide +kernel
theorem dX6_type_29 : decode cX6_type 29 = .ok (.aload_n 0, 1) := by decide +kernel
theorem dX6_type_30 : decode cX6_type 30 = .ok (.getfield 32, 3) := by decide +kernel
theorem dX6_type_33 : decode cX6_type 33 = .ok (.iload_n 1, 1) := by decide +kernel
theorem dX6_type_34 : decode cX6_type 34 = .ok (.invokevirtual 218, 3) := by decide +kernel
theorem dX6_type_37 : decode cX6_type 37 = .ok (.aload_n 0, 1) := by decide +kernel
theorem dX6_type_38 : decode cX6_type 38 = .ok (.getfield 32, 3) := by decide +kernel
theorem dX6_type_41 : decode cX6_type 41 = .ok (.getfield 191, 3) := by decide +kernel
theorem dX6_type_44 : decode cX6_type 44 = .ok (.ireturn, 1) := by decide +kernel
theorem dX6_clearText_0 : decode cX6_clearText 0 = .ok (.aload_n 0, 1) := by decide +kernel
theorem dX6_clearText_1 : decode cX6_clearText 1 = .ok (.getfield 32, 3) := by decide +kernel
theorem dX6_clearText_4 : decode cX6_clearText 4 = .ok (.getfield 191, 3) := by decide +kernel
theorem dX6_clearText_7 : decode cX6_clearText 7 = .ok (.istore_n 1, 1) := by decide +kernel
theorem dX6_clearText_8 : decode cX6_clearText 8 = .ok (.aload_n 0, 1) := by decide +kernel
theorem dX6_clearText_9 : decode cX6_clearText 9 = .ok (.getfield 32, 3) := by decide +kernel
theorem dX6_clearText_12 : decode cX6_clearText 12 = .ok (.iconst 0, 1) := by decide +kernel
theorem dX6_clearText_13 : decode cX6_clearText 13 = .ok (.putfield 191, 3) := by decide +kernel
theorem dX6_clearText_16 : decode cX6_clearText 16 = .ok (.iload_n 1, 1) := by decide +kernel
theorem dX6_clearText_17 : decode cX6_clearText 17 = .ok (.ireturn, 1) := by decide +kernel
set_option maxRecDepth 20000 in
theorem ggX6_fault_X3_run : GoodIn wsX6_fault wsX3_run := goodIn_r _ [11, 12, 13, 14, 15, 16, 17, 18, 19, 20, 21, 22, 23, 24, 25, 26, 27, 28, 29, 30, 31, 32, 33, 34, 35, 36, 37, 38, 39, 40, 41, 42, 43, 44, 45, 46, 47, 48, 49, 50, 51, 52, 53, 54, 55, 56, 57, 58, 59, 60, 61, 62, 63, 64, 65, 66, 67, 68, 69, 70, 71, 72, 73, 74, 75, 76, 77, 78, 79, 80, 81, 82, 83, 84, 85, 86, 87, 88, 89, 90, 91, 92, 93, 94, 95, 96, 97, 98, 99, 100, 101, 102, 10, 103, 104, 105, 106, 107, 108, 109, 110, 111, 112, 113, 114, 115, 116, 117, 118, 119, 120, 121, 122, 123, 124, 125, 126, 127, 128, 129, 130, 131, 132, 133, 134, 135, 136, 137, 138, 139, 140, 141, 142, 143, 144, 145, 146, 147, 148, 149, 150, 151, 152, 153, 154, 155, 156, 157, 158, 159, 160, 161, 162, 163, 164, 165, 166, 167, 168, 169, 170, 171, 172, 173, 174, 175, 176, 177, 178, 179, 180, 181, 182, 183, 184, 185, 186, 187, 188, 189, 190, 191, 192, 193, 194, 195, 196, 197, 198, 199, 200, 201, 202, 203, 204, 205, 206, 207, 208, 209, 210, 211, 212, 213, 214, 215, 216, 217, 218, 219, 220, 221, 222, 223, 224, 232, 233, 234, 235, 236, 237, 238, 239, 240, 241, 242, 243, 244, 245, 246, 247, 248, 249, 250, 251, 252, 253, 254, 255, 256, 257, 258, 259, 260, 261, 262, 263, 264, 265, 266, 267, 268, 269, 270] (by decide +kernel) (by decide +kernel)
set_option maxRecDepth 20000 in
theorem gX6_fault_X3_run : GoodIn wsX6_fault (wsV RX6 222 RX3 yX3_run wsX3_run) := goodIn_app (goodIn_of _ (by decide +kernel)) ggX6_fault_X3_run
theorem dX6_fault_0 : decode cX6_fault 0 = .ok (.iload_n 1, 1) := by decide +kernel
theorem dX6_fault_1 : decode cX6_fault 1 = .ok (.ifCond .lt 8, 3) := by decide +kernel
theorem dX6_fault_4 : decode cX6_fault 4 = .ok (.iload_n 1, 1) := by decide +kernel
theorem dX6_fault_5 : decode cX6_fault 5 = .ok (.iconst 2, 1) := by decide +kernel
theorem dX6_fault_6 : decode cX6_fault 6 = .ok (.if_icmp .le 5, 3) := by decide +kernel
theorem dX6_fault_9 : decode cX6_fault 9 = .ok (.iconst (-1), 1) := by decide +kernel
theorem dX6_fault_10 : decode cX6_fault 10 = .ok (.ireturn, 1) := by decide +kernel
theorem dX6_fault_11 : decode cX6_fault 11 = .ok (.aload_n 0, 1) := by decide +kernel
theorem dX6_fault_12 : decode cX6_fault 12 = .ok (.getfield 41, 3) := by decide +kernel
theorem dX6_fault_15 : decode cX6_fault 15 = .ok (.aload_n 0, 1) := by decide +kernel
theorem dX6_fault_16 : decode cX6_fault 16 = .ok (.getfield 32, 3) := by decide +kernel
theorem dX6_fault_19 : decode cX6_fault 19 = .ok (.aload_n 0, 1) := by decide +kernel
theorem dX6_fault_20 : decode cX6_fault 20 = .ok (.getfield 10, 3) := by decide +kernel
theorem dX6_fault_23 : decode cX6_fault 23 = .ok (.invokevirtual 222, 3) := by decide +kernel
theorem dX6_fault_26 : decode cX6_fault 26 = .ok (.aload_n 0, 1) := by decide +kernel
theorem dX6_fault_27 : decode cX6_fault 27 = .ok (.getfield 41, 3) := by decide +kernel
theorem dX6_fault_30 : decode cX6_fault 30 = .ok (.getfield 226, 3) := by decide +kernel
theorem dX6_fault_33 : decode cX6_fault 33 = .ok (.ifCond .ne 6, 3) := by decide +kernel
theorem dX6_fault_36 : decode cX6_fault 36 = .ok (.bipush (-4), 2) := by decide +kernel
theorem dX6_fault_38 : decode cX6_fault 38 = .ok (.ireturn, 1) := by decide +kernel
theorem dX6_fault_39 : decode cX6_fault 39 = .ok (.iload_n 1, 1) := by decide +kernel
theorem dX6_fault_40 : decode cX6_fault 40 = .ok (.ifCond .ne 11, 3) := by decide +kernel
theorem dX6_fault_43 : decode cX6_fault 43 = .ok (.aload_n 0, 1) := by decide +kernel
theorem dX6_fault_44 : decode cX6_fault 44 = .ok (.getfield 41, 3) := by decide +kernel
theorem dX6_fault_47 : decode cX6_fault 47 = .ok (.getfield 229, 3) := by decide +kernel
theorem dX6_fault_50 : decode cX6_fault 50 = .ok (.ireturn, 1) := by decide +kernel
theorem dX6_fault_51 : decode cX6_fault 51 = .ok (.iload_n 1, 1) := by decide +kernel
theorem dX6_fault_52 : decode cX6_fault 52 = .ok (.iconst 1, 1) := by decide +kernel
theorem dX6_fault_53 : decode cX6_fault 53 = .ok (.if_icmp .ne 11, 3) := by decide +kernel
theorem dX6_fault_56 : decode cX6_fault 56 = .ok (.aload_n 0, 1) := by decide +kernel
theorem dX6_fault_57 : decode cX6_fault 57 = .ok (.getfield 41, 3) := by decide +kernel
theorem dX6_fault_60 : decode cX6_fault 60 = .ok (.getfield 226, 3) := by decide +kernel
theorem dX6_fault_63 : decode cX6_fault 63 = .ok (.ireturn, 1) := by decide +kernel
theorem dX6_fault_64 : decode cX6_fault 64 = .ok (.aload_n 0, 1) := by decide +kernel
theorem dX6_fault_65 : decode cX6_fault 65 = .ok (.getfield 41, 3) := by decide +kernel
theorem dX6_fault_68 : decode cX6_fault 68 = .ok (.getfield 226, 3) := by decide +kernel
theorem dX6_fault_71 : decode cX6_fault 71 = .ok (.iconst 1, 1) := by decide +kernel
theorem dX6_fault_72 : decode cX6_fault 72 = .ok (.if_icmp .ne 8, 3) := by decide +kernel
theorem dX6_fault_75 : decode cX6_fault 75 = .ok (.bipush (-4), 2) := by decide +kernel
theorem dX6_fault_77 : decode cX6_fault 77 = .ok (.goto 10, 3) := by decide +kernel
theorem dX6_fault_80 : decode cX6_fault 80 = .ok (.aload_n 0, 1) := by decide +kernel
theorem dX6_fault_81 : decode cX6_fault 81 = .ok (.getfield 41, 3) := by decide +kernel
theorem dX6_fault_84 : decode cX6_fault 84 = .ok (.getfield 232, 3) := by decide +kernel
theorem dX6_fault_87 : decode cX6_fault 87 = .ok (.ireturn, 1) := by decide +kernel
set_option maxRecDepth 20000 in
theorem ggX6_play_X3_run : GoodIn wsX6_play wsX3_run := goodIn_r _ [12, 13, 14, 15, 16, 17, 18, 19, 20, 21, 22, 23, 24, 25, 26, 27, 28, 29, 30, 31, 32, 33, 34, 35, 36, 37, 38, 39, 40, 41, 42, 43, 44, 45, 46, 47, 48, 49, 50, 51, 52, 53, 54, 55, 56, 57, 58, 59, 60, 61, 62, 63, 64, 65, 66, 67, 68, 69, 70, 71, 72, 73, 74, 75, 76, 77, 78, 79, 80, 81, 82, 83, 84, 85, 86, 87, 88, 89, 90, 91, 92, 93, 94, 95, 96, 97, 98, 99, 100, 101, 102, 103, 11, 104, 105, 106, 107, 108, 109, 110, 111, 112, 113, 114, 115, 116, 117, 118, 119, 120, 121, 122, 123, 124, 125, 126, 127, 128, 129, 130, 131, 132, 133, 134, 135, 136, 137, 138, 139, 140, 141, 142, 143, 144, 145, 146, 147, 148, 149, 150, 151, 152, 153, 154, 155, 156, 157, 158, 159, 160, 161, 162, 163, 164, 165, 166, 167, 168, 169, 170, 171, 172, 173, 174, 175, 176, 177, 178, 179, 180, 181, 182, 183, 184, 185, 186, 187, 188, 189, 190, 191, 192, 193, 194, 195, 196, 197, 198, 199, 200, 201, 202, 203, 204, 205, 206, 207, 208, 209, 210, 211, 212, 213, 214, 215, 216, 217, 218, 219, 220, 221, 222, 223, 224, 225, 251, 252, 253, 254, 255, 256, 257, 258, 259, 260, 261, 262, 263, 264, 265, 266, 267, 268, 269, 270, 271, 272, 273, 274, 275, 276, 277, 278, 279, 280, 281, 282, 283, 284, 285, 286, 287, 288, 289] (by decide +kernel) (by decide +kernel)
set_option maxRecDepth 20000 in
theorem gX6_play_X3_run : GoodIn wsX6_play (wsV RX6 222 RX3 yX3_run wsX3_run) := goodIn_app (goodIn_of _ (by decide +kernel)) ggX6_play_X3_run
set_option maxRecDepth 20000 in
theorem ggX6_play_X0_prepare : GoodIn wsX6_play wsX0_prepare := goodIn_r _ [230, 231, 232, 233, 23, 24, 25, 26, 27, 28, 29, 30, 31, 32, 33, 34, 35, 36, 37, 38, 39, 40, 41, 42, 43, 44, 45, 46, 47, 48, 49, 50, 51, 52, 53, 54, 55, 56, 57, 58, 59, 60, 61, 62, 63, 64, 65, 66, 67, 68, 69, 70, 290, 291, 262, 263, 264, 265, 266, 267, 268, 269, 270, 271, 272, 273, 274, 275, 276, 277, 278, 279, 280, 281, 282, 283, 284, 285, 286, 287, 288, 289] (by decide +kernel) (by decide +kernel)
set_option maxRecDepth 20000 in
theorem gX6_play_X0_prepare : GoodIn wsX6_play (wsV RX6 49 RX0 yX0_prepare wsX0_prepare) := goodIn_app (goodIn_of _ (by decide +kernel)) ggX6_play_X0_prepare
set_option maxRecDepth 20000 in
theorem ggX6_play_X1_copyFrom : GoodIn wsX6_play wsX1_copyFrom := goodIn_r _ [26, 27, 28, 29, 30, 31, 32, 33, 34, 35, 36, 37, 38, 39, 40, 41, 42, 43, 44, 45, 46, 47, 48, 49, 50, 51, 52, 53, 54, 55, 56, 57, 58, 59, 60, 61, 62, 63, 64, 65, 66, 67, 68, 69, 70, 262, 263, 264, 265, 266, 267, 268, 269, 270, 271, 272, 273, 274, 275, 276, 277, 278, 279, 280, 281, 282, 283, 284, 285, 286, 287, 288, 289] (by decide +kernel) (by decide +kernel)
set_option maxRecDepth 20000 in
theorem gX6_play_X1_copyFrom : GoodIn wsX6_play (wsV RX6 198 RX1 yX1_copyFrom wsX1_copyFrom) := goodIn_app (goodIn_of _ (by decide +kernel)) ggX6_play_X1_copyFrom
set_option maxRecDepth 20000 in
theorem ggX6_play_X6_recorded : GoodIn wsX6_play wsX6_recorded := goodIn_r _ [239, 5, 240, 241, 242, 229, 243, 231, 232, 244, 245, 246, 247, 248, 249, 250, 290, 291] (by decide +kernel) (by decide +kernel)
set_option maxRecDepth 20000 in
theorem gX6_play_X6_recorded : GoodIn wsX6_play (wsV RX6 56 RX6 yX6_recorded wsX6_recorded) := goodIn_app (goodIn_of _ (by decide +kernel)) ggX6_play_X6_recorded
theorem dX6_play_0 : decode cX6_play 0 = .ok (.aload_n 0, 1) := by decide +kernel
theorem dX6_play_1 : decode cX6_play 1 = .ok (.getfield 41, 3) := by decide +kernel
theorem dX6_play_4 : decode cX6_play 4 = .ok (.aload_n 0, 1) := by decide +kernel
theorem dX6_play_5 : decode cX6_play 5 = .ok (.getfield 32, 3) := by decide +kernel
theorem dX6_play_8 : decode cX6_play 8 = .ok (.aload_n 0, 1) := by decide +kernel
theorem dX6_play_9 : decode cX6_play 9 = .ok (.getfield 10, 3) := by decide +kernel
theorem dX6_play_12 : decode cX6_play 12 = .ok (.invokevirtual 222, 3) := by decide +kernel
theorem dX6_play_15 : decode cX6_play 15 = .ok (.aload_n 0, 1) := by decide +kernel
theorem dX6_play_16 : decode cX6_play 16 = .ok (.getfield 41, 3) := by decide +kernel
theorem dX6_play_19 : decode cX6_play 19 = .ok (.getfield 226, 3) := by decide +kernel
theorem dX6_play_22 : decode cX6_play 22 = .ok (.ifCond .eq 6, 3) := by decide +kernel
theorem dX6_play_25 : decode cX6_play 25 = .ok (.bipush (-2), 2) := by decide +kernel
theorem dX6_play_27 : decode cX6_play 27 = .ok (.ireturn, 1) := by decide +kernel
theorem dX6_play_28 : decode cX6_play 28 = .ok (.aload_n 0, 1) := by decide +kernel
theorem dX6_play_29 : decode cX6_play 29 = .ok (.getfield 25, 3) := by decide +kernel
theorem dX6_play_32 : decode cX6_play 32 = .ok (.aload_n 0, 1) := by decide +kernel
theorem dX6_play_33 : decode cX6_play 33 = .ok (.getfield 10, 3) := by decide +kernel
theorem dX6_play_36 : decode cX6_play 36 = .ok (.invokevirtual 49, 3) := by decide +kernel
theorem dX6_play_39 : decode cX6_play 39 = .ok (.aload_n 0, 1) := by decide +kernel
theorem dX6_play_40 : decode cX6_play 40 = .ok (.getfield 10, 3) := by decide +kernel
theorem dX6_play_43 : decode cX6_play 43 = .ok (.aload_n 0, 1) := by decide +kernel
theorem dX6_play_44 : decode cX6_play 44 = .ok (.getfield 41, 3) := by decide +kernel
theorem dX6_play_47 : decode cX6_play 47 = .ok (.getfield 235, 3) := by decide +kernel
theorem dX6_play_50 : decode cX6_play 50 = .ok (.invokevirtual 198, 3) := by decide +kernel
theorem dX6_play_53 : decode cX6_play 53 = .ok (.aload_n 0, 1) := by decide +kernel
theorem dX6_play_54 : decode cX6_play 54 = .ok (.aload_n 0, 1) := by decide +kernel
theorem dX6_play_55 : decode cX6_play 55 = .ok (.getfield 41, 3) := by decide +kernel
theorem dX6_play_58 : decode cX6_play 58 = .ok (.getfield 238, 3) := by decide +kernel
theorem dX6_play_61 : decode cX6_play 61 = .ok (.invokevirtual 56, 3) := by decide +kernel
theorem dX6_play_64 : decode cX6_play 64 = .ok (.ireturn, 1) := by decide +kernel
set_option maxRecDepth 20000 in
theorem ggX6_recorded_X0_commit : GoodIn wsX6_recorded wsX0_commit := goodIn_r _ [6, 7, 8, 16, 17] (by decide +kernel) (by decide +kernel)
set_option maxRecDepth 20000 in
theorem gX6_recorded_X0_commit : GoodIn wsX6_recorded (wsV RX6 241 RX0 yX0_commit wsX0_commit) := goodIn_app (goodIn_of _ (by decide +kernel)) ggX6_recorded_X0_commit
theorem dX6_recorded_0 : decode cX6_recorded 0 = .ok (.iload_n 1, 1) := by decide +kernel
theorem dX6_recorded_1 : decode cX6_recorded 1 = .ok (.ifCond .lt 10, 3) := by decide +kernel
theorem dX6_recorded_4 : decode cX6_recorded 4 = .ok (.aload_n 0, 1) := by decide +kernel
theorem dX6_recorded_5 : decode cX6_recorded 5 = .ok (.getfield 25, 3) := by decide +kernel
theorem dX6_recorded_8 : decode cX6_recorded 8 = .ok (.invokevirtual 241, 3) := by decide +kernel
theorem dX6_recorded_11 : decode cX6_recorded 11 = .ok (.iload_n 1, 1) := by decide +kernel
theorem dX6_recorded_12 : decode cX6_recorded 12 = .ok (.ireturn, 1) := by decide +kernel
theorem dX7_init_0 : decode cX7_init 0 = .ok (.aload_n 0, 1) := by decide +kernel
theorem dX7_init_1 : decode cX7_init 1 = .ok (.invokespecial 1, 3) := by decide +kernel
theorem dX7_init_4 : decode cX7_init 4 = .ok (.aload_n 0, 1) := by decide +kernel
theorem dX7_init_5 : decode cX7_init 5 = .ok (.sipush 599, 3) := by decide +kernel
theorem dX7_init_8 : decode cX7_init 8 = .ok (.newarray .int, 2) := by decide +kernel
theorem dX7_init_10 : decode cX7_init 10 = .ok (.putfield 7, 3) := by decide +kernel
theorem dX7_init_13 : decode cX7_init 13 = .ok (.aload_n 0, 1) := by decide +kernel
theorem dX7_init_14 : decode cX7_init 14 = .ok (.sipush 599, 3) := by decide +kernel
theorem dX7_init_17 : decode cX7_init 17 = .ok (.newarray .int, 2) := by decide +kernel
theorem dX7_init_19 : decode cX7_init 19 = .ok (.putfield 13, 3) := by decide +kernel
theorem dX7_init_22 : decode cX7_init 22 = .ok (.aload_n 0, 1) := by decide +kernel
theorem dX7_init_23 : decode cX7_init 23 = .ok (.sipush 599, 3) := by decide +kernel
theorem dX7_init_26 : decode cX7_init 26 = .ok (.newarray .int, 2) := by decide +kernel
theorem dX7_init_28 : decode cX7_init 28 = .ok (.putfield 16, 3) := by decide +kernel
theorem dX7_init_31 : decode cX7_init 31 = .ok (.aload_n 0, 1) := by decide +kernel
theorem dX7_init_32 : decode cX7_init 32 = .ok (.sipush 2396, 3) := by decide +kernel
theorem dX7_init_35 : decode cX7_init 35 = .ok (.newarray .int, 2) := by decide +kernel
theorem dX7_init_37 : decode cX7_init 37 = .ok (.putfield 19, 3) := by decide +kernel
theorem dX7_init_40 : decode cX7_init 40 = .ok (.aload_n 0, 1) := by decide +kernel
theorem dX7_init_41 : decode cX7_init 41 = .ok (.bipush 60, 2) := by decide +kernel
theorem dX7_init_43 : decode cX7_init 43 = .ok (.newarray .int, 2) := by decide +kernel
theorem dX7_init_45 : decode cX7_init 45 = .ok (.putfield 22, 3) := by decide +kernel
theorem dX7_init_48 : decode cX7_init 48 = .ok (.aload_n 0, 1) := by decide +kernel
theorem dX7_init_49 : decode cX7_init 49 = .ok (.sipush 599, 3) := by decide +kernel
theorem dX7_init_52 : decode cX7_init 52 = .ok (.newarray .int, 2) := by decide +kernel
theorem dX7_init_54 : decode cX7_init 54 = .ok (.putfield 25, 3) := by decide +kernel
theorem dX7_init_57 : decode cX7_init 57 = .ok (.aload_n 0, 1) := by decide +kernel
theorem dX7_init_58 : decode cX7_init 58 = .ok (.iconst 3, 1) := by decide +kernel
theorem dX7_init_59 : decode cX7_init 59 = .ok (.newarray .int, 2) := by decide +kernel
theorem dX7_init_61 : decode cX7_init 61 = .ok (.putfield 28, 3) := by decide +kernel
theorem dX7_init_64 : decode cX7_init 64 = .ok (.aload_n 0, 1) := by decide +kernel
theorem dX7_init_65 : decode cX7_init 65 = .ok (.getfield 7, 3) := by decide +kernel
theorem dX7_init_68 : decode cX7_init 68 = .ok (.bipush 10, 2) := by decide +kernel
theorem dX7_init_70 : decode cX7_init 70 = .ok (.bipush 12, 2) := by decide +kernel
theorem dX7_init_72 : decode cX7_init 72 = .ok (.iastore, 1) := by decide +kernel
theorem dX7_init_73 : decode cX7_init 73 = .ok (.aload_n 0, 1) := by decide +kernel
theorem dX7_init_74 : decode cX7_init 74 = .ok (.getfield 7, 3) := by decide +kernel
theorem dX7_init_77 : decode cX7_init 77 = .ok (.bipush 11, 2) := by decide +kernel
theorem dX7_init_79 : decode cX7_init 79 = .ok (.iconst 2, 1) := by decide +kernel
theorem dX7_init_80 : decode cX7_init 80 = .ok (.iastore, 1) := by decide +kernel
theorem dX7_init_81 : decode cX7_init 81 = .ok (.aload_n 0, 1) := by decide +kernel
theorem dX7_init_82 : decode cX7_init 82 = .ok (.getfield 7, 3) := by decide +kernel
theorem dX7_init_85 : decode cX7_init 85 = .ok (.bipush 12, 2) := by decide +kernel
theorem dX7_init_87 : decode cX7_init 87 = .ok (.iconst 3, 1) := by decide +kernel
theorem dX7_init_88 : decode cX7_init 88 = .ok (.iastore, 1) := by decide +kernel
theorem dX7_init_89 : decode cX7_init 89 = .ok (.aload_n 0, 1) := by decide +kernel
theorem dX7_init_90 : decode cX7_init 90 = .ok (.getfield 7, 3) := by decide +kernel
theorem dX7_init_93 : decode cX7_init 93 = .ok (.bipush 13, 2) := by decide +kernel
theorem dX7_init_95 : decode cX7_init 95 = .ok (.iconst 1, 1) := by decide +kernel
theorem dX7_init_96 : decode cX7_init 96 = .ok (.iastore, 1) := by decide +kernel
theorem dX7_init_97 : decode cX7_init 97 = .ok (.return_, 1) := by decide +kernel
theorem dX7_in_0 : decode cX7_in 0 = .ok (.iload_n 0, 1) := by decide +kernel
theorem dX7_in_1 : decode cX7_in 1 = .ok (.iload_n 1, 1) := by decide +kernel
theorem dX7_in_2 : decode cX7_in 2 = .ok (.if_icmp .lt 12, 3) := by decide +kernel
theorem dX7_in_5 : decode cX7_in 5 = .ok (.iload_n 0, 1) := by decide +kernel
theorem dX7_in_6 : decode cX7_in 6 = .ok (.iload_n 2, 1) := by decide +kernel
theorem dX7_in_7 : decode cX7_in 7 = .ok (.if_icmp .gt 7, 3) := by decide +kernel
theorem dX7_in_10 : decode cX7_in 10 = .ok (.iconst 1, 1) := by decide +kernel
theorem dX7_in_11 : decode cX7_in 11 = .ok (.goto 4, 3) := by decide +kernel
theorem dX7_in_14 : decode cX7_in 14 = .ok (.iconst 0, 1) := by decide +kernel
theorem dX7_in_15 : decode cX7_in 15 = .ok (.ireturn, 1) := by decide +kernel
theorem dX7_begins_0 : decode cX7_begins 0 = .ok (.iconst 0, 1) := by decide +kernel
theorem dX7_begins_1 : decode cX7_begins 1 = .ok (.istore_n 1, 1) := by decide +kernel
theorem dX7_begins_2 : decode cX7_begins 2 = .ok (.iload_n 1, 1) := by decide +kernel
theorem dX7_begins_3 : decode cX7_begins 3 = .ok (.sipush 599, 3) := by decide +kernel
theorem dX7_begins_6 : decode cX7_begins 6 = .ok (.if_icmp .ge 21, 3) := by decide +kernel
theorem dX7_begins_9 : decode cX7_begins 9 = .ok (.aload_n 0, 1) := by decide +kernel
theorem dX7_begins_10 : decode cX7_begins 10 = .ok (.getfield 13, 3) := by decide +kernel
theorem dX7_begins_13 : decode cX7_begins 13 = .ok (.iload_n 1, 1) := by decide +kernel
theorem dX7_begins_14 : decode cX7_begins 14 = .ok (.aload_n 0, 1) := by decide +kernel
theorem dX7_begins_15 : decode cX7_begins 15 = .ok (.getfield 7, 3) := by decide +kernel
theorem dX7_begins_18 : decode cX7_begins 18 = .ok (.iload_n 1, 1) := by decide +kernel
theorem dX7_begins_19 : decode cX7_begins 19 = .ok (.iaload, 1) := by decide +kernel
theorem dX7_begins_20 : decode cX7_begins 20 = .ok (.iastore, 1) := by decide +kernel
theorem dX7_begins_21 : decode cX7_begins 21 = .ok (.iinc 1 1, 3) := by decide +kernel
theorem dX7_begins_24 : decode cX7_begins 24 = .ok (.goto (-22), 3) := by decide +kernel
theorem dX7_begins_27 : decode cX7_begins 27 = .ok (.return_, 1) := by decide +kernel
theorem dX7_returns_0 : decode cX7_returns 0 = .ok (.iconst 0, 1) := by decide +kernel
theorem dX7_returns_1 : decode cX7_returns 1 = .ok (.istore_n 1, 1) := by decide +kernel
theorem dX7_returns_2 : decode cX7_returns 2 = .ok (.iload_n 1, 1) := by decide +kernel
theorem dX7_returns_3 : decode cX7_returns 3 = .ok (.sipush 599, 3) := by decide +kernel
theorem dX7_returns_6 : decode cX7_returns 6 = .ok (.if_icmp .ge 21, 3) := by decide +kernel
theorem dX7_returns_9 : decode cX7_returns 9 = .ok (.aload_n 0, 1) := by decide +kernel
theorem dX7_returns_10 : decode cX7_returns 10 = .ok (.getfield 7, 3) := by decide +kernel
theorem dX7_returns_13 : decode cX7_returns 13 = .ok (.iload_n 1, 1) := by decide +kernel
theorem dX7_returns_14 : decode cX7_returns 14 = .ok (.aload_n 0, 1) := by decide +kernel
theorem dX7_returns_15 : decode cX7_returns 15 = .ok (.getfield 13, 3) := by decide +kernel
theorem dX7_returns_18 : decode cX7_returns 18 = .ok (.iload_n 1, 1) := by decide +kernel
theorem dX7_returns_19 : decode cX7_returns 19 = .ok (.iaload, 1) := by decide +kernel
theorem dX7_returns_20 : decode cX7_returns 20 = .ok (.iastore, 1) := by decide +kernel
theorem dX7_returns_21 : decode cX7_returns 21 = .ok (.iinc 1 1, 3) := by decide +kernel
theorem dX7_returns_24 : decode cX7_returns 24 = .ok (.goto (-22), 3) := by decide +kernel
theorem dX7_returns_27 : decode cX7_returns 27 = .ok (.return_, 1) := by decide +kernel
set_option maxRecDepth 20000 in
theorem ggX7_acted_X7_returns : GoodIn wsX7_acted wsX7_returns := goodIn_r _ [8, 9, 3, 10, 11, 12, 13, 14, 15, 16, 17, 18, 19, 20, 21, 22, 23] (by decide +kernel) (by decide +kernel)
set_option maxRecDepth 20000 in
theorem gX7_acted_X7_returns : GoodIn wsX7_acted (wsV RX7 31 RX7 yX7_returns wsX7_returns) := goodIn_app (goodIn_of _ (by decide +kernel)) ggX7_acted_X7_returns
theorem dX7_acted_0 : decode cX7_acted 0 = .ok (.iload_n 1, 1) := by decide +kernel
theorem dX7_acted_1 : decode cX7_acted 1 = .ok (.ifCond .ge 9, 3) := by decide +kernel
theorem dX7_acted_4 : decode cX7_acted 4 = .ok (.aload_n 0, 1) := by decide +kernel
theorem dX7_acted_5 : decode cX7_acted 5 = .ok (.invokevirtual 31, 3) := by decide +kernel
theorem dX7_acted_8 : decode cX7_acted 8 = .ok (.iload_n 1, 1) := by decide +kernel
theorem dX7_acted_9 : decode cX7_acted 9 = .ok (.ireturn, 1) := by decide +kernel
theorem dX7_acted_10 : decode cX7_acted 10 = .ok (.aload_n 0, 1) := by decide +kernel
theorem dX7_acted_11 : decode cX7_acted 11 = .ok (.getfield 34, 3) := by decide +kernel
theorem dX7_acted_14 : decode cX7_acted 14 = .ok (.iconst 4, 1) := by decide +kernel
theorem dX7_acted_15 : decode cX7_acted 15 = .ok (.if_icmp .ne 44, 3) := by decide +kernel
theorem dX7_acted_18 : decode cX7_acted 18 = .ok (.iconst 0, 1) := by decide +kernel
theorem dX7_acted_19 : decode cX7_acted 19 = .ok (.istore_n 2, 1) := by decide +kernel
theorem dX7_acted_20 : decode cX7_acted 20 = .ok (.iload_n 2, 1) := by decide +kernel
theorem dX7_acted_21 : decode cX7_acted 21 = .ok (.sipush 1797, 3) := by decide +kernel
theorem dX7_acted_24 : decode cX7_acted 24 = .ok (.if_icmp .ge 25, 3) := by decide +kernel
theorem dX7_acted_27 : decode cX7_acted 27 = .ok (.aload_n 0, 1) := by decide +kernel
theorem dX7_acted_28 : decode cX7_acted 28 = .ok (.getfield 19, 3) := by decide +kernel
theorem dX7_acted_31 : decode cX7_acted 31 = .ok (.iload_n 2, 1) := by decide +kernel
theorem dX7_acted_32 : decode cX7_acted 32 = .ok (.aload_n 0, 1) := by decide +kernel
theorem dX7_acted_33 : decode cX7_acted 33 = .ok (.getfield 19, 3) := by decide +kernel
theorem dX7_acted_36 : decode cX7_acted 36 = .ok (.iload_n 2, 1) := by decide +kernel
theorem dX7_acted_37 : decode cX7_acted 37 = .ok (.sipush 599, 3) := by decide +kernel
theorem dX7_acted_40 : decode cX7_acted 40 = .ok (.iadd, 1) := by decide +kernel
theorem dX7_acted_41 : decode cX7_acted 41 = .ok (.iaload, 1) := by decide +kernel
theorem dX7_acted_42 : decode cX7_acted 42 = .ok (.iastore, 1) := by decide +kernel
theorem dX7_acted_43 : decode cX7_acted 43 = .ok (.iinc 2 1, 3) := by decide +kernel
theorem dX7_acted_46 : decode cX7_acted 46 = .ok (.goto (-26), 3) := by decide +kernel
theorem dX7_acted_49 : decode cX7_acted 49 = .ok (.aload_n 0, 1) := by decide +kernel
theorem dX7_acted_50 : decode cX7_acted 50 = .ok (.dup, 1) := by decide +kernel
theorem dX7_acted_51 : decode cX7_acted 51 = .ok (.getfield 34, 3) := by decide +kernel
theorem dX7_acted_54 : decode cX7_acted 54 = .ok (.iconst 1, 1) := by decide +kernel
theorem dX7_acted_55 : decode cX7_acted 55 = .ok (.isub, 1) := by decide +kernel
theorem dX7_acted_56 : decode cX7_acted 56 = .ok (.putfield 34, 3) := by decide +kernel
theorem dX7_acted_59 : decode cX7_acted 59 = .ok (.iconst 0, 1) := by decide +kernel
theorem dX7_acted_60 : decode cX7_acted 60 = .ok (.istore_n 2, 1) := by decide +kernel
theorem dX7_acted_61 : decode cX7_acted 61 = .ok (.iload_n 2, 1) := by decide +kernel
theorem dX7_acted_62 : decode cX7_acted 62 = .ok (.sipush 599, 3) := by decide +kernel
theorem dX7_acted_65 : decode cX7_acted 65 = .ok (.if_icmp .ge 30, 3) := by decide +kernel
theorem dX7_acted_68 : decode cX7_acted 68 = .ok (.aload_n 0, 1) := by decide +kernel
theorem dX7_acted_69 : decode cX7_acted 69 = .ok (.getfield 19, 3) := by decide +kernel
theorem dX7_acted_72 : decode cX7_acted 72 = .ok (.sipush 599, 3) := by decide +kernel
theorem dX7_acted_75 : decode cX7_acted 75 = .ok (.aload_n 0, 1) := by decide +kernel
theorem dX7_acted_76 : decode cX7_acted 76 = .ok (.getfield 34, 3) := by decide +kernel
theorem dX7_acted_79 : decode cX7_acted 79 = .ok (.imul, 1) := by decide +kernel
theorem dX7_acted_80 : decode cX7_acted 80 = .ok (.iload_n 2, 1) := by decide +kernel
theorem dX7_acted_81 : decode cX7_acted 81 = .ok (.iadd, 1) := by decide +kernel
theorem dX7_acted_82 : decode cX7_acted 82 = .ok (.aload_n 0, 1) := by decide +kernel
theorem dX7_acted_83 : decode cX7_acted 83 = .ok (.getfield 13, 3) := by decide +kernel
theorem dX7_acted_86 : decode cX7_acted 86 = .ok (.iload_n 2, 1) := by decide +kernel
theorem dX7_acted_87 : decode cX7_acted 87 = .ok (.iaload, 1) := by decide +kernel
theorem dX7_acted_88 : decode cX7_acted 88 = .ok (.iastore, 1) := by decide +kernel
theorem dX7_acted_89 : decode cX7_acted 89 = .ok (.iinc 2 1, 3) := by decide +kernel
theorem dX7_acted_92 : decode cX7_acted 92 = .ok (.goto (-31), 3) := by decide +kernel
theorem dX7_acted_95 : decode cX7_acted 95 = .ok (.aload_n 0, 1) := by decide +kernel
theorem dX7_acted_96 : decode cX7_acted 96 = .ok (.dup, 1) := by decide +kernel
theorem dX7_acted_97 : decode cX7_acted 97 = .ok (.getfield 34, 3) := by decide +kernel
theorem dX7_acted_100 : decode cX7_acted 100 = .ok (.iconst 1, 1) := by decide +kernel
theorem dX7_acted_101 : decode cX7_acted 101 = .ok (.iadd, 1) := by decide +kernel
theorem dX7_acted_102 : decode cX7_acted 102 = .ok (.putfield 34, 3) := by decide +kernel
theorem dX7_acted_105 : decode cX7_acted 105 = .ok (.iload_n 1, 1) := by decide +kernel
theorem dX7_acted_106 : decode cX7_acted 106 = .ok (.ireturn, 1) := by decide +kernel
theorem dX7_ofLot_0 : decode cX7_ofLot 0 = .ok (.aload_n 0, 1) := by decide +kernel
theorem dX7_ofLot_1 : decode cX7_ofLot 1 = .ok (.getfield 7, 3) := by decide +kernel
theorem dX7_ofLot_4 : decode cX7_ofLot 4 = .ok (.bipush 41, 2) := by decide +kernel
theorem dX7_ofLot_6 : decode cX7_ofLot 6 = .ok (.iconst 3, 1) := by decide +kernel
theorem dX7_ofLot_7 : decode cX7_ofLot 7 = .ok (.iload_n 1, 1) := by decide +kernel
theorem dX7_ofLot_8 : decode cX7_ofLot 8 = .ok (.imul, 1) := by decide +kernel
theorem dX7_ofLot_9 : decode cX7_ofLot 9 = .ok (.iadd, 1) := by decide +kernel
theorem dX7_ofLot_10 : decode cX7_ofLot 10 = .ok (.iload_n 2, 1) := by decide +kernel
theorem dX7_ofLot_11 : decode cX7_ofLot 11 = .ok (.iadd, 1) := by decide +kernel
theorem dX7_ofLot_12 : decode cX7_ofLot 12 = .ok (.iaload, 1) := by decide +kernel
theorem dX7_ofLot_13 : decode cX7_ofLot 13 = .ok (.ireturn, 1) := by decide +kernel
set_option maxRecDepth 20000 in
theorem ggX7_stock_X7_ofLot : GoodIn wsX7_stock wsX7_ofLot := goodIn_r _ [6, 1, 7, 8, 9, 10, 11, 12, 13, 14, 15, 16, 17, 18, 19, 20] (by decide +kernel) (by decide +kernel)
set_option maxRecDepth 20000 in
theorem gX7_stock_X7_ofLot : GoodIn wsX7_stock (wsV RX7 38 RX7 yX7_ofLot wsX7_ofLot) := goodIn_app (goodIn_of _ (by decide +kernel)) ggX7_stock_X7_ofLot
theorem dX7_stock_0 : decode cX7_stock 0 = .ok (.iconst 0, 1) := by decide +kernel
theorem dX7_stock_1 : decode cX7_stock 1 = .ok (.istore_n 2, 1) := by decide +kernel
theorem dX7_stock_2 : decode cX7_stock 2 = .ok (.iconst 0, 1) := by decide +kernel
theorem dX7_stock_3 : decode cX7_stock 3 = .ok (.istore_n 3, 1) := by decide +kernel
theorem dX7_stock_4 : decode cX7_stock 4 = .ok (.iload_n 3, 1) := by decide +kernel
theorem dX7_stock_5 : decode cX7_stock 5 = .ok (.aload_n 0, 1) := by decide +kernel
theorem dX7_stock_6 : decode cX7_stock 6 = .ok (.getfield 7, 3) := by decide +kernel
theorem dX7_stock_9 : decode cX7_stock 9 = .ok (.iconst 2, 1) := by decide +kernel
theorem dX7_stock_10 : decode cX7_stock 10 = .ok (.iaload, 1) := by decide +kernel
theorem dX7_stock_11 : decode cX7_stock 11 = .ok (.if_icmp .ge 32, 3) := by decide +kernel
theorem dX7_stock_14 : decode cX7_stock 14 = .ok (.iload_n 2, 1) := by decide +kernel
theorem dX7_stock_15 : decode cX7_stock 15 = .ok (.aload_n 0, 1) := by decide +kernel
theorem dX7_stock_16 : decode cX7_stock 16 = .ok (.iload_n 3, 1) := by decide +kernel
theorem dX7_stock_17 : decode cX7_stock 17 = .ok (.iconst 0, 1) := by decide +kernel
theorem dX7_stock_18 : decode cX7_stock 18 = .ok (.invokevirtual 38, 3) := by decide +kernel
theorem dX7_stock_21 : decode cX7_stock 21 = .ok (.iload_n 1, 1) := by decide +kernel
theorem dX7_stock_22 : decode cX7_stock 22 = .ok (.if_icmp .ne 12, 3) := by decide +kernel
theorem dX7_stock_25 : decode cX7_stock 25 = .ok (.aload_n 0, 1) := by decide +kernel
theorem dX7_stock_26 : decode cX7_stock 26 = .ok (.iload_n 3, 1) := by decide +kernel
theorem dX7_stock_27 : decode cX7_stock 27 = .ok (.iconst 1, 1) := by decide +kernel
theorem dX7_stock_28 : decode cX7_stock 28 = .ok (.invokevirtual 38, 3) := by decide +kernel
theorem dX7_stock_31 : decode cX7_stock 31 = .ok (.goto 4, 3) := by decide +kernel
theorem dX7_stock_34 : decode cX7_stock 34 = .ok (.iconst 0, 1) := by decide +kernel
theorem dX7_stock_35 : decode cX7_stock 35 = .ok (.iadd, 1) := by decide +kernel
theorem dX7_stock_36 : decode cX7_stock 36 = .ok (.istore_n 2, 1) := by decide +kernel
theorem dX7_stock_37 : decode cX7_stock 37 = .ok (.iinc 3 1, 3) := by decide +kernel
theorem dX7_stock_40 : decode cX7_stock 40 = .ok (.goto (-36), 3) := by decide +kernel
theorem dX7_stock_43 : decode cX7_stock 43 = .ok (.iload_n 2, 1) := by decide +kernel
theorem dX7_stock_44 : decode cX7_stock 44 = .ok (.ireturn, 1) := by decide +kernel
theorem dX7_removes_0 : decode cX7_removes 0 = .ok (.aload_n 0, 1) := by decide +kernel
theorem dX7_removes_1 : decode cX7_removes 1 = .ok (.getfield 7, 3) := by decide +kernel
theorem dX7_removes_4 : decode cX7_removes 4 = .ok (.iconst 2, 1) := by decide +kernel
theorem dX7_removes_5 : decode cX7_removes 5 = .ok (.dup2, 1) := by decide +kernel
theorem dX7_removes_6 : decode cX7_removes 6 = .ok (.iaload, 1) := by decide +kernel
theorem dX7_removes_7 : decode cX7_removes 7 = .ok (.iconst 1, 1) := by decide +kernel
theorem dX7_removes_8 : decode cX7_removes 8 = .ok (.isub, 1) := by decide +kernel
theorem dX7_removes_9 : decode cX7_removes 9 = .ok (.iastore, 1) := by decide +kernel
theorem dX7_removes_10 : decode cX7_removes 10 = .ok (.bipush 41, 2) := by decide +kernel
theorem dX7_removes_12 : decode cX7_removes 12 = .ok (.iconst 3, 1) := by decide +kernel
theorem dX7_removes_13 : decode cX7_removes 13 = .ok (.iload_n 1, 1) := by decide +kernel
theorem dX7_removes_14 : decode cX7_removes 14 = .ok (.imul, 1) := by decide +kernel
theorem dX7_removes_15 : decode cX7_removes 15 = .ok (.iadd, 1) := by decide +kernel
theorem dX7_removes_16 : decode cX7_removes 16 = .ok (.istore_n 2, 1) := by decide +kernel
theorem dX7_removes_17 : decode cX7_removes 17 = .ok (.iload_n 2, 1) := by decide +kernel
theorem dX7_removes_18 : decode cX7_removes 18 = .ok (.bipush 41, 2) := by decide +kernel
theorem dX7_removes_20 : decode cX7_removes 20 = .ok (.iconst 3, 1) := by decide +kernel
theorem dX7_removes_21 : decode cX7_removes 21 = .ok (.aload_n 0, 1) := by decide +kernel
theorem dX7_removes_22 : decode cX7_removes 22 = .ok (.getfield 7, 3) := by decide +kernel
theorem dX7_removes_25 : decode cX7_removes 25 = .ok (.iconst 2, 1) := by decide +kernel
theorem dX7_removes_26 : decode cX7_removes 26 = .ok (.iaload, 1) := by decide +kernel
theorem dX7_removes_27 : decode cX7_removes 27 = .ok (.imul, 1) := by decide +kernel
theorem dX7_removes_28 : decode cX7_removes 28 = .ok (.iadd, 1) := by decide +kernel
theorem dX7_removes_29 : decode cX7_removes 29 = .ok (.if_icmp .ge 23, 3) := by decide +kernel
theorem dX7_removes_32 : decode cX7_removes 32 = .ok (.aload_n 0, 1) := by decide +kernel
theorem dX7_removes_33 : decode cX7_removes 33 = .ok (.getfield 7, 3) := by decide +kernel
theorem dX7_removes_36 : decode cX7_removes 36 = .ok (.iload_n 2, 1) := by decide +kernel
theorem dX7_removes_37 : decode cX7_removes 37 = .ok (.aload_n 0, 1) := by decide +kernel
theorem dX7_removes_38 : decode cX7_removes 38 = .ok (.getfield 7, 3) := by decide +kernel
theorem dX7_removes_41 : decode cX7_removes 41 = .ok (.iload_n 2, 1) := by decide +kernel
theorem dX7_removes_42 : decode cX7_removes 42 = .ok (.iconst 3, 1) := by decide +kernel
theorem dX7_removes_43 : decode cX7_removes 43 = .ok (.iadd, 1) := by decide +kernel
theorem dX7_removes_44 : decode cX7_removes 44 = .ok (.iaload, 1) := by decide +kernel
theorem dX7_removes_45 : decode cX7_removes 45 = .ok (.iastore, 1) := by decide +kernel
theorem dX7_removes_46 : decode cX7_removes 46 = .ok (.iinc 2 1, 3) := by decide +kernel
theorem dX7_removes_49 : decode cX7_removes 49 = .ok (.goto (-32), 3) := by decide +kernel
theorem dX7_removes_52 : decode cX7_removes 52 = .ok (.iconst 0, 1) := by decide +kernel
theorem dX7_removes_53 : decode cX7_removes 53 = .ok (.istore_n 2, 1) := by decide +kernel
theorem dX7_removes_54 : decode cX7_removes 54 = .ok (.iload_n 2, 1) := by decide +kernel
theorem dX7_removes_55 : decode cX7_removes 55 = .ok (.iconst 3, 1) := by decide +kernel
theorem dX7_removes_56 : decode cX7_removes 56 = .ok (.if_icmp .ge 28, 3) := by decide +kernel
theorem dX7_removes_59 : decode cX7_removes 59 = .ok (.aload_n 0, 1) := by decide +kernel
theorem dX7_removes_60 : decode cX7_removes 60 = .ok (.getfield 7, 3) := by decide +kernel
theorem dX7_removes_63 : decode cX7_removes 63 = .ok (.bipush 41, 2) := by decide +kernel
theorem dX7_removes_65 : decode cX7_removes 65 = .ok (.iconst 3, 1) := by decide +kernel
theorem dX7_removes_66 : decode cX7_removes 66 = .ok (.aload_n 0, 1) := by decide +kernel
theorem dX7_removes_67 : decode cX7_removes 67 = .ok (.getfield 7, 3) := by decide +kernel
theorem dX7_removes_70 : decode cX7_removes 70 = .ok (.iconst 2, 1) := by decide +kernel
theorem dX7_removes_71 : decode cX7_removes 71 = .ok (.iaload, 1) := by decide +kernel
theorem dX7_removes_72 : decode cX7_removes 72 = .ok (.imul, 1) := by decide +kernel
theorem dX7_removes_73 : decode cX7_removes 73 = .ok (.iadd, 1) := by decide +kernel
theorem dX7_removes_74 : decode cX7_removes 74 = .ok (.iload_n 2, 1) := by decide +kernel
theorem dX7_removes_75 : decode cX7_removes 75 = .ok (.iadd, 1) := by decide +kernel
theorem dX7_removes_76 : decode cX7_removes 76 = .ok (.iconst 0, 1) := by decide +kernel
theorem dX7_removes_77 : decode cX7_removes 77 = .ok (.iastore, 1) := by decide +kernel
theorem dX7_removes_78 : decode cX7_removes 78 = .ok (.iinc 2 1, 3) := by decide +kernel
theorem dX7_removes_81 : decode cX7_removes 81 = .ok (.goto (-27), 3) := by decide +kernel
theorem dX7_removes_84 : decode cX7_removes 84 = .ok (.return_, 1) := by decide +kernel
set_option maxRecDepth 20000 in
theorem ggX7_comes_X7_ofLot : GoodIn wsX7_comes wsX7_ofLot := goodIn_r _ [6, 1, 7, 8, 9, 10, 11, 12, 13, 14, 15, 16, 17, 18, 19, 20] (by decide +kernel) (by decide +kernel)
set_option maxRecDepth 20000 in
theorem gX7_comes_X7_ofLot : GoodIn wsX7_comes (wsV RX7 38 RX7 yX7_ofLot wsX7_ofLot) := goodIn_app (goodIn_of _ (by decide +kernel)) ggX7_comes_X7_ofLot
theorem dX7_comes_0 : decode cX7_comes 0 = .ok (.aload_n 0, 1) := by decide +kernel
theorem dX7_comes_1 : decode cX7_comes 1 = .ok (.getfield 7, 3) := by decide +kernel
theorem dX7_comes_4 : decode cX7_comes 4 = .ok (.iconst 2, 1) := by decide +kernel
theorem dX7_comes_5 : decode cX7_comes 5 = .ok (.iaload, 1) := by decide +kernel
theorem dX7_comes_6 : decode cX7_comes 6 = .ok (.istore 4, 2) := by decide +kernel
theorem dX7_comes_8 : decode cX7_comes 8 = .ok (.iload 4, 2) := by decide +kernel
theorem dX7_comes_10 : decode cX7_comes 10 = .ok (.ifCond .le 62, 3) := by decide +kernel
theorem dX7_comes_13 : decode cX7_comes 13 = .ok (.aload_n 0, 1) := by decide +kernel
theorem dX7_comes_14 : decode cX7_comes 14 = .ok (.iload 4, 2) := by decide +kernel
theorem dX7_comes_16 : decode cX7_comes 16 = .ok (.iconst 1, 1) := by decide +kernel
theorem dX7_comes_17 : decode cX7_comes 17 = .ok (.isub, 1) := by decide +kernel
theorem dX7_comes_18 : decode cX7_comes 18 = .ok (.iconst 2, 1) := by decide +kernel
theorem dX7_comes_19 : decode cX7_comes 19 = .ok (.invokevirtual 38, 3) := by decide +kernel
theorem dX7_comes_22 : decode cX7_comes 22 = .ok (.iload_n 3, 1) := by decide +kernel
theorem dX7_comes_23 : decode cX7_comes 23 = .ok (.if_icmp .le 49, 3) := by decide +kernel
theorem dX7_comes_26 : decode cX7_comes 26 = .ok (.iconst 0, 1) := by decide +kernel
theorem dX7_comes_27 : decode cX7_comes 27 = .ok (.istore 5, 2) := by decide +kernel
theorem dX7_comes_29 : decode cX7_comes 29 = .ok (.iload 5, 2) := by decide +kernel
theorem dX7_comes_31 : decode cX7_comes 31 = .ok (.iconst 3, 1) := by decide +kernel
theorem dX7_comes_32 : decode cX7_comes 32 = .ok (.if_icmp .ge 34, 3) := by decide +kernel
theorem dX7_comes_35 : decode cX7_comes 35 = .ok (.aload_n 0, 1) := by decide +kernel
theorem dX7_comes_36 : decode cX7_comes 36 = .ok (.getfield 7, 3) := by decide +kernel
theorem dX7_comes_39 : decode cX7_comes 39 = .ok (.bipush 41, 2) := by decide +kernel
theorem dX7_comes_41 : decode cX7_comes 41 = .ok (.iconst 3, 1) := by decide +kernel
theorem dX7_comes_42 : decode cX7_comes 42 = .ok (.iload 4, 2) := by decide +kernel
theorem dX7_comes_44 : decode cX7_comes 44 = .ok (.imul, 1) := by decide +kernel
theorem dX7_comes_45 : decode cX7_comes 45 = .ok (.iadd, 1) := by decide +kernel
theorem dX7_comes_46 : decode cX7_comes 46 = .ok (.iload 5, 2) := by decide +kernel
theorem dX7_comes_48 : decode cX7_comes 48 = .ok (.iadd, 1) := by decide +kernel
theorem dX7_comes_49 : decode cX7_comes 49 = .ok (.aload_n 0, 1) := by decide +kernel
theorem dX7_comes_50 : decode cX7_comes 50 = .ok (.iload 4, 2) := by decide +kernel
theorem dX7_comes_52 : decode cX7_comes 52 = .ok (.iconst 1, 1) := by decide +kernel
theorem dX7_comes_53 : decode cX7_comes 53 = .ok (.isub, 1) := by decide +kernel
theorem dX7_comes_54 : decode cX7_comes 54 = .ok (.iload 5, 2) := by decide +kernel
theorem dX7_comes_56 : decode cX7_comes 56 = .ok (.invokevirtual 38, 3) := by decide +kernel
theorem dX7_comes_59 : decode cX7_comes 59 = .ok (.iastore, 1) := by decide +kernel
theorem dX7_comes_60 : decode cX7_comes 60 = .ok (.iinc 5 1, 3) := by decide +kernel
theorem dX7_comes_63 : decode cX7_comes 63 = .ok (.goto (-34), 3) := by decide +kernel
theorem dX7_comes_66 : decode cX7_comes 66 = .ok (.iinc 4 (-1), 3) := by decide +kernel
theorem dX7_comes_69 : decode cX7_comes 69 = .ok (.goto (-61), 3) := by decide +kernel
theorem dX7_comes_72 : decode cX7_comes 72 = .ok (.aload_n 0, 1) := by decide +kernel
theorem dX7_comes_73 : decode cX7_comes 73 = .ok (.getfield 7, 3) := by decide +kernel
theorem dX7_comes_76 : decode cX7_comes 76 = .ok (.bipush 41, 2) := by decide +kernel
theorem dX7_comes_78 : decode cX7_comes 78 = .ok (.iconst 3, 1) := by decide +kernel
theorem dX7_comes_79 : decode cX7_comes 79 = .ok (.iload 4, 2) := by decide +kernel
theorem dX7_comes_81 : decode cX7_comes 81 = .ok (.imul, 1) := by decide +kernel
theorem dX7_comes_82 : decode cX7_comes 82 = .ok (.iadd, 1) := by decide +kernel
theorem dX7_comes_83 : decode cX7_comes 83 = .ok (.iload_n 1, 1) := by decide +kernel
theorem dX7_comes_84 : decode cX7_comes 84 = .ok (.iastore, 1) := by decide +kernel
theorem dX7_comes_85 : decode cX7_comes 85 = .ok (.aload_n 0, 1) := by decide +kernel
theorem dX7_comes_86 : decode cX7_comes 86 = .ok (.getfield 7, 3) := by decide +kernel
theorem dX7_comes_89 : decode cX7_comes 89 = .ok (.bipush 41, 2) := by decide +kernel
theorem dX7_comes_91 : decode cX7_comes 91 = .ok (.iconst 3, 1) := by decide +kernel
theorem dX7_comes_92 : decode cX7_comes 92 = .ok (.iload 4, 2) := by decide +kernel
theorem dX7_comes_94 : decode cX7_comes 94 = .ok (.imul, 1) := by decide +kernel
theorem dX7_comes_95 : decode cX7_comes 95 = .ok (.iadd, 1) := by decide +kernel
theorem dX7_comes_96 : decode cX7_comes 96 = .ok (.iconst 1, 1) := by decide +kernel
theorem dX7_comes_97 : decode cX7_comes 97 = .ok (.iadd, 1) := by decide +kernel
theorem dX7_comes_98 : decode cX7_comes 98 = .ok (.iload_n 2, 1) := by decide +kernel
theorem dX7_comes_99 : decode cX7_comes 99 = .ok (.iastore, 1) := by decide +kernel
theorem dX7_comes_100 : decode cX7_comes 100 = .ok (.aload_n 0, 1) := by decide +kernel
theorem dX7_comes_101 : decode cX7_comes 101 = .ok (.getfield 7, 3) := by decide +kernel
theorem dX7_comes_104 : decode cX7_comes 104 = .ok (.bipush 41, 2) := by decide +kernel
theorem dX7_comes_106 : decode cX7_comes 106 = .ok (.iconst 3, 1) := by decide +kernel
theorem dX7_comes_107 : decode cX7_comes 107 = .ok (.iload 4, 2) := by decide +kernel
theorem dX7_comes_109 : decode cX7_comes 109 = .ok (.imul, 1) := by decide +kernel
theorem dX7_comes_110 : decode cX7_comes 110 = .ok (.iadd, 1) := by decide +kernel
theorem dX7_comes_111 : decode cX7_comes 111 = .ok (.iconst 2, 1) := by decide +kernel
theorem dX7_comes_112 : decode cX7_comes 112 = .ok (.iadd, 1) := by decide +kernel
theorem dX7_comes_113 : decode cX7_comes 113 = .ok (.iload_n 3, 1) := by decide +kernel
theorem dX7_comes_114 : decode cX7_comes 114 = .ok (.iastore, 1) := by decide +kernel
theorem dX7_comes_115 : decode cX7_comes 115 = .ok (.aload_n 0, 1) := by decide +kernel
theorem dX7_comes_116 : decode cX7_comes 116 = .ok (.getfield 7, 3) := by decide +kernel
theorem dX7_comes_119 : decode cX7_comes 119 = .ok (.iconst 2, 1) := by decide +kernel
theorem dX7_comes_120 : decode cX7_comes 120 = .ok (.dup2, 1) := by decide +kernel
theorem dX7_comes_121 : decode cX7_comes 121 = .ok (.iaload, 1) := by decide +kernel
theorem dX7_comes_122 : decode cX7_comes 122 = .ok (.iconst 1, 1) := by decide +kernel
theorem dX7_comes_123 : decode cX7_comes 123 = .ok (.iadd, 1) := by decide +kernel
theorem dX7_comes_124 : decode cX7_comes 124 = .ok (.iastore, 1) := by decide +kernel
theorem dX7_comes_125 : decode cX7_comes 125 = .ok (.aload_n 0, 1) := by decide +kernel
theorem dX7_comes_126 : decode cX7_comes 126 = .ok (.getfield 7, 3) := by decide +kernel
theorem dX7_comes_129 : decode cX7_comes 129 = .ok (.bipush 14, 2) := by decide +kernel
theorem dX7_comes_131 : decode cX7_comes 131 = .ok (.iload_n 1, 1) := by decide +kernel
theorem dX7_comes_132 : decode cX7_comes 132 = .ok (.iadd, 1) := by decide +kernel
theorem dX7_comes_133 : decode cX7_comes 133 = .ok (.dup2, 1) := by decide +kernel
theorem dX7_comes_134 : decode cX7_comes 134 = .ok (.iaload, 1) := by decide +kernel
theorem dX7_comes_135 : decode cX7_comes 135 = .ok (.iload_n 2, 1) := by decide +kernel
theorem dX7_comes_136 : decode cX7_comes 136 = .ok (.iadd, 1) := by decide +kernel
theorem dX7_comes_137 : decode cX7_comes 137 = .ok (.iastore, 1) := by decide +kernel
theorem dX7_comes_138 : decode cX7_comes 138 = .ok (.return_, 1) := by decide +kernel
set_option maxRecDepth 20000 in
theorem ggX7_firstOf_X7_ofLot : GoodIn wsX7_firstOf wsX7_ofLot := goodIn_r _ [6, 1, 7, 8, 9, 10, 11, 12, 13, 14, 15, 16, 17, 18, 19, 20] (by decide +kernel) (by decide +kernel)
set_option maxRecDepth 20000 in
theorem gX7_firstOf_X7_ofLot : GoodIn wsX7_firstOf (wsV RX7 38 RX7 yX7_ofLot wsX7_ofLot) := goodIn_app (goodIn_of _ (by decide +kernel)) ggX7_firstOf_X7_ofLot
theorem dX7_firstOf_0 : decode cX7_firstOf 0 = .ok (.iconst 0, 1) := by decide +kernel
theorem dX7_firstOf_1 : decode cX7_firstOf 1 = .ok (.istore_n 2, 1) := by decide +kernel
theorem dX7_firstOf_2 : decode cX7_firstOf 2 = .ok (.iload_n 2, 1) := by decide +kernel
theorem dX7_firstOf_3 : decode cX7_firstOf 3 = .ok (.aload_n 0, 1) := by decide +kernel
theorem dX7_firstOf_4 : decode cX7_firstOf 4 = .ok (.getfield 7, 3) := by decide +kernel
theorem dX7_firstOf_7 : decode cX7_firstOf 7 = .ok (.iconst 2, 1) := by decide +kernel
theorem dX7_firstOf_8 : decode cX7_firstOf 8 = .ok (.iaload, 1) := by decide +kernel
theorem dX7_firstOf_9 : decode cX7_firstOf 9 = .ok (.if_icmp .ge 19, 3) := by decide +kernel
theorem dX7_firstOf_12 : decode cX7_firstOf 12 = .ok (.aload_n 0, 1) := by decide +kernel
theorem dX7_firstOf_13 : decode cX7_firstOf 13 = .ok (.iload_n 2, 1) := by decide +kernel
theorem dX7_firstOf_14 : decode cX7_firstOf 14 = .ok (.iconst 0, 1) := by decide +kernel
theorem dX7_firstOf_15 : decode cX7_firstOf 15 = .ok (.invokevirtual 38, 3) := by decide +kernel
theorem dX7_firstOf_18 : decode cX7_firstOf 18 = .ok (.iload_n 1, 1) := by decide +kernel
theorem dX7_firstOf_19 : decode cX7_firstOf 19 = .ok (.if_icmp .eq 9, 3) := by decide +kernel
theorem dX7_firstOf_22 : decode cX7_firstOf 22 = .ok (.iinc 2 1, 3) := by decide +kernel
theorem dX7_firstOf_25 : decode cX7_firstOf 25 = .ok (.goto (-23), 3) := by decide +kernel
theorem dX7_firstOf_28 : decode cX7_firstOf 28 = .ok (.iload_n 2, 1) := by decide +kernel
theorem dX7_firstOf_29 : decode cX7_firstOf 29 = .ok (.ireturn, 1) := by decide +kernel
set_option maxRecDepth 20000 in
theorem ggX7_uses_X7_firstOf : GoodIn wsX7_uses wsX7_firstOf := goodIn_r _ [6, 1, 7, 8, 9, 5, 10, 15, 16, 17, 18, 19, 20, 21, 22, 23, 24, 25, 26, 27, 28] (by decide +kernel) (by decide +kernel)
set_option maxRecDepth 20000 in
theorem gX7_uses_X7_firstOf : GoodIn wsX7_uses (wsV RX7 42 RX7 yX7_firstOf wsX7_firstOf) := goodIn_app (goodIn_of _ (by decide +kernel)) ggX7_uses_X7_firstOf
set_option maxRecDepth 20000 in
theorem ggX7_uses_X7_ofLot : GoodIn wsX7_uses wsX7_ofLot := goodIn_r _ [10, 1, 15, 16, 17, 18, 19, 20, 21, 22, 23, 24, 25, 26, 27, 28] (by decide +kernel) (by decide +kernel)
set_option maxRecDepth 20000 in
theorem gX7_uses_X7_ofLot : GoodIn wsX7_uses (wsV RX7 38 RX7 yX7_ofLot wsX7_ofLot) := goodIn_app (goodIn_of _ (by decide +kernel)) ggX7_uses_X7_ofLot
set_option maxRecDepth 20000 in
theorem ggX7_uses_X7_removes : GoodIn wsX7_uses wsX7_removes := goodIn_r _ [14, 1, 15, 16, 17, 18, 19, 20, 21, 22, 23, 24, 25, 26, 27, 28] (by decide +kernel) (by decide +kernel)
set_option maxRecDepth 20000 in
theorem gX7_uses_X7_removes : GoodIn wsX7_uses (wsV RX7 46 RX7 yX7_removes wsX7_removes) := goodIn_app (goodIn_of _ (by decide +kernel)) ggX7_uses_X7_removes
theorem dX7_uses_0 : decode cX7_uses 0 = .ok (.iload_n 2, 1) := by decide +kernel
theorem dX7_uses_1 : decode cX7_uses 1 = .ok (.istore_n 3, 1) := by decide +kernel
theorem dX7_uses_2 : decode cX7_uses 2 = .ok (.aload_n 0, 1) := by decide +kernel
theorem dX7_uses_3 : decode cX7_uses 3 = .ok (.iload_n 1, 1) := by decide +kernel
theorem dX7_uses_4 : decode cX7_uses 4 = .ok (.invokevirtual 42, 3) := by decide +kernel
theorem dX7_uses_7 : decode cX7_uses 7 = .ok (.istore 4, 2) := by decide +kernel
theorem dX7_uses_9 : decode cX7_uses 9 = .ok (.iload_n 3, 1) := by decide +kernel
theorem dX7_uses_10 : decode cX7_uses 10 = .ok (.ifCond .le 88, 3) := by decide +kernel
theorem dX7_uses_13 : decode cX7_uses 13 = .ok (.iload 4, 2) := by decide +kernel
theorem dX7_uses_15 : decode cX7_uses 15 = .ok (.aload_n 0, 1) := by decide +kernel
theorem dX7_uses_16 : decode cX7_uses 16 = .ok (.getfield 7, 3) := by decide +kernel
theorem dX7_uses_19 : decode cX7_uses 19 = .ok (.iconst 2, 1) := by decide +kernel
theorem dX7_uses_20 : decode cX7_uses 20 = .ok (.iaload, 1) := by decide +kernel
theorem dX7_uses_21 : decode cX7_uses 21 = .ok (.if_icmp .ge 77, 3) := by decide +kernel
theorem dX7_uses_24 : decode cX7_uses 24 = .ok (.aload_n 0, 1) := by decide +kernel
theorem dX7_uses_25 : decode cX7_uses 25 = .ok (.iload 4, 2) := by decide +kernel
theorem dX7_uses_27 : decode cX7_uses 27 = .ok (.iconst 1, 1) := by decide +kernel
theorem dX7_uses_28 : decode cX7_uses 28 = .ok (.invokevirtual 38, 3) := by decide +kernel
theorem dX7_uses_31 : decode cX7_uses 31 = .ok (.iload_n 3, 1) := by decide +kernel
theorem dX7_uses_32 : decode cX7_uses 32 = .ok (.if_icmp .ge 13, 3) := by decide +kernel
theorem dX7_uses_35 : decode cX7_uses 35 = .ok (.aload_n 0, 1) := by decide +kernel
theorem dX7_uses_36 : decode cX7_uses 36 = .ok (.iload 4, 2) := by decide +kernel
theorem dX7_uses_38 : decode cX7_uses 38 = .ok (.iconst 1, 1) := by decide +kernel
theorem dX7_uses_39 : decode cX7_uses 39 = .ok (.invokevirtual 38, 3) := by decide +kernel
theorem dX7_uses_42 : decode cX7_uses 42 = .ok (.goto 4, 3) := by decide +kernel
theorem dX7_uses_45 : decode cX7_uses 45 = .ok (.iload_n 3, 1) := by decide +kernel
theorem dX7_uses_46 : decode cX7_uses 46 = .ok (.istore 5, 2) := by decide +kernel
theorem dX7_uses_48 : decode cX7_uses 48 = .ok (.aload_n 0, 1) := by decide +kernel
theorem dX7_uses_49 : decode cX7_uses 49 = .ok (.getfield 7, 3) := by decide +kernel
theorem dX7_uses_52 : decode cX7_uses 52 = .ok (.bipush 41, 2) := by decide +kernel
theorem dX7_uses_54 : decode cX7_uses 54 = .ok (.iconst 3, 1) := by decide +kernel
theorem dX7_uses_55 : decode cX7_uses 55 = .ok (.iload 4, 2) := by decide +kernel
theorem dX7_uses_57 : decode cX7_uses 57 = .ok (.imul, 1) := by decide +kernel
theorem dX7_uses_58 : decode cX7_uses 58 = .ok (.iadd, 1) := by decide +kernel
theorem dX7_uses_59 : decode cX7_uses 59 = .ok (.iconst 1, 1) := by decide +kernel
theorem dX7_uses_60 : decode cX7_uses 60 = .ok (.iadd, 1) := by decide +kernel
theorem dX7_uses_61 : decode cX7_uses 61 = .ok (.dup2, 1) := by decide +kernel
theorem dX7_uses_62 : decode cX7_uses 62 = .ok (.iaload, 1) := by decide +kernel
theorem dX7_uses_63 : decode cX7_uses 63 = .ok (.iload 5, 2) := by decide +kernel
theorem dX7_uses_65 : decode cX7_uses 65 = .ok (.isub, 1) := by decide +kernel
theorem dX7_uses_66 : decode cX7_uses 66 = .ok (.iastore, 1) := by decide +kernel
theorem dX7_uses_67 : decode cX7_uses 67 = .ok (.iload_n 3, 1) := by decide +kernel
theorem dX7_uses_68 : decode cX7_uses 68 = .ok (.iload 5, 2) := by decide +kernel
theorem dX7_uses_70 : decode cX7_uses 70 = .ok (.isub, 1) := by decide +kernel
theorem dX7_uses_71 : decode cX7_uses 71 = .ok (.istore_n 3, 1) := by decide +kernel
theorem dX7_uses_72 : decode cX7_uses 72 = .ok (.aload_n 0, 1) := by decide +kernel
theorem dX7_uses_73 : decode cX7_uses 73 = .ok (.iload 4, 2) := by decide +kernel
theorem dX7_uses_75 : decode cX7_uses 75 = .ok (.iconst 1, 1) := by decide +kernel
theorem dX7_uses_76 : decode cX7_uses 76 = .ok (.invokevirtual 38, 3) := by decide +kernel
theorem dX7_uses_79 : decode cX7_uses 79 = .ok (.ifCond .ne 9, 3) := by decide +kernel
theorem dX7_uses_82 : decode cX7_uses 82 = .ok (.aload_n 0, 1) := by decide +kernel
theorem dX7_uses_83 : decode cX7_uses 83 = .ok (.iload 4, 2) := by decide +kernel
theorem dX7_uses_85 : decode cX7_uses 85 = .ok (.invokevirtual 46, 3) := by decide +kernel
theorem dX7_uses_88 : decode cX7_uses 88 = .ok (.aload_n 0, 1) := by decide +kernel
theorem dX7_uses_89 : decode cX7_uses 89 = .ok (.iload_n 1, 1) := by decide +kernel
theorem dX7_uses_90 : decode cX7_uses 90 = .ok (.invokevirtual 42, 3) := by decide +kernel
theorem dX7_uses_93 : decode cX7_uses 93 = .ok (.istore 4, 2) := by decide +kernel
theorem dX7_uses_95 : decode cX7_uses 95 = .ok (.goto (-86), 3) := by decide +kernel
theorem dX7_uses_98 : decode cX7_uses 98 = .ok (.aload_n 0, 1) := by decide +kernel
theorem dX7_uses_99 : decode cX7_uses 99 = .ok (.getfield 7, 3) := by decide +kernel
theorem dX7_uses_102 : decode cX7_uses 102 = .ok (.bipush 17, 2) := by decide +kernel
theorem dX7_uses_104 : decode cX7_uses 104 = .ok (.iload_n 1, 1) := by decide +kernel
theorem dX7_uses_105 : decode cX7_uses 105 = .ok (.iadd, 1) := by decide +kernel
theorem dX7_uses_106 : decode cX7_uses 106 = .ok (.dup2, 1) := by decide +kernel
theorem dX7_uses_107 : decode cX7_uses 107 = .ok (.iaload, 1) := by decide +kernel
theorem dX7_uses_108 : decode cX7_uses 108 = .ok (.iload_n 2, 1) := by decide +kernel
theorem dX7_uses_109 : decode cX7_uses 109 = .ok (.iload_n 3, 1) := by decide +kernel
theorem dX7_uses_110 : decode cX7_uses 110 = .ok (.isub, 1) := by decide +kernel
theorem dX7_uses_111 : decode cX7_uses 111 = .ok (.iadd, 1) := by decide +kernel
theorem dX7_uses_112 : decode cX7_uses 112 = .ok (.iastore, 1) := by decide +kernel
theorem dX7_uses_113 : decode cX7_uses 113 = .ok (.iload_n 3, 1) := by decide +kernel
theorem dX7_uses_114 : decode cX7_uses 114 = .ok (.ireturn, 1) := by decide +kernel
set_option maxRecDepth 20000 in
theorem ggX7_spoils_X7_ofLot : GoodIn wsX7_spoils wsX7_ofLot := goodIn_r _ [6, 1, 11, 12, 13, 14, 15, 16, 17, 18, 19, 20, 21, 22, 23, 24] (by decide +kernel) (by decide +kernel)
set_option maxRecDepth 20000 in
theorem gX7_spoils_X7_ofLot : GoodIn wsX7_spoils (wsV RX7 38 RX7 yX7_ofLot wsX7_ofLot) := goodIn_app (goodIn_of _ (by decide +kernel)) ggX7_spoils_X7_ofLot
set_option maxRecDepth 20000 in
theorem ggX7_spoils_X7_removes : GoodIn wsX7_spoils wsX7_removes := goodIn_r _ [10, 1, 11, 12, 13, 14, 15, 16, 17, 18, 19, 20, 21, 22, 23, 24] (by decide +kernel) (by decide +kernel)
set_option maxRecDepth 20000 in
theorem gX7_spoils_X7_removes : GoodIn wsX7_spoils (wsV RX7 46 RX7 yX7_removes wsX7_removes) := goodIn_app (goodIn_of _ (by decide +kernel)) ggX7_spoils_X7_removes
theorem dX7_spoils_0 : decode cX7_spoils 0 = .ok (.aload_n 0, 1) := by decide +kernel
theorem dX7_spoils_1 : decode cX7_spoils 1 = .ok (.getfield 7, 3) := by decide +kernel
theorem dX7_spoils_4 : decode cX7_spoils 4 = .ok (.iconst 2, 1) := by decide +kernel
theorem dX7_spoils_5 : decode cX7_spoils 5 = .ok (.iaload, 1) := by decide +kernel
theorem dX7_spoils_6 : decode cX7_spoils 6 = .ok (.iconst 1, 1) := by decide +kernel
theorem dX7_spoils_7 : decode cX7_spoils 7 = .ok (.isub, 1) := by decide +kernel
theorem dX7_spoils_8 : decode cX7_spoils 8 = .ok (.istore_n 1, 1) := by decide +kernel
theorem dX7_spoils_9 : decode cX7_spoils 9 = .ok (.iload_n 1, 1) := by decide +kernel
theorem dX7_spoils_10 : decode cX7_spoils 10 = .ok (.ifCond .lt 52, 3) := by decide +kernel
theorem dX7_spoils_13 : decode cX7_spoils 13 = .ok (.aload_n 0, 1) := by decide +kernel
theorem dX7_spoils_14 : decode cX7_spoils 14 = .ok (.iload_n 1, 1) := by decide +kernel
theorem dX7_spoils_15 : decode cX7_spoils 15 = .ok (.iconst 2, 1) := by decide +kernel
theorem dX7_spoils_16 : decode cX7_spoils 16 = .ok (.invokevirtual 38, 3) := by decide +kernel
theorem dX7_spoils_19 : decode cX7_spoils 19 = .ok (.aload_n 0, 1) := by decide +kernel
theorem dX7_spoils_20 : decode cX7_spoils 20 = .ok (.getfield 7, 3) := by decide +kernel
theorem dX7_spoils_23 : decode cX7_spoils 23 = .ok (.iconst 0, 1) := by decide +kernel
theorem dX7_spoils_24 : decode cX7_spoils 24 = .ok (.iaload, 1) := by decide +kernel
theorem dX7_spoils_25 : decode cX7_spoils 25 = .ok (.if_icmp .ne 31, 3) := by decide +kernel
theorem dX7_spoils_28 : decode cX7_spoils 28 = .ok (.aload_n 0, 1) := by decide +kernel
theorem dX7_spoils_29 : decode cX7_spoils 29 = .ok (.getfield 7, 3) := by decide +kernel
theorem dX7_spoils_32 : decode cX7_spoils 32 = .ok (.bipush 20, 2) := by decide +kernel
theorem dX7_spoils_34 : decode cX7_spoils 34 = .ok (.aload_n 0, 1) := by decide +kernel
theorem dX7_spoils_35 : decode cX7_spoils 35 = .ok (.iload_n 1, 1) := by decide +kernel
theorem dX7_spoils_36 : decode cX7_spoils 36 = .ok (.iconst 0, 1) := by decide +kernel
theorem dX7_spoils_37 : decode cX7_spoils 37 = .ok (.invokevirtual 38, 3) := by decide +kernel
theorem dX7_spoils_40 : decode cX7_spoils 40 = .ok (.iadd, 1) := by decide +kernel
theorem dX7_spoils_41 : decode cX7_spoils 41 = .ok (.dup2, 1) := by decide +kernel
theorem dX7_spoils_42 : decode cX7_spoils 42 = .ok (.iaload, 1) := by decide +kernel
theorem dX7_spoils_43 : decode cX7_spoils 43 = .ok (.aload_n 0, 1) := by decide +kernel
theorem dX7_spoils_44 : decode cX7_spoils 44 = .ok (.iload_n 1, 1) := by decide +kernel
theorem dX7_spoils_45 : decode cX7_spoils 45 = .ok (.iconst 1, 1) := by decide +kernel
theorem dX7_spoils_46 : decode cX7_spoils 46 = .ok (.invokevirtual 38, 3) := by decide +kernel
theorem dX7_spoils_49 : decode cX7_spoils 49 = .ok (.iadd, 1) := by decide +kernel
theorem dX7_spoils_50 : decode cX7_spoils 50 = .ok (.iastore, 1) := by decide +kernel
theorem dX7_spoils_51 : decode cX7_spoils 51 = .ok (.aload_n 0, 1) := by decide +kernel
theorem dX7_spoils_52 : decode cX7_spoils 52 = .ok (.iload_n 1, 1) := by decide +kernel
theorem dX7_spoils_53 : decode cX7_spoils 53 = .ok (.invokevirtual 46, 3) := by decide +kernel
theorem dX7_spoils_56 : decode cX7_spoils 56 = .ok (.iinc 1 (-1), 3) := by decide +kernel
theorem dX7_spoils_59 : decode cX7_spoils 59 = .ok (.goto (-50), 3) := by decide +kernel
theorem dX7_spoils_62 : decode cX7_spoils 62 = .ok (.return_, 1) := by decide +kernel
theorem dX7_ofParty_0 : decode cX7_ofParty 0 = .ok (.aload_n 0, 1) := by decide +kernel
theorem dX7_ofParty_1 : decode cX7_ofParty 1 = .ok (.getfield 7, 3) := by decide +kernel
theorem dX7_ofParty_4 : decode cX7_ofParty 4 = .ok (.bipush 101, 2) := by decide +kernel
theorem dX7_ofParty_6 : decode cX7_ofParty 6 = .ok (.bipush 6, 2) := by decide +kernel
theorem dX7_ofParty_8 : decode cX7_ofParty 8 = .ok (.iload_n 1, 1) := by decide +kernel
theorem dX7_ofParty_9 : decode cX7_ofParty 9 = .ok (.imul, 1) := by decide +kernel
theorem dX7_ofParty_10 : decode cX7_ofParty 10 = .ok (.iadd, 1) := by decide +kernel
theorem dX7_ofParty_11 : decode cX7_ofParty 11 = .ok (.iload_n 2, 1) := by decide +kernel
theorem dX7_ofParty_12 : decode cX7_ofParty 12 = .ok (.iadd, 1) := by decide +kernel
theorem dX7_ofParty_13 : decode cX7_ofParty 13 = .ok (.iaload, 1) := by decide +kernel
theorem dX7_ofParty_14 : decode cX7_ofParty 14 = .ok (.ireturn, 1) := by decide +kernel
theorem dX7_setParty_0 : decode cX7_setParty 0 = .ok (.aload_n 0, 1) := by decide +kernel
theorem dX7_setParty_1 : decode cX7_setParty 1 = .ok (.getfield 7, 3) := by decide +kernel
theorem dX7_setParty_4 : decode cX7_setParty 4 = .ok (.bipush 101, 2) := by decide +kernel
theorem dX7_setParty_6 : decode cX7_setParty 6 = .ok (.bipush 6, 2) := by decide +kernel
theorem dX7_setParty_8 : decode cX7_setParty 8 = .ok (.iload_n 1, 1) := by decide +kernel
theorem dX7_setParty_9 : decode cX7_setParty 9 = .ok (.imul, 1) := by decide +kernel
theorem dX7_setParty_10 : decode cX7_setParty 10 = .ok (.iadd, 1) := by decide +kernel
theorem dX7_setParty_11 : decode cX7_setParty 11 = .ok (.iload_n 2, 1) := by decide +kernel
theorem dX7_setParty_12 : decode cX7_setParty 12 = .ok (.iadd, 1) := by decide +kernel
theorem dX7_setParty_13 : decode cX7_setParty 13 = .ok (.iload_n 3, 1) := by decide +kernel
theorem dX7_setParty_14 : decode cX7_setParty 14 = .ok (.iastore, 1) := by decide +kernel
theorem dX7_setParty_15 : decode cX7_setParty 15 = .ok (.return_, 1) := by decide +kernel
set_option maxRecDepth 20000 in
theorem ggX7_isParty_X7_in : GoodIn wsX7_isParty wsX7_in := goodIn_r _ [5] (by decide +kernel) (by decide +kernel)
set_option maxRecDepth 20000 in
theorem gX7_isParty_X7_in : GoodIn wsX7_isParty (va_wsS RX7 50 yX7_in wsX7_in) := goodIn_app (goodIn_of _ (by decide +kernel)) ggX7_isParty_X7_in
theorem dX7_isParty_0 : decode cX7_isParty 0 = .ok (.iload_n 1, 1) := by decide +kernel
theorem dX7_isParty_1 : decode cX7_isParty 1 = .ok (.iconst 0, 1) := by decide +kernel
theorem dX7_isParty_2 : decode cX7_isParty 2 = .ok (.aload_n 0, 1) := by decide +kernel
theorem dX7_isParty_3 : decode cX7_isParty 3 = .ok (.getfield 7, 3) := by decide +kernel
theorem dX7_isParty_6 : decode cX7_isParty 6 = .ok (.iconst 4, 1) := by decide +kernel
theorem dX7_isParty_7 : decode cX7_isParty 7 = .ok (.iaload, 1) := by decide +kernel
theorem dX7_isParty_8 : decode cX7_isParty 8 = .ok (.iconst 1, 1) := by decide +kernel
theorem dX7_isParty_9 : decode cX7_isParty 9 = .ok (.isub, 1) := by decide +kernel
theorem dX7_isParty_10 : decode cX7_isParty 10 = .ok (.invokestatic 50, 3) := by decide +kernel
theorem dX7_isParty_13 : decode cX7_isParty 13 = .ok (.ireturn, 1) := by decide +kernel
theorem dX7_isStorm_0 : decode cX7_isStorm 0 = .ok (.iload_n 1, 1) := by decide +kernel
theorem dX7_isStorm_1 : decode cX7_isStorm 1 = .ok (.sipush 396, 3) := by decide +kernel
theorem dX7_isStorm_4 : decode cX7_isStorm 4 = .ok (.if_icmp .ge 21, 3) := by decide +kernel
theorem dX7_isStorm_7 : decode cX7_isStorm 7 = .ok (.aload_n 0, 1) := by decide +kernel
theorem dX7_isStorm_8 : decode cX7_isStorm 8 = .ok (.getfield 7, 3) := by decide +kernel
theorem dX7_isStorm_11 : decode cX7_isStorm 11 = .ok (.sipush 203, 3) := by decide +kernel
theorem dX7_isStorm_14 : decode cX7_isStorm 14 = .ok (.iload_n 1, 1) := by decide +kernel
theorem dX7_isStorm_15 : decode cX7_isStorm 15 = .ok (.iadd, 1) := by decide +kernel
theorem dX7_isStorm_16 : decode cX7_isStorm 16 = .ok (.iaload, 1) := by decide +kernel
theorem dX7_isStorm_17 : decode cX7_isStorm 17 = .ok (.iconst 1, 1) := by decide +kernel
theorem dX7_isStorm_18 : decode cX7_isStorm 18 = .ok (.if_icmp .ne 7, 3) := by decide +kernel
theorem dX7_isStorm_21 : decode cX7_isStorm 21 = .ok (.iconst 1, 1) := by decide +kernel
theorem dX7_isStorm_22 : decode cX7_isStorm 22 = .ok (.goto 4, 3) := by decide +kernel
theorem dX7_isStorm_25 : decode cX7_isStorm 25 = .ok (.iconst 0, 1) := by decide +kernel
theorem dX7_isStorm_26 : decode cX7_isStorm 26 = .ok (.ireturn, 1) := by decide +kernel
set_option maxRecDepth 20000 in
theorem ggX7_guests_X7_ofParty : GoodIn wsX7_guests wsX7_ofParty := goodIn_r _ [6, 1, 7, 8, 9, 10, 11, 12, 13, 14, 15, 16, 17, 18, 19, 20] (by decide +kernel) (by decide +kernel)
set_option maxRecDepth 20000 in
theorem gX7_guests_X7_ofParty : GoodIn wsX7_guests (wsV RX7 54 RX7 yX7_ofParty wsX7_ofParty) := goodIn_app (goodIn_of _ (by decide +kernel)) ggX7_guests_X7_ofParty
theorem dX7_guests_0 : decode cX7_guests 0 = .ok (.iconst 0, 1) := by decide +kernel
theorem dX7_guests_1 : decode cX7_guests 1 = .ok (.istore_n 1, 1) := by decide +kernel
theorem dX7_guests_2 : decode cX7_guests 2 = .ok (.iconst 0, 1) := by decide +kernel
theorem dX7_guests_3 : decode cX7_guests 3 = .ok (.istore_n 2, 1) := by decide +kernel
theorem dX7_guests_4 : decode cX7_guests 4 = .ok (.iload_n 2, 1) := by decide +kernel
theorem dX7_guests_5 : decode cX7_guests 5 = .ok (.aload_n 0, 1) := by decide +kernel
theorem dX7_guests_6 : decode cX7_guests 6 = .ok (.getfield 7, 3) := by decide +kernel
theorem dX7_guests_9 : decode cX7_guests 9 = .ok (.iconst 4, 1) := by decide +kernel
theorem dX7_guests_10 : decode cX7_guests 10 = .ok (.iaload, 1) := by decide +kernel
theorem dX7_guests_11 : decode cX7_guests 11 = .ok (.if_icmp .ge 32, 3) := by decide +kernel
theorem dX7_guests_14 : decode cX7_guests 14 = .ok (.iload_n 1, 1) := by decide +kernel
theorem dX7_guests_15 : decode cX7_guests 15 = .ok (.aload_n 0, 1) := by decide +kernel
theorem dX7_guests_16 : decode cX7_guests 16 = .ok (.iload_n 2, 1) := by decide +kernel
theorem dX7_guests_17 : decode cX7_guests 17 = .ok (.iconst 3, 1) := by decide +kernel
theorem dX7_guests_18 : decode cX7_guests 18 = .ok (.invokevirtual 54, 3) := by decide +kernel
theorem dX7_guests_21 : decode cX7_guests 21 = .ok (.iconst 1, 1) := by decide +kernel
theorem dX7_guests_22 : decode cX7_guests 22 = .ok (.if_icmp .ne 12, 3) := by decide +kernel
theorem dX7_guests_25 : decode cX7_guests 25 = .ok (.aload_n 0, 1) := by decide +kernel
theorem dX7_guests_26 : decode cX7_guests 26 = .ok (.iload_n 2, 1) := by decide +kernel
theorem dX7_guests_27 : decode cX7_guests 27 = .ok (.iconst 0, 1) := by decide +kernel
theorem dX7_guests_28 : decode cX7_guests 28 = .ok (.invokevirtual 54, 3) := by decide +kernel
theorem dX7_guests_31 : decode cX7_guests 31 = .ok (.goto 4, 3) := by decide +kernel
theorem dX7_guests_34 : decode cX7_guests 34 = .ok (.iconst 0, 1) := by decide +kernel
theorem dX7_guests_35 : decode cX7_guests 35 = .ok (.iadd, 1) := by decide +kernel
theorem dX7_guests_36 : decode cX7_guests 36 = .ok (.istore_n 1, 1) := by decide +kernel
theorem dX7_guests_37 : decode cX7_guests 37 = .ok (.iinc 2 1, 3) := by decide +kernel
theorem dX7_guests_40 : decode cX7_guests 40 = .ok (.goto (-36), 3) := by decide +kernel
theorem dX7_guests_43 : decode cX7_guests 43 = .ok (.iload_n 1, 1) := by decide +kernel
theorem dX7_guests_44 : decode cX7_guests 44 = .ok (.ireturn, 1) := by decide +kernel
set_option maxRecDepth 20000 in
theorem ggX7_partiesOf_X7_ofParty : GoodIn wsX7_partiesOf wsX7_ofParty := goodIn_r _ [6, 1, 7, 8, 9, 10, 11, 12, 13, 14, 15, 16, 17, 18, 19, 20] (by decide +kernel) (by decide +kernel)
set_option maxRecDepth 20000 in
theorem gX7_partiesOf_X7_ofParty : GoodIn wsX7_partiesOf (wsV RX7 54 RX7 yX7_ofParty wsX7_ofParty) := goodIn_app (goodIn_of _ (by decide +kernel)) ggX7_partiesOf_X7_ofParty
theorem dX7_partiesOf_0 : decode cX7_partiesOf 0 = .ok (.iconst 0, 1) := by decide +kernel
theorem dX7_partiesOf_1 : decode cX7_partiesOf 1 = .ok (.istore_n 2, 1) := by decide +kernel
theorem dX7_partiesOf_2 : decode cX7_partiesOf 2 = .ok (.iconst 0, 1) := by decide +kernel
theorem dX7_partiesOf_3 : decode cX7_partiesOf 3 = .ok (.istore_n 3, 1) := by decide +kernel
theorem dX7_partiesOf_4 : decode cX7_partiesOf 4 = .ok (.iload_n 3, 1) := by decide +kernel
theorem dX7_partiesOf_5 : decode cX7_partiesOf 5 = .ok (.aload_n 0, 1) := by decide +kernel
theorem dX7_partiesOf_6 : decode cX7_partiesOf 6 = .ok (.getfield 7, 3) := by decide +kernel
theorem dX7_partiesOf_9 : decode cX7_partiesOf 9 = .ok (.iconst 4, 1) := by decide +kernel
theorem dX7_partiesOf_10 : decode cX7_partiesOf 10 = .ok (.iaload, 1) := by decide +kernel
theorem dX7_partiesOf_11 : decode cX7_partiesOf 11 = .ok (.if_icmp .ge 27, 3) := by decide +kernel
theorem dX7_partiesOf_14 : decode cX7_partiesOf 14 = .ok (.iload_n 2, 1) := by decide +kernel
theorem dX7_partiesOf_15 : decode cX7_partiesOf 15 = .ok (.aload_n 0, 1) := by decide +kernel
theorem dX7_partiesOf_16 : decode cX7_partiesOf 16 = .ok (.iload_n 3, 1) := by decide +kernel
theorem dX7_partiesOf_17 : decode cX7_partiesOf 17 = .ok (.iconst 3, 1) := by decide +kernel
theorem dX7_partiesOf_18 : decode cX7_partiesOf 18 = .ok (.invokevirtual 54, 3) := by decide +kernel
theorem dX7_partiesOf_21 : decode cX7_partiesOf 21 = .ok (.iload_n 1, 1) := by decide +kernel
theorem dX7_partiesOf_22 : decode cX7_partiesOf 22 = .ok (.if_icmp .ne 7, 3) := by decide +kernel
theorem dX7_partiesOf_25 : decode cX7_partiesOf 25 = .ok (.iconst 1, 1) := by decide +kernel
theorem dX7_partiesOf_26 : decode cX7_partiesOf 26 = .ok (.goto 4, 3) := by decide +kernel
theorem dX7_partiesOf_29 : decode cX7_partiesOf 29 = .ok (.iconst 0, 1) := by decide +kernel
theorem dX7_partiesOf_30 : decode cX7_partiesOf 30 = .ok (.iadd, 1) := by decide +kernel
theorem dX7_partiesOf_31 : decode cX7_partiesOf 31 = .ok (.istore_n 2, 1) := by decide +kernel
theorem dX7_partiesOf_32 : decode cX7_partiesOf 32 = .ok (.iinc 3 1, 3) := by decide +kernel
theorem dX7_partiesOf_35 : decode cX7_partiesOf 35 = .ok (.goto (-31), 3) := by decide +kernel
theorem dX7_partiesOf_38 : decode cX7_partiesOf 38 = .ok (.iload_n 2, 1) := by decide +kernel
theorem dX7_partiesOf_39 : decode cX7_partiesOf 39 = .ok (.ireturn, 1) := by decide +kernel
set_option maxRecDepth 20000 in
theorem ggX7_isAny_X7_partiesOf : GoodIn wsX7_isAny wsX7_partiesOf := goodIn_r _ [5, 6, 7, 8, 9, 4, 10, 11, 12, 13, 14, 15, 16, 17, 18, 19, 20, 21, 22, 23, 24] (by decide +kernel) (by decide +kernel)
set_option maxRecDepth 20000 in
theorem gX7_isAny_X7_partiesOf : GoodIn wsX7_isAny (wsV RX7 57 RX7 yX7_partiesOf wsX7_partiesOf) := goodIn_app (goodIn_of _ (by decide +kernel)) ggX7_isAny_X7_partiesOf
theorem dX7_isAny_0 : decode cX7_isAny 0 = .ok (.aload_n 0, 1) := by decide +kernel
theorem dX7_isAny_1 : decode cX7_isAny 1 = .ok (.iconst 0, 1) := by decide +kernel
theorem dX7_isAny_2 : decode cX7_isAny 2 = .ok (.invokevirtual 57, 3) := by decide +kernel
theorem dX7_isAny_5 : decode cX7_isAny 5 = .ok (.aload_n 0, 1) := by decide +kernel
theorem dX7_isAny_6 : decode cX7_isAny 6 = .ok (.iconst 1, 1) := by decide +kernel
theorem dX7_isAny_7 : decode cX7_isAny 7 = .ok (.invokevirtual 57, 3) := by decide +kernel
theorem dX7_isAny_10 : decode cX7_isAny 10 = .ok (.iadd, 1) := by decide +kernel
theorem dX7_isAny_11 : decode cX7_isAny 11 = .ok (.ifCond .le 7, 3) := by decide +kernel
theorem dX7_isAny_14 : decode cX7_isAny 14 = .ok (.iconst 1, 1) := by decide +kernel
theorem dX7_isAny_15 : decode cX7_isAny 15 = .ok (.goto 4, 3) := by decide +kernel
theorem dX7_isAny_18 : decode cX7_isAny 18 = .ok (.iconst 0, 1) := by decide +kernel
theorem dX7_isAny_19 : decode cX7_isAny 19 = .ok (.ireturn, 1) := by decide +kernel
set_option maxRecDepth 20000 in
theorem ggX7_leave_X7_ofParty : GoodIn wsX7_leave wsX7_ofParty := goodIn_r _ [6, 1, 11, 12, 13, 14, 15, 16, 17, 18, 19, 20, 21, 22, 23, 24] (by decide +kernel) (by decide +kernel)
set_option maxRecDepth 20000 in
theorem gX7_leave_X7_ofParty : GoodIn wsX7_leave (wsV RX7 54 RX7 yX7_ofParty wsX7_ofParty) := goodIn_app (goodIn_of _ (by decide +kernel)) ggX7_leave_X7_ofParty
set_option maxRecDepth 20000 in
theorem ggX7_leave_X7_setParty : GoodIn wsX7_leave wsX7_setParty := goodIn_r _ [10, 1, 11, 12, 13, 14, 15, 16, 17, 18, 19, 20, 21, 22, 23, 24] (by decide +kernel) (by decide +kernel)
set_option maxRecDepth 20000 in
theorem gX7_leave_X7_setParty : GoodIn wsX7_leave (wsV RX7 60 RX7 yX7_setParty wsX7_setParty) := goodIn_app (goodIn_of _ (by decide +kernel)) ggX7_leave_X7_setParty
theorem dX7_leave_0 : decode cX7_leave 0 = .ok (.iconst 0, 1) := by decide +kernel
theorem dX7_leave_1 : decode cX7_leave 1 = .ok (.istore_n 1, 1) := by decide +kernel
theorem dX7_leave_2 : decode cX7_leave 2 = .ok (.iload_n 1, 1) := by decide +kernel
theorem dX7_leave_3 : decode cX7_leave 3 = .ok (.aload_n 0, 1) := by decide +kernel
theorem dX7_leave_4 : decode cX7_leave 4 = .ok (.getfield 7, 3) := by decide +kernel
theorem dX7_leave_7 : decode cX7_leave 7 = .ok (.iconst 4, 1) := by decide +kernel
theorem dX7_leave_8 : decode cX7_leave 8 = .ok (.iaload, 1) := by decide +kernel
theorem dX7_leave_9 : decode cX7_leave 9 = .ok (.if_icmp .ge 41, 3) := by decide +kernel
theorem dX7_leave_12 : decode cX7_leave 12 = .ok (.aload_n 0, 1) := by decide +kernel
theorem dX7_leave_13 : decode cX7_leave 13 = .ok (.iload_n 1, 1) := by decide +kernel
theorem dX7_leave_14 : decode cX7_leave 14 = .ok (.iconst 3, 1) := by decide +kernel
theorem dX7_leave_15 : decode cX7_leave 15 = .ok (.invokevirtual 54, 3) := by decide +kernel
theorem dX7_leave_18 : decode cX7_leave 18 = .ok (.iconst 1, 1) := by decide +kernel
theorem dX7_leave_19 : decode cX7_leave 19 = .ok (.if_icmp .ne 25, 3) := by decide +kernel
theorem dX7_leave_22 : decode cX7_leave 22 = .ok (.aload_n 0, 1) := by decide +kernel
theorem dX7_leave_23 : decode cX7_leave 23 = .ok (.iload_n 1, 1) := by decide +kernel
theorem dX7_leave_24 : decode cX7_leave 24 = .ok (.iconst 4, 1) := by decide +kernel
theorem dX7_leave_25 : decode cX7_leave 25 = .ok (.invokevirtual 54, 3) := by decide +kernel
theorem dX7_leave_28 : decode cX7_leave 28 = .ok (.aload_n 0, 1) := by decide +kernel
theorem dX7_leave_29 : decode cX7_leave 29 = .ok (.iload_n 1, 1) := by decide +kernel
theorem dX7_leave_30 : decode cX7_leave 30 = .ok (.iconst 2, 1) := by decide +kernel
theorem dX7_leave_31 : decode cX7_leave 31 = .ok (.invokevirtual 54, 3) := by decide +kernel
theorem dX7_leave_34 : decode cX7_leave 34 = .ok (.if_icmp .lt 10, 3) := by decide +kernel
theorem dX7_leave_37 : decode cX7_leave 37 = .ok (.aload_n 0, 1) := by decide +kernel
theorem dX7_leave_38 : decode cX7_leave 38 = .ok (.iload_n 1, 1) := by decide +kernel
theorem dX7_leave_39 : decode cX7_leave 39 = .ok (.iconst 3, 1) := by decide +kernel
theorem dX7_leave_40 : decode cX7_leave 40 = .ok (.iconst 2, 1) := by decide +kernel
theorem dX7_leave_41 : decode cX7_leave 41 = .ok (.invokevirtual 60, 3) := by decide +kernel
theorem dX7_leave_44 : decode cX7_leave 44 = .ok (.iinc 1 1, 3) := by decide +kernel
theorem dX7_leave_47 : decode cX7_leave 47 = .ok (.goto (-45), 3) := by decide +kernel
theorem dX7_leave_50 : decode cX7_leave 50 = .ok (.return_, 1) := by decide +kernel
set_option maxRecDepth 20000 in
theorem ggX7_arrives_X7_ofParty : GoodIn wsX7_arrives wsX7_ofParty := goodIn_r _ [6, 1, 19, 20, 21, 22, 23, 24, 25, 26, 27, 28, 29, 30, 31, 32] (by decide +kernel) (by decide +kernel)
set_option maxRecDepth 20000 in
theorem gX7_arrives_X7_ofParty : GoodIn wsX7_arrives (wsV RX7 54 RX7 yX7_ofParty wsX7_ofParty) := goodIn_app (goodIn_of _ (by decide +kernel)) ggX7_arrives_X7_ofParty
set_option maxRecDepth 20000 in
theorem ggX7_arrives_X7_setParty : GoodIn wsX7_arrives wsX7_setParty := goodIn_r _ [10, 1, 19, 20, 21, 22, 23, 24, 25, 26, 27, 28, 29, 30, 31, 32] (by decide +kernel) (by decide +kernel)
set_option maxRecDepth 20000 in
theorem gX7_arrives_X7_setParty : GoodIn wsX7_arrives (wsV RX7 60 RX7 yX7_setParty wsX7_setParty) := goodIn_app (goodIn_of _ (by decide +kernel)) ggX7_arrives_X7_setParty
set_option maxRecDepth 20000 in
theorem ggX7_arrives_X7_isStorm : GoodIn wsX7_arrives wsX7_isStorm := goodIn_r _ [14, 1, 19, 20, 21, 22, 23, 24, 25, 26, 27, 28, 29, 30, 31, 32] (by decide +kernel) (by decide +kernel)
set_option maxRecDepth 20000 in
theorem gX7_arrives_X7_isStorm : GoodIn wsX7_arrives (wsV RX7 64 RX7 yX7_isStorm wsX7_isStorm) := goodIn_app (goodIn_of _ (by decide +kernel)) ggX7_arrives_X7_isStorm
set_option maxRecDepth 20000 in
theorem ggX7_arrives_X7_guests : GoodIn wsX7_arrives wsX7_guests := goodIn_r _ [18, 1, 2, 3, 4, 5, 6, 19, 20, 21, 22, 23, 24, 25, 26, 27, 28, 29, 30, 31, 32] (by decide +kernel) (by decide +kernel)
set_option maxRecDepth 20000 in
theorem gX7_arrives_X7_guests : GoodIn wsX7_arrives (wsV RX7 68 RX7 yX7_guests wsX7_guests) := goodIn_app (goodIn_of _ (by decide +kernel)) ggX7_arrives_X7_guests
theorem dX7_arrives_0 : decode cX7_arrives 0 = .ok (.aload_n 0, 1) := by decide +kernel
theorem dX7_arrives_1 : decode cX7_arrives 1 = .ok (.iload_n 1, 1) := by decide +kernel
theorem dX7_arrives_2 : decode cX7_arrives 2 = .ok (.iconst 1, 1) := by decide +kernel
theorem dX7_arrives_3 : decode cX7_arrives 3 = .ok (.invokevirtual 54, 3) := by decide +kernel
theorem dX7_arrives_6 : decode cX7_arrives 6 = .ok (.aload_n 0, 1) := by decide +kernel
theorem dX7_arrives_7 : decode cX7_arrives 7 = .ok (.iload_n 1, 1) := by decide +kernel
theorem dX7_arrives_8 : decode cX7_arrives 8 = .ok (.iconst 2, 1) := by decide +kernel
theorem dX7_arrives_9 : decode cX7_arrives 9 = .ok (.invokevirtual 54, 3) := by decide +kernel
theorem dX7_arrives_12 : decode cX7_arrives 12 = .ok (.iadd, 1) := by decide +kernel
theorem dX7_arrives_13 : decode cX7_arrives 13 = .ok (.aload_n 0, 1) := by decide +kernel
theorem dX7_arrives_14 : decode cX7_arrives 14 = .ok (.getfield 7, 3) := by decide +kernel
theorem dX7_arrives_17 : decode cX7_arrives 17 = .ok (.iconst 0, 1) := by decide +kernel
theorem dX7_arrives_18 : decode cX7_arrives 18 = .ok (.iaload, 1) := by decide +kernel
theorem dX7_arrives_19 : decode cX7_arrives 19 = .ok (.if_icmp .gt 13, 3) := by decide +kernel
theorem dX7_arrives_22 : decode cX7_arrives 22 = .ok (.aload_n 0, 1) := by decide +kernel
theorem dX7_arrives_23 : decode cX7_arrives 23 = .ok (.iload_n 1, 1) := by decide +kernel
theorem dX7_arrives_24 : decode cX7_arrives 24 = .ok (.iconst 3, 1) := by decide +kernel
theorem dX7_arrives_25 : decode cX7_arrives 25 = .ok (.iconst 3, 1) := by decide +kernel
theorem dX7_arrives_26 : decode cX7_arrives 26 = .ok (.invokevirtual 60, 3) := by decide +kernel
theorem dX7_arrives_29 : decode cX7_arrives 29 = .ok (.goto 99, 3) := by decide +kernel
theorem dX7_arrives_32 : decode cX7_arrives 32 = .ok (.aload_n 0, 1) := by decide +kernel
theorem dX7_arrives_33 : decode cX7_arrives 33 = .ok (.aload_n 0, 1) := by decide +kernel
theorem dX7_arrives_34 : decode cX7_arrives 34 = .ok (.getfield 7, 3) := by decide +kernel
theorem dX7_arrives_37 : decode cX7_arrives 37 = .ok (.iconst 0, 1) := by decide +kernel
theorem dX7_arrives_38 : decode cX7_arrives 38 = .ok (.iaload, 1) := by decide +kernel
theorem dX7_arrives_39 : decode cX7_arrives 39 = .ok (.invokevirtual 64, 3) := by decide +kernel
theorem dX7_arrives_42 : decode cX7_arrives 42 = .ok (.ifCond .ne 86, 3) := by decide +kernel
theorem dX7_arrives_45 : decode cX7_arrives 45 = .ok (.aload_n 0, 1) := by decide +kernel
theorem dX7_arrives_46 : decode cX7_arrives 46 = .ok (.invokevirtual 68, 3) := by decide +kernel
theorem dX7_arrives_49 : decode cX7_arrives 49 = .ok (.aload_n 0, 1) := by decide +kernel
theorem dX7_arrives_50 : decode cX7_arrives 50 = .ok (.iload_n 1, 1) := by decide +kernel
theorem dX7_arrives_51 : decode cX7_arrives 51 = .ok (.iconst 0, 1) := by decide +kernel
theorem dX7_arrives_52 : decode cX7_arrives 52 = .ok (.invokevirtual 54, 3) := by decide +kernel
theorem dX7_arrives_55 : decode cX7_arrives 55 = .ok (.iadd, 1) := by decide +kernel
theorem dX7_arrives_56 : decode cX7_arrives 56 = .ok (.aload_n 0, 1) := by decide +kernel
