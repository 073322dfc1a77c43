theorem dX1_dayWhenGone_52 : decode cX1_dayWhenGone 52 = .ok (.bipush (-4), 2) := by decide +kernel
theorem dX1_dayWhenGone_54 : decode cX1_dayWhenGone 54 = .ok (.ireturn, 1) := by decide +kernel
set_option maxRecDepth 20000 in
theorem ggX1_dayWhenOut_X2_anyAwaited : GoodIn wsX1_dayWhenOut wsX2_anyAwaited := goodIn_r _ [8, 9, 10, 92, 93, 94, 95, 96, 97, 98] (by decide +kernel) (by decide +kernel)
set_option maxRecDepth 20000 in
theorem gX1_dayWhenOut_X2_anyAwaited : GoodIn wsX1_dayWhenOut (wsV RX1 106 RX2 yX2_anyAwaited wsX2_anyAwaited) := goodIn_app (goodIn_of _ (by decide +kernel)) ggX1_dayWhenOut_X2_anyAwaited
set_option maxRecDepth 20000 in
theorem ggX1_dayWhenOut_X1_passNight : GoodIn wsX1_dayWhenOut wsX1_passNight := goodIn_r _ [15, 1, 3, 16, 2, 17, 18, 19, 20, 21, 22, 23, 24, 25, 26, 27, 14, 28, 29, 30, 31, 32, 7, 33, 9, 10, 34, 35, 36, 37, 38, 39, 40, 41, 42, 43, 44, 45, 46, 47, 48, 49, 50, 51, 52, 53, 54, 55, 56, 57, 58, 59, 60, 61, 62, 63, 64, 65, 66, 67, 68, 69, 70, 71, 72, 73, 74, 75, 76, 77, 78, 79, 80, 81, 82, 83, 84, 85, 86, 87, 88, 89, 90, 91, 92, 93, 94, 95, 96, 97, 98, 99, 100, 101, 102, 103, 104, 105, 106, 107, 108, 109] (by decide +kernel) (by decide +kernel)
set_option maxRecDepth 20000 in
theorem gX1_dayWhenOut_X1_passNight : GoodIn wsX1_dayWhenOut (wsV RX1 109 RX1 yX1_passNight wsX1_passNight) := goodIn_app (goodIn_of _ (by decide +kernel)) ggX1_dayWhenOut_X1_passNight
set_option maxRecDepth 20000 in
theorem ggX1_dayWhenOut_X4_stock : GoodIn wsX1_dayWhenOut wsX4_stock := goodIn_r _ [51, 52, 53, 54, 99, 100, 101, 102, 103, 104, 105, 106, 107, 108, 109] (by decide +kernel) (by decide +kernel)
set_option maxRecDepth 20000 in
theorem gX1_dayWhenOut_X4_stock : GoodIn wsX1_dayWhenOut (wsV RX1 133 RX4 yX4_stock wsX4_stock) := goodIn_app (goodIn_of _ (by decide +kernel)) ggX1_dayWhenOut_X4_stock
theorem dX1_dayWhenOut_0 : decode cX1_dayWhenOut 0 = .ok (.iconst 0, 1) := by decide +kernel
theorem dX1_dayWhenOut_1 : decode cX1_dayWhenOut 1 = .ok (.istore_n 2, 1) := by decide +kernel
theorem dX1_dayWhenOut_2 : decode cX1_dayWhenOut 2 = .ok (.iload_n 2, 1) := by decide +kernel
theorem dX1_dayWhenOut_3 : decode cX1_dayWhenOut 3 = .ok (.sipush 1000, 3) := by decide +kernel
theorem dX1_dayWhenOut_6 : decode cX1_dayWhenOut 6 = .ok (.if_icmp .ge 42, 3) := by decide +kernel
theorem dX1_dayWhenOut_9 : decode cX1_dayWhenOut 9 = .ok (.aload_n 0, 1) := by decide +kernel
theorem dX1_dayWhenOut_10 : decode cX1_dayWhenOut 10 = .ok (.getfield 21, 3) := by decide +kernel
theorem dX1_dayWhenOut_13 : decode cX1_dayWhenOut 13 = .ok (.invokevirtual 106, 3) := by decide +kernel
theorem dX1_dayWhenOut_16 : decode cX1_dayWhenOut 16 = .ok (.ifCond .eq 32, 3) := by decide +kernel
theorem dX1_dayWhenOut_19 : decode cX1_dayWhenOut 19 = .ok (.aload_n 0, 1) := by decide +kernel
theorem dX1_dayWhenOut_20 : decode cX1_dayWhenOut 20 = .ok (.invokevirtual 109, 3) := by decide +kernel
theorem dX1_dayWhenOut_23 : decode cX1_dayWhenOut 23 = .ok (.pop, 1) := by decide +kernel
theorem dX1_dayWhenOut_24 : decode cX1_dayWhenOut 24 = .ok (.aload_n 0, 1) := by decide +kernel
theorem dX1_dayWhenOut_25 : decode cX1_dayWhenOut 25 = .ok (.getfield 12, 3) := by decide +kernel
theorem dX1_dayWhenOut_28 : decode cX1_dayWhenOut 28 = .ok (.iload_n 1, 1) := by decide +kernel
theorem dX1_dayWhenOut_29 : decode cX1_dayWhenOut 29 = .ok (.invokevirtual 133, 3) := by decide +kernel
theorem dX1_dayWhenOut_32 : decode cX1_dayWhenOut 32 = .ok (.ifCond .ne 10, 3) := by decide +kernel
theorem dX1_dayWhenOut_35 : decode cX1_dayWhenOut 35 = .ok (.aload_n 0, 1) := by decide +kernel
theorem dX1_dayWhenOut_36 : decode cX1_dayWhenOut 36 = .ok (.getfield 49, 3) := by decide +kernel
theorem dX1_dayWhenOut_39 : decode cX1_dayWhenOut 39 = .ok (.iconst 1, 1) := by decide +kernel
theorem dX1_dayWhenOut_40 : decode cX1_dayWhenOut 40 = .ok (.isub, 1) := by decide +kernel
theorem dX1_dayWhenOut_41 : decode cX1_dayWhenOut 41 = .ok (.ireturn, 1) := by decide +kernel
theorem dX1_dayWhenOut_42 : decode cX1_dayWhenOut 42 = .ok (.iinc 2 1, 3) := by decide +kernel
theorem dX1_dayWhenOut_45 : decode cX1_dayWhenOut 45 = .ok (.goto (-43), 3) := by decide +kernel
theorem dX1_dayWhenOut_48 : decode cX1_dayWhenOut 48 = .ok (.bipush (-4), 2) := by decide +kernel
theorem dX1_dayWhenOut_50 : decode cX1_dayWhenOut 50 = .ok (.ireturn, 1) := by decide +kernel
theorem dX2_init_0 : decode cX2_init 0 = .ok (.aload_n 0, 1) := by decide +kernel
theorem dX2_init_1 : decode cX2_init 1 = .ok (.invokespecial 3, 3) := by decide +kernel
theorem dX2_init_4 : decode cX2_init 4 = .ok (.aload_n 0, 1) := by decide +kernel
theorem dX2_init_5 : decode cX2_init 5 = .ok (.bipush 17, 2) := by decide +kernel
theorem dX2_init_7 : decode cX2_init 7 = .ok (.newarray .int, 2) := by decide +kernel
theorem dX2_init_9 : decode cX2_init 9 = .ok (.putfield 9, 3) := by decide +kernel
theorem dX2_init_12 : decode cX2_init 12 = .ok (.aload_n 0, 1) := by decide +kernel
theorem dX2_init_13 : decode cX2_init 13 = .ok (.bipush 17, 2) := by decide +kernel
theorem dX2_init_15 : decode cX2_init 15 = .ok (.newarray .int, 2) := by decide +kernel
theorem dX2_init_17 : decode cX2_init 17 = .ok (.putfield 13, 3) := by decide +kernel
theorem dX2_init_20 : decode cX2_init 20 = .ok (.aload_n 0, 1) := by decide +kernel
theorem dX2_init_21 : decode cX2_init 21 = .ok (.bipush 17, 2) := by decide +kernel
theorem dX2_init_23 : decode cX2_init 23 = .ok (.newarray .int, 2) := by decide +kernel
theorem dX2_init_25 : decode cX2_init 25 = .ok (.putfield 16, 3) := by decide +kernel
theorem dX2_init_28 : decode cX2_init 28 = .ok (.aload_n 0, 1) := by decide +kernel
theorem dX2_init_29 : decode cX2_init 29 = .ok (.bipush 17, 2) := by decide +kernel
theorem dX2_init_31 : decode cX2_init 31 = .ok (.newarray .int, 2) := by decide +kernel
theorem dX2_init_33 : decode cX2_init 33 = .ok (.putfield 19, 3) := by decide +kernel
theorem dX2_init_36 : decode cX2_init 36 = .ok (.aload_n 0, 1) := by decide +kernel
theorem dX2_init_37 : decode cX2_init 37 = .ok (.bipush 17, 2) := by decide +kernel
theorem dX2_init_39 : decode cX2_init 39 = .ok (.newarray .int, 2) := by decide +kernel
theorem dX2_init_41 : decode cX2_init 41 = .ok (.putfield 22, 3) := by decide +kernel
theorem dX2_init_44 : decode cX2_init 44 = .ok (.aload_n 0, 1) := by decide +kernel
theorem dX2_init_45 : decode cX2_init 45 = .ok (.bipush 17, 2) := by decide +kernel
theorem dX2_init_47 : decode cX2_init 47 = .ok (.newarray .int, 2) := by decide +kernel
theorem dX2_init_49 : decode cX2_init 49 = .ok (.putfield 25, 3) := by decide +kernel
theorem dX2_init_52 : decode cX2_init 52 = .ok (.return_, 1) := by decide +kernel
theorem dX2_copyFrom_0 : decode cX2_copyFrom 0 = .ok (.aload_n 1, 1) := by decide +kernel
theorem dX2_copyFrom_1 : decode cX2_copyFrom 1 = .ok (.getfield 9, 3) := by decide +kernel
theorem dX2_copyFrom_4 : decode cX2_copyFrom 4 = .ok (.iconst 0, 1) := by decide +kernel
theorem dX2_copyFrom_5 : decode cX2_copyFrom 5 = .ok (.aload_n 0, 1) := by decide +kernel
theorem dX2_copyFrom_6 : decode cX2_copyFrom 6 = .ok (.getfield 9, 3) := by decide +kernel
theorem dX2_copyFrom_9 : decode cX2_copyFrom 9 = .ok (.iconst 0, 1) := by decide +kernel
theorem dX2_copyFrom_10 : decode cX2_copyFrom 10 = .ok (.bipush 17, 2) := by decide +kernel
theorem dX2_copyFrom_12 : decode cX2_copyFrom 12 = .ok (.invokestatic 28, 3) := by decide +kernel
theorem dX2_copyFrom_15 : decode cX2_copyFrom 15 = .ok (.aload_n 1, 1) := by decide +kernel
theorem dX2_copyFrom_16 : decode cX2_copyFrom 16 = .ok (.getfield 13, 3) := by decide +kernel
theorem dX2_copyFrom_19 : decode cX2_copyFrom 19 = .ok (.iconst 0, 1) := by decide +kernel
theorem dX2_copyFrom_20 : decode cX2_copyFrom 20 = .ok (.aload_n 0, 1) := by decide +kernel
theorem dX2_copyFrom_21 : decode cX2_copyFrom 21 = .ok (.getfield 13, 3) := by decide +kernel
theorem dX2_copyFrom_24 : decode cX2_copyFrom 24 = .ok (.iconst 0, 1) := by decide +kernel
theorem dX2_copyFrom_25 : decode cX2_copyFrom 25 = .ok (.bipush 17, 2) := by decide +kernel
theorem dX2_copyFrom_27 : decode cX2_copyFrom 27 = .ok (.invokestatic 28, 3) := by decide +kernel
theorem dX2_copyFrom_30 : decode cX2_copyFrom 30 = .ok (.aload_n 1, 1) := by decide +kernel
theorem dX2_copyFrom_31 : decode cX2_copyFrom 31 = .ok (.getfield 16, 3) := by decide +kernel
theorem dX2_copyFrom_34 : decode cX2_copyFrom 34 = .ok (.iconst 0, 1) := by decide +kernel
theorem dX2_copyFrom_35 : decode cX2_copyFrom 35 = .ok (.aload_n 0, 1) := by decide +kernel
theorem dX2_copyFrom_36 : decode cX2_copyFrom 36 = .ok (.getfield 16, 3) := by decide +kernel
theorem dX2_copyFrom_39 : decode cX2_copyFrom 39 = .ok (.iconst 0, 1) := by decide +kernel
theorem dX2_copyFrom_40 : decode cX2_copyFrom 40 = .ok (.bipush 17, 2) := by decide +kernel
theorem dX2_copyFrom_42 : decode cX2_copyFrom 42 = .ok (.invokestatic 28, 3) := by decide +kernel
theorem dX2_copyFrom_45 : decode cX2_copyFrom 45 = .ok (.aload_n 1, 1) := by decide +kernel
theorem dX2_copyFrom_46 : decode cX2_copyFrom 46 = .ok (.getfield 19, 3) := by decide +kernel
theorem dX2_copyFrom_49 : decode cX2_copyFrom 49 = .ok (.iconst 0, 1) := by decide +kernel
theorem dX2_copyFrom_50 : decode cX2_copyFrom 50 = .ok (.aload_n 0, 1) := by decide +kernel
theorem dX2_copyFrom_51 : decode cX2_copyFrom 51 = .ok (.getfield 19, 3) := by decide +kernel
theorem dX2_copyFrom_54 : decode cX2_copyFrom 54 = .ok (.iconst 0, 1) := by decide +kernel
theorem dX2_copyFrom_55 : decode cX2_copyFrom 55 = .ok (.bipush 17, 2) := by decide +kernel
theorem dX2_copyFrom_57 : decode cX2_copyFrom 57 = .ok (.invokestatic 28, 3) := by decide +kernel
theorem dX2_copyFrom_60 : decode cX2_copyFrom 60 = .ok (.aload_n 1, 1) := by decide +kernel
theorem dX2_copyFrom_61 : decode cX2_copyFrom 61 = .ok (.getfield 22, 3) := by decide +kernel
theorem dX2_copyFrom_64 : decode cX2_copyFrom 64 = .ok (.iconst 0, 1) := by decide +kernel
theorem dX2_copyFrom_65 : decode cX2_copyFrom 65 = .ok (.aload_n 0, 1) := by decide +kernel
theorem dX2_copyFrom_66 : decode cX2_copyFrom 66 = .ok (.getfield 22, 3) := by decide +kernel
theorem dX2_copyFrom_69 : decode cX2_copyFrom 69 = .ok (.iconst 0, 1) := by decide +kernel
theorem dX2_copyFrom_70 : decode cX2_copyFrom 70 = .ok (.bipush 17, 2) := by decide +kernel
theorem dX2_copyFrom_72 : decode cX2_copyFrom 72 = .ok (.invokestatic 28, 3) := by decide +kernel
theorem dX2_copyFrom_75 : decode cX2_copyFrom 75 = .ok (.aload_n 1, 1) := by decide +kernel
theorem dX2_copyFrom_76 : decode cX2_copyFrom 76 = .ok (.getfield 25, 3) := by decide +kernel
theorem dX2_copyFrom_79 : decode cX2_copyFrom 79 = .ok (.iconst 0, 1) := by decide +kernel
theorem dX2_copyFrom_80 : decode cX2_copyFrom 80 = .ok (.aload_n 0, 1) := by decide +kernel
theorem dX2_copyFrom_81 : decode cX2_copyFrom 81 = .ok (.getfield 25, 3) := by decide +kernel
theorem dX2_copyFrom_84 : decode cX2_copyFrom 84 = .ok (.iconst 0, 1) := by decide +kernel
theorem dX2_copyFrom_85 : decode cX2_copyFrom 85 = .ok (.bipush 17, 2) := by decide +kernel
theorem dX2_copyFrom_87 : decode cX2_copyFrom 87 = .ok (.invokestatic 28, 3) := by decide +kernel
theorem dX2_copyFrom_90 : decode cX2_copyFrom 90 = .ok (.aload_n 0, 1) := by decide +kernel
theorem dX2_copyFrom_91 : decode cX2_copyFrom 91 = .ok (.aload_n 1, 1) := by decide +kernel
theorem dX2_copyFrom_92 : decode cX2_copyFrom 92 = .ok (.getfield 34, 3) := by decide +kernel
theorem dX2_copyFrom_95 : decode cX2_copyFrom 95 = .ok (.putfield 34, 3) := by decide +kernel
theorem dX2_copyFrom_98 : decode cX2_copyFrom 98 = .ok (.return_, 1) := by decide +kernel
theorem dX2_has_0 : decode cX2_has 0 = .ok (.iload_n 1, 1) := by decide +kernel
theorem dX2_has_1 : decode cX2_has 1 = .ok (.ifCond .lt 15, 3) := by decide +kernel
theorem dX2_has_4 : decode cX2_has 4 = .ok (.iload_n 1, 1) := by decide +kernel
theorem dX2_has_5 : decode cX2_has 5 = .ok (.aload_n 0, 1) := by decide +kernel
theorem dX2_has_6 : decode cX2_has 6 = .ok (.getfield 34, 3) := by decide +kernel
theorem dX2_has_9 : decode cX2_has 9 = .ok (.if_icmp .ge 7, 3) := by decide +kernel
theorem dX2_has_12 : decode cX2_has 12 = .ok (.iconst 1, 1) := by decide +kernel
theorem dX2_has_13 : decode cX2_has 13 = .ok (.goto 4, 3) := by decide +kernel
theorem dX2_has_16 : decode cX2_has 16 = .ok (.iconst 0, 1) := by decide +kernel
theorem dX2_has_17 : decode cX2_has 17 = .ok (.ireturn, 1) := by decide +kernel
set_option maxRecDepth 20000 in
theorem ggX2_hasStatus_X2_has : GoodIn wsX2_hasStatus wsX2_has := goodIn_r _ [6, 7, 8, 9, 10, 11, 12, 13, 14] (by decide +kernel) (by decide +kernel)
set_option maxRecDepth 20000 in
theorem gX2_hasStatus_X2_has : GoodIn wsX2_hasStatus (wsV RX2 38 RX2 yX2_has wsX2_has) := goodIn_app (goodIn_of _ (by decide +kernel)) ggX2_hasStatus_X2_has
theorem dX2_hasStatus_0 : decode cX2_hasStatus 0 = .ok (.aload_n 0, 1) := by decide +kernel
theorem dX2_hasStatus_1 : decode cX2_hasStatus 1 = .ok (.iload_n 1, 1) := by decide +kernel
theorem dX2_hasStatus_2 : decode cX2_hasStatus 2 = .ok (.invokevirtual 38, 3) := by decide +kernel
theorem dX2_hasStatus_5 : decode cX2_hasStatus 5 = .ok (.ifCond .eq 17, 3) := by decide +kernel
theorem dX2_hasStatus_8 : decode cX2_hasStatus 8 = .ok (.aload_n 0, 1) := by decide +kernel
theorem dX2_hasStatus_9 : decode cX2_hasStatus 9 = .ok (.getfield 19, 3) := by decide +kernel
theorem dX2_hasStatus_12 : decode cX2_hasStatus 12 = .ok (.iload_n 1, 1) := by decide +kernel
theorem dX2_hasStatus_13 : decode cX2_hasStatus 13 = .ok (.iaload, 1) := by decide +kernel
theorem dX2_hasStatus_14 : decode cX2_hasStatus 14 = .ok (.iload_n 2, 1) := by decide +kernel
theorem dX2_hasStatus_15 : decode cX2_hasStatus 15 = .ok (.if_icmp .ne 7, 3) := by decide +kernel
theorem dX2_hasStatus_18 : decode cX2_hasStatus 18 = .ok (.iconst 1, 1) := by decide +kernel
theorem dX2_hasStatus_19 : decode cX2_hasStatus 19 = .ok (.goto 4, 3) := by decide +kernel
theorem dX2_hasStatus_22 : decode cX2_hasStatus 22 = .ok (.iconst 0, 1) := by decide +kernel
theorem dX2_hasStatus_23 : decode cX2_hasStatus 23 = .ok (.ireturn, 1) := by decide +kernel
set_option maxRecDepth 20000 in
theorem ggX2_isAwaited_X2_has : GoodIn wsX2_isAwaited wsX2_has := goodIn_r _ [6, 7, 8, 9, 10, 11, 12, 13, 14] (by decide +kernel) (by decide +kernel)
set_option maxRecDepth 20000 in
theorem gX2_isAwaited_X2_has : GoodIn wsX2_isAwaited (wsV RX2 38 RX2 yX2_has wsX2_has) := goodIn_app (goodIn_of _ (by decide +kernel)) ggX2_isAwaited_X2_has
theorem dX2_isAwaited_0 : decode cX2_isAwaited 0 = .ok (.aload_n 0, 1) := by decide +kernel
theorem dX2_isAwaited_1 : decode cX2_isAwaited 1 = .ok (.iload_n 1, 1) := by decide +kernel
theorem dX2_isAwaited_2 : decode cX2_isAwaited 2 = .ok (.invokevirtual 38, 3) := by decide +kernel
theorem dX2_isAwaited_5 : decode cX2_isAwaited 5 = .ok (.ifCond .eq 26, 3) := by decide +kernel
theorem dX2_isAwaited_8 : decode cX2_isAwaited 8 = .ok (.aload_n 0, 1) := by decide +kernel
theorem dX2_isAwaited_9 : decode cX2_isAwaited 9 = .ok (.getfield 19, 3) := by decide +kernel
theorem dX2_isAwaited_12 : decode cX2_isAwaited 12 = .ok (.iload_n 1, 1) := by decide +kernel
theorem dX2_isAwaited_13 : decode cX2_isAwaited 13 = .ok (.iaload, 1) := by decide +kernel
theorem dX2_isAwaited_14 : decode cX2_isAwaited 14 = .ok (.ifCond .eq 13, 3) := by decide +kernel
theorem dX2_isAwaited_17 : decode cX2_isAwaited 17 = .ok (.aload_n 0, 1) := by decide +kernel
theorem dX2_isAwaited_18 : decode cX2_isAwaited 18 = .ok (.getfield 19, 3) := by decide +kernel
theorem dX2_isAwaited_21 : decode cX2_isAwaited 21 = .ok (.iload_n 1, 1) := by decide +kernel
theorem dX2_isAwaited_22 : decode cX2_isAwaited 22 = .ok (.iaload, 1) := by decide +kernel
theorem dX2_isAwaited_23 : decode cX2_isAwaited 23 = .ok (.iconst 1, 1) := by decide +kernel
theorem dX2_isAwaited_24 : decode cX2_isAwaited 24 = .ok (.if_icmp .ne 7, 3) := by decide +kernel
theorem dX2_isAwaited_27 : decode cX2_isAwaited 27 = .ok (.iconst 1, 1) := by decide +kernel
theorem dX2_isAwaited_28 : decode cX2_isAwaited 28 = .ok (.goto 4, 3) := by decide +kernel
theorem dX2_isAwaited_31 : decode cX2_isAwaited 31 = .ok (.iconst 0, 1) := by decide +kernel
theorem dX2_isAwaited_32 : decode cX2_isAwaited 32 = .ok (.ireturn, 1) := by decide +kernel
theorem dX2_anyAwaited_0 : decode cX2_anyAwaited 0 = .ok (.iconst 0, 1) := by decide +kernel
theorem dX2_anyAwaited_1 : decode cX2_anyAwaited 1 = .ok (.istore_n 1, 1) := by decide +kernel
theorem dX2_anyAwaited_2 : decode cX2_anyAwaited 2 = .ok (.iload_n 1, 1) := by decide +kernel
theorem dX2_anyAwaited_3 : decode cX2_anyAwaited 3 = .ok (.aload_n 0, 1) := by decide +kernel
theorem dX2_anyAwaited_4 : decode cX2_anyAwaited 4 = .ok (.getfield 34, 3) := by decide +kernel
theorem dX2_anyAwaited_7 : decode cX2_anyAwaited 7 = .ok (.if_icmp .ge 30, 3) := by decide +kernel
theorem dX2_anyAwaited_10 : decode cX2_anyAwaited 10 = .ok (.aload_n 0, 1) := by decide +kernel
theorem dX2_anyAwaited_11 : decode cX2_anyAwaited 11 = .ok (.getfield 19, 3) := by decide +kernel
theorem dX2_anyAwaited_14 : decode cX2_anyAwaited 14 = .ok (.iload_n 1, 1) := by decide +kernel
theorem dX2_anyAwaited_15 : decode cX2_anyAwaited 15 = .ok (.iaload, 1) := by decide +kernel
theorem dX2_anyAwaited_16 : decode cX2_anyAwaited 16 = .ok (.ifCond .eq 13, 3) := by decide +kernel
theorem dX2_anyAwaited_19 : decode cX2_anyAwaited 19 = .ok (.aload_n 0, 1) := by decide +kernel
theorem dX2_anyAwaited_20 : decode cX2_anyAwaited 20 = .ok (.getfield 19, 3) := by decide +kernel
theorem dX2_anyAwaited_23 : decode cX2_anyAwaited 23 = .ok (.iload_n 1, 1) := by decide +kernel
theorem dX2_anyAwaited_24 : decode cX2_anyAwaited 24 = .ok (.iaload, 1) := by decide +kernel
theorem dX2_anyAwaited_25 : decode cX2_anyAwaited 25 = .ok (.iconst 1, 1) := by decide +kernel
theorem dX2_anyAwaited_26 : decode cX2_anyAwaited 26 = .ok (.if_icmp .ne 5, 3) := by decide +kernel
theorem dX2_anyAwaited_29 : decode cX2_anyAwaited 29 = .ok (.iconst 1, 1) := by decide +kernel
theorem dX2_anyAwaited_30 : decode cX2_anyAwaited 30 = .ok (.ireturn, 1) := by decide +kernel
theorem dX2_anyAwaited_31 : decode cX2_anyAwaited 31 = .ok (.iinc 1 1, 3) := by decide +kernel
theorem dX2_anyAwaited_34 : decode cX2_anyAwaited 34 = .ok (.goto (-32), 3) := by decide +kernel
theorem dX2_anyAwaited_37 : decode cX2_anyAwaited 37 = .ok (.iconst 0, 1) := by decide +kernel
theorem dX2_anyAwaited_38 : decode cX2_anyAwaited 38 = .ok (.ireturn, 1) := by decide +kernel
theorem dX2_withStatus_0 : decode cX2_withStatus 0 = .ok (.iconst 0, 1) := by decide +kernel
theorem dX2_withStatus_1 : decode cX2_withStatus 1 = .ok (.istore_n 2, 1) := by decide +kernel
theorem dX2_withStatus_2 : decode cX2_withStatus 2 = .ok (.iconst 0, 1) := by decide +kernel
theorem dX2_withStatus_3 : decode cX2_withStatus 3 = .ok (.istore_n 3, 1) := by decide +kernel
theorem dX2_withStatus_4 : decode cX2_withStatus 4 = .ok (.iload_n 3, 1) := by decide +kernel
theorem dX2_withStatus_5 : decode cX2_withStatus 5 = .ok (.aload_n 0, 1) := by decide +kernel
theorem dX2_withStatus_6 : decode cX2_withStatus 6 = .ok (.getfield 34, 3) := by decide +kernel
theorem dX2_withStatus_9 : decode cX2_withStatus 9 = .ok (.if_icmp .ge 22, 3) := by decide +kernel
theorem dX2_withStatus_12 : decode cX2_withStatus 12 = .ok (.aload_n 0, 1) := by decide +kernel
theorem dX2_withStatus_13 : decode cX2_withStatus 13 = .ok (.getfield 19, 3) := by decide +kernel
theorem dX2_withStatus_16 : decode cX2_withStatus 16 = .ok (.iload_n 3, 1) := by decide +kernel
theorem dX2_withStatus_17 : decode cX2_withStatus 17 = .ok (.iaload, 1) := by decide +kernel
theorem dX2_withStatus_18 : decode cX2_withStatus 18 = .ok (.iload_n 1, 1) := by decide +kernel
theorem dX2_withStatus_19 : decode cX2_withStatus 19 = .ok (.if_icmp .ne 6, 3) := by decide +kernel
theorem dX2_withStatus_22 : decode cX2_withStatus 22 = .ok (.iinc 2 1, 3) := by decide +kernel
theorem dX2_withStatus_25 : decode cX2_withStatus 25 = .ok (.iinc 3 1, 3) := by decide +kernel
theorem dX2_withStatus_28 : decode cX2_withStatus 28 = .ok (.goto (-24), 3) := by decide +kernel
theorem dX2_withStatus_31 : decode cX2_withStatus 31 = .ok (.iload_n 2, 1) := by decide +kernel
theorem dX2_withStatus_32 : decode cX2_withStatus 32 = .ok (.ireturn, 1) := by decide +kernel
theorem dX2_guests_0 : decode cX2_guests 0 = .ok (.iconst 0, 1) := by decide +kernel
theorem dX2_guests_1 : decode cX2_guests 1 = .ok (.istore_n 1, 1) := by decide +kernel
theorem dX2_guests_2 : decode cX2_guests 2 = .ok (.iconst 0, 1) := by decide +kernel
theorem dX2_guests_3 : decode cX2_guests 3 = .ok (.istore_n 2, 1) := by decide +kernel
theorem dX2_guests_4 : decode cX2_guests 4 = .ok (.iload_n 2, 1) := by decide +kernel
theorem dX2_guests_5 : decode cX2_guests 5 = .ok (.aload_n 0, 1) := by decide +kernel
theorem dX2_guests_6 : decode cX2_guests 6 = .ok (.getfield 34, 3) := by decide +kernel
theorem dX2_guests_9 : decode cX2_guests 9 = .ok (.if_icmp .ge 28, 3) := by decide +kernel
theorem dX2_guests_12 : decode cX2_guests 12 = .ok (.aload_n 0, 1) := by decide +kernel
theorem dX2_guests_13 : decode cX2_guests 13 = .ok (.getfield 19, 3) := by decide +kernel
theorem dX2_guests_16 : decode cX2_guests 16 = .ok (.iload_n 2, 1) := by decide +kernel
theorem dX2_guests_17 : decode cX2_guests 17 = .ok (.iaload, 1) := by decide +kernel
theorem dX2_guests_18 : decode cX2_guests 18 = .ok (.iconst 1, 1) := by decide +kernel
theorem dX2_guests_19 : decode cX2_guests 19 = .ok (.if_icmp .ne 12, 3) := by decide +kernel
theorem dX2_guests_22 : decode cX2_guests 22 = .ok (.iload_n 1, 1) := by decide +kernel
theorem dX2_guests_23 : decode cX2_guests 23 = .ok (.aload_n 0, 1) := by decide +kernel
theorem dX2_guests_24 : decode cX2_guests 24 = .ok (.getfield 9, 3) := by decide +kernel
theorem dX2_guests_27 : decode cX2_guests 27 = .ok (.iload_n 2, 1) := by decide +kernel
theorem dX2_guests_28 : decode cX2_guests 28 = .ok (.iaload, 1) := by decide +kernel
theorem dX2_guests_29 : decode cX2_guests 29 = .ok (.iadd, 1) := by decide +kernel
theorem dX2_guests_30 : decode cX2_guests 30 = .ok (.istore_n 1, 1) := by decide +kernel
theorem dX2_guests_31 : decode cX2_guests 31 = .ok (.iinc 2 1, 3) := by decide +kernel
theorem dX2_guests_34 : decode cX2_guests 34 = .ok (.goto (-30), 3) := by decide +kernel
theorem dX2_guests_37 : decode cX2_guests 37 = .ok (.iload_n 1, 1) := by decide +kernel
theorem dX2_guests_38 : decode cX2_guests 38 = .ok (.ireturn, 1) := by decide +kernel
theorem dX2_add_0 : decode cX2_add 0 = .ok (.aload_n 0, 1) := by decide +kernel
theorem dX2_add_1 : decode cX2_add 1 = .ok (.getfield 34, 3) := by decide +kernel
theorem dX2_add_4 : decode cX2_add 4 = .ok (.bipush 17, 2) := by decide +kernel
theorem dX2_add_6 : decode cX2_add 6 = .ok (.if_icmp .lt 4, 3) := by decide +kernel
theorem dX2_add_9 : decode cX2_add 9 = .ok (.return_, 1) := by decide +kernel
theorem dX2_add_10 : decode cX2_add 10 = .ok (.aload_n 0, 1) := by decide +kernel
theorem dX2_add_11 : decode cX2_add 11 = .ok (.getfield 9, 3) := by decide +kernel
theorem dX2_add_14 : decode cX2_add 14 = .ok (.aload_n 0, 1) := by decide +kernel
theorem dX2_add_15 : decode cX2_add 15 = .ok (.getfield 34, 3) := by decide +kernel
theorem dX2_add_18 : decode cX2_add 18 = .ok (.iload_n 1, 1) := by decide +kernel
theorem dX2_add_19 : decode cX2_add 19 = .ok (.iastore, 1) := by decide +kernel
theorem dX2_add_20 : decode cX2_add 20 = .ok (.aload_n 0, 1) := by decide +kernel
theorem dX2_add_21 : decode cX2_add 21 = .ok (.getfield 13, 3) := by decide +kernel
theorem dX2_add_24 : decode cX2_add 24 = .ok (.aload_n 0, 1) := by decide +kernel
theorem dX2_add_25 : decode cX2_add 25 = .ok (.getfield 34, 3) := by decide +kernel
theorem dX2_add_28 : decode cX2_add 28 = .ok (.iload_n 2, 1) := by decide +kernel
theorem dX2_add_29 : decode cX2_add 29 = .ok (.iastore, 1) := by decide +kernel
theorem dX2_add_30 : decode cX2_add 30 = .ok (.aload_n 0, 1) := by decide +kernel
theorem dX2_add_31 : decode cX2_add 31 = .ok (.getfield 16, 3) := by decide +kernel
theorem dX2_add_34 : decode cX2_add 34 = .ok (.aload_n 0, 1) := by decide +kernel
theorem dX2_add_35 : decode cX2_add 35 = .ok (.getfield 34, 3) := by decide +kernel
theorem dX2_add_38 : decode cX2_add 38 = .ok (.iload_n 3, 1) := by decide +kernel
theorem dX2_add_39 : decode cX2_add 39 = .ok (.iastore, 1) := by decide +kernel
theorem dX2_add_40 : decode cX2_add 40 = .ok (.aload_n 0, 1) := by decide +kernel
theorem dX2_add_41 : decode cX2_add 41 = .ok (.getfield 19, 3) := by decide +kernel
theorem dX2_add_44 : decode cX2_add 44 = .ok (.aload_n 0, 1) := by decide +kernel
theorem dX2_add_45 : decode cX2_add 45 = .ok (.getfield 34, 3) := by decide +kernel
theorem dX2_add_48 : decode cX2_add 48 = .ok (.iconst 0, 1) := by decide +kernel
theorem dX2_add_49 : decode cX2_add 49 = .ok (.iastore, 1) := by decide +kernel
theorem dX2_add_50 : decode cX2_add 50 = .ok (.aload_n 0, 1) := by decide +kernel
theorem dX2_add_51 : decode cX2_add 51 = .ok (.getfield 22, 3) := by decide +kernel
theorem dX2_add_54 : decode cX2_add 54 = .ok (.aload_n 0, 1) := by decide +kernel
theorem dX2_add_55 : decode cX2_add 55 = .ok (.getfield 34, 3) := by decide +kernel
theorem dX2_add_58 : decode cX2_add 58 = .ok (.iconst 0, 1) := by decide +kernel
theorem dX2_add_59 : decode cX2_add 59 = .ok (.iastore, 1) := by decide +kernel
theorem dX2_add_60 : decode cX2_add 60 = .ok (.aload_n 0, 1) := by decide +kernel
theorem dX2_add_61 : decode cX2_add 61 = .ok (.getfield 25, 3) := by decide +kernel
theorem dX2_add_64 : decode cX2_add 64 = .ok (.aload_n 0, 1) := by decide +kernel
theorem dX2_add_65 : decode cX2_add 65 = .ok (.getfield 34, 3) := by decide +kernel
theorem dX2_add_68 : decode cX2_add 68 = .ok (.iconst (-1), 1) := by decide +kernel
theorem dX2_add_69 : decode cX2_add 69 = .ok (.iastore, 1) := by decide +kernel
theorem dX2_add_70 : decode cX2_add 70 = .ok (.aload_n 0, 1) := by decide +kernel
theorem dX2_add_71 : decode cX2_add 71 = .ok (.dup, 1) := by decide +kernel
theorem dX2_add_72 : decode cX2_add 72 = .ok (.getfield 34, 3) := by decide +kernel
theorem dX2_add_75 : decode cX2_add 75 = .ok (.iconst 1, 1) := by decide +kernel
theorem dX2_add_76 : decode cX2_add 76 = .ok (.iadd, 1) := by decide +kernel
theorem dX2_add_77 : decode cX2_add 77 = .ok (.putfield 34, 3) := by decide +kernel
theorem dX2_add_80 : decode cX2_add 80 = .ok (.return_, 1) := by decide +kernel
theorem dX2_leave_0 : decode cX2_leave 0 = .ok (.iconst 0, 1) := by decide +kernel
theorem dX2_leave_1 : decode cX2_leave 1 = .ok (.istore_n 1, 1) := by decide +kernel
theorem dX2_leave_2 : decode cX2_leave 2 = .ok (.iload_n 1, 1) := by decide +kernel
theorem dX2_leave_3 : decode cX2_leave 3 = .ok (.aload_n 0, 1) := by decide +kernel
theorem dX2_leave_4 : decode cX2_leave 4 = .ok (.getfield 34, 3) := by decide +kernel
theorem dX2_leave_7 : decode cX2_leave 7 = .ok (.if_icmp .ge 41, 3) := by decide +kernel
theorem dX2_leave_10 : decode cX2_leave 10 = .ok (.aload_n 0, 1) := by decide +kernel
theorem dX2_leave_11 : decode cX2_leave 11 = .ok (.getfield 19, 3) := by decide +kernel
theorem dX2_leave_14 : decode cX2_leave 14 = .ok (.iload_n 1, 1) := by decide +kernel
theorem dX2_leave_15 : decode cX2_leave 15 = .ok (.iaload, 1) := by decide +kernel
theorem dX2_leave_16 : decode cX2_leave 16 = .ok (.iconst 1, 1) := by decide +kernel
theorem dX2_leave_17 : decode cX2_leave 17 = .ok (.if_icmp .ne 25, 3) := by decide +kernel
theorem dX2_leave_20 : decode cX2_leave 20 = .ok (.aload_n 0, 1) := by decide +kernel
theorem dX2_leave_21 : decode cX2_leave 21 = .ok (.getfield 22, 3) := by decide +kernel
theorem dX2_leave_24 : decode cX2_leave 24 = .ok (.iload_n 1, 1) := by decide +kernel
theorem dX2_leave_25 : decode cX2_leave 25 = .ok (.iaload, 1) := by decide +kernel
theorem dX2_leave_26 : decode cX2_leave 26 = .ok (.aload_n 0, 1) := by decide +kernel
theorem dX2_leave_27 : decode cX2_leave 27 = .ok (.getfield 16, 3) := by decide +kernel
theorem dX2_leave_30 : decode cX2_leave 30 = .ok (.iload_n 1, 1) := by decide +kernel
theorem dX2_leave_31 : decode cX2_leave 31 = .ok (.iaload, 1) := by decide +kernel
theorem dX2_leave_32 : decode cX2_leave 32 = .ok (.if_icmp .lt 10, 3) := by decide +kernel
theorem dX2_leave_35 : decode cX2_leave 35 = .ok (.aload_n 0, 1) := by decide +kernel
theorem dX2_leave_36 : decode cX2_leave 36 = .ok (.getfield 19, 3) := by decide +kernel
theorem dX2_leave_39 : decode cX2_leave 39 = .ok (.iload_n 1, 1) := by decide +kernel
theorem dX2_leave_40 : decode cX2_leave 40 = .ok (.iconst 2, 1) := by decide +kernel
theorem dX2_leave_41 : decode cX2_leave 41 = .ok (.iastore, 1) := by decide +kernel
theorem dX2_leave_42 : decode cX2_leave 42 = .ok (.iinc 1 1, 3) := by decide +kernel
theorem dX2_leave_45 : decode cX2_leave 45 = .ok (.goto (-43), 3) := by decide +kernel
theorem dX2_leave_48 : decode cX2_leave 48 = .ok (.return_, 1) := by decide +kernel
theorem dX2_arrive_0 : decode cX2_arrive 0 = .ok (.iconst 1, 1) := by decide +kernel
theorem dX2_arrive_1 : decode cX2_arrive 1 = .ok (.istore 4, 2) := by decide +kernel
theorem dX2_arrive_3 : decode cX2_arrive 3 = .ok (.iload_n 3, 1) := by decide +kernel
theorem dX2_arrive_4 : decode cX2_arrive 4 = .ok (.istore 5, 2) := by decide +kernel
theorem dX2_arrive_6 : decode cX2_arrive 6 = .ok (.iconst 0, 1) := by decide +kernel
theorem dX2_arrive_7 : decode cX2_arrive 7 = .ok (.istore 6, 2) := by decide +kernel
theorem dX2_arrive_9 : decode cX2_arrive 9 = .ok (.iload 6, 2) := by decide +kernel
theorem dX2_arrive_11 : decode cX2_arrive 11 = .ok (.aload_n 0, 1) := by decide +kernel
theorem dX2_arrive_12 : decode cX2_arrive 12 = .ok (.getfield 34, 3) := by decide +kernel
theorem dX2_arrive_15 : decode cX2_arrive 15 = .ok (.if_icmp .ge 125, 3) := by decide +kernel
theorem dX2_arrive_18 : decode cX2_arrive 18 = .ok (.aload_n 0, 1) := by decide +kernel
theorem dX2_arrive_19 : decode cX2_arrive 19 = .ok (.getfield 19, 3) := by decide +kernel
theorem dX2_arrive_22 : decode cX2_arrive 22 = .ok (.iload 6, 2) := by decide +kernel
theorem dX2_arrive_24 : decode cX2_arrive 24 = .ok (.iaload, 1) := by decide +kernel
theorem dX2_arrive_25 : decode cX2_arrive 25 = .ok (.ifCond .ne 109, 3) := by decide +kernel
theorem dX2_arrive_28 : decode cX2_arrive 28 = .ok (.aload_n 0, 1) := by decide +kernel
theorem dX2_arrive_29 : decode cX2_arrive 29 = .ok (.getfield 13, 3) := by decide +kernel
theorem dX2_arrive_32 : decode cX2_arrive 32 = .ok (.iload 6, 2) := by decide +kernel
theorem dX2_arrive_34 : decode cX2_arrive 34 = .ok (.iaload, 1) := by decide +kernel
theorem dX2_arrive_35 : decode cX2_arrive 35 = .ok (.iload_n 1, 1) := by decide +kernel
theorem dX2_arrive_36 : decode cX2_arrive 36 = .ok (.if_icmp .le 6, 3) := by decide +kernel
theorem dX2_arrive_39 : decode cX2_arrive 39 = .ok (.goto 95, 3) := by decide +kernel
theorem dX2_arrive_42 : decode cX2_arrive 42 = .ok (.aload_n 0, 1) := by decide +kernel
theorem dX2_arrive_43 : decode cX2_arrive 43 = .ok (.getfield 13, 3) := by decide +kernel
theorem dX2_arrive_46 : decode cX2_arrive 46 = .ok (.iload 6, 2) := by decide +kernel
theorem dX2_arrive_48 : decode cX2_arrive 48 = .ok (.iaload, 1) := by decide +kernel
theorem dX2_arrive_49 : decode cX2_arrive 49 = .ok (.aload_n 0, 1) := by decide +kernel
theorem dX2_arrive_50 : decode cX2_arrive 50 = .ok (.getfield 16, 3) := by decide +kernel
theorem dX2_arrive_53 : decode cX2_arrive 53 = .ok (.iload 6, 2) := by decide +kernel
theorem dX2_arrive_55 : decode cX2_arrive 55 = .ok (.iaload, 1) := by decide +kernel
theorem dX2_arrive_56 : decode cX2_arrive 56 = .ok (.iadd, 1) := by decide +kernel
theorem dX2_arrive_57 : decode cX2_arrive 57 = .ok (.iload_n 1, 1) := by decide +kernel
theorem dX2_arrive_58 : decode cX2_arrive 58 = .ok (.if_icmp .gt 14, 3) := by decide +kernel
theorem dX2_arrive_61 : decode cX2_arrive 61 = .ok (.aload_n 0, 1) := by decide +kernel
theorem dX2_arrive_62 : decode cX2_arrive 62 = .ok (.getfield 19, 3) := by decide +kernel
theorem dX2_arrive_65 : decode cX2_arrive 65 = .ok (.iload 6, 2) := by decide +kernel
theorem dX2_arrive_67 : decode cX2_arrive 67 = .ok (.iconst 3, 1) := by decide +kernel
theorem dX2_arrive_68 : decode cX2_arrive 68 = .ok (.iastore, 1) := by decide +kernel
theorem dX2_arrive_69 : decode cX2_arrive 69 = .ok (.goto 65, 3) := by decide +kernel
theorem dX2_arrive_72 : decode cX2_arrive 72 = .ok (.iload_n 2, 1) := by decide +kernel
theorem dX2_arrive_73 : decode cX2_arrive 73 = .ok (.ifCond .ne 46, 3) := by decide +kernel
theorem dX2_arrive_76 : decode cX2_arrive 76 = .ok (.aload_n 0, 1) := by decide +kernel
theorem dX2_arrive_77 : decode cX2_arrive 77 = .ok (.getfield 9, 3) := by decide +kernel
theorem dX2_arrive_80 : decode cX2_arrive 80 = .ok (.iload 6, 2) := by decide +kernel
theorem dX2_arrive_82 : decode cX2_arrive 82 = .ok (.iaload, 1) := by decide +kernel
theorem dX2_arrive_83 : decode cX2_arrive 83 = .ok (.iload 5, 2) := by decide +kernel
theorem dX2_arrive_85 : decode cX2_arrive 85 = .ok (.if_icmp .gt 34, 3) := by decide +kernel
theorem dX2_arrive_88 : decode cX2_arrive 88 = .ok (.aload_n 0, 1) := by decide +kernel
theorem dX2_arrive_89 : decode cX2_arrive 89 = .ok (.getfield 19, 3) := by decide +kernel
theorem dX2_arrive_92 : decode cX2_arrive 92 = .ok (.iload 6, 2) := by decide +kernel
theorem dX2_arrive_94 : decode cX2_arrive 94 = .ok (.iconst 1, 1) := by decide +kernel
theorem dX2_arrive_95 : decode cX2_arrive 95 = .ok (.iastore, 1) := by decide +kernel
theorem dX2_arrive_96 : decode cX2_arrive 96 = .ok (.aload_n 0, 1) := by decide +kernel
theorem dX2_arrive_97 : decode cX2_arrive 97 = .ok (.getfield 25, 3) := by decide +kernel
theorem dX2_arrive_100 : decode cX2_arrive 100 = .ok (.iload 6, 2) := by decide +kernel
theorem dX2_arrive_102 : decode cX2_arrive 102 = .ok (.iload_n 1, 1) := by decide +kernel
theorem dX2_arrive_103 : decode cX2_arrive 103 = .ok (.iastore, 1) := by decide +kernel
theorem dX2_arrive_104 : decode cX2_arrive 104 = .ok (.iload 5, 2) := by decide +kernel
theorem dX2_arrive_106 : decode cX2_arrive 106 = .ok (.aload_n 0, 1) := by decide +kernel
theorem dX2_arrive_107 : decode cX2_arrive 107 = .ok (.getfield 9, 3) := by decide +kernel
theorem dX2_arrive_110 : decode cX2_arrive 110 = .ok (.iload 6, 2) := by decide +kernel
theorem dX2_arrive_112 : decode cX2_arrive 112 = .ok (.iaload, 1) := by decide +kernel
theorem dX2_arrive_113 : decode cX2_arrive 113 = .ok (.isub, 1) := by decide +kernel
theorem dX2_arrive_114 : decode cX2_arrive 114 = .ok (.istore 5, 2) := by decide +kernel
theorem dX2_arrive_116 : decode cX2_arrive 116 = .ok (.goto 18, 3) := by decide +kernel
theorem dX2_arrive_119 : decode cX2_arrive 119 = .ok (.iload_n 2, 1) := by decide +kernel
theorem dX2_arrive_120 : decode cX2_arrive 120 = .ok (.ifCond .ne 14, 3) := by decide +kernel
theorem dX2_arrive_123 : decode cX2_arrive 123 = .ok (.aload_n 0, 1) := by decide +kernel
theorem dX2_arrive_124 : decode cX2_arrive 124 = .ok (.getfield 19, 3) := by decide +kernel
theorem dX2_arrive_127 : decode cX2_arrive 127 = .ok (.iload 6, 2) := by decide +kernel
theorem dX2_arrive_129 : decode cX2_arrive 129 = .ok (.iconst 3, 1) := by decide +kernel
theorem dX2_arrive_130 : decode cX2_arrive 130 = .ok (.iastore, 1) := by decide +kernel
theorem dX2_arrive_131 : decode cX2_arrive 131 = .ok (.iconst 0, 1) := by decide +kernel
theorem dX2_arrive_132 : decode cX2_arrive 132 = .ok (.istore 4, 2) := by decide +kernel
theorem dX2_arrive_134 : decode cX2_arrive 134 = .ok (.iinc 6 1, 3) := by decide +kernel
theorem dX2_arrive_137 : decode cX2_arrive 137 = .ok (.goto (-128), 3) := by decide +kernel
theorem dX2_arrive_140 : decode cX2_arrive 140 = .ok (.iload 4, 2) := by decide +kernel
theorem dX2_arrive_142 : decode cX2_arrive 142 = .ok (.ireturn, 1) := by decide +kernel
theorem dX2_sleepOnce_0 : decode cX2_sleepOnce 0 = .ok (.iconst 0, 1) := by decide +kernel
theorem dX2_sleepOnce_1 : decode cX2_sleepOnce 1 = .ok (.istore_n 1, 1) := by decide +kernel
theorem dX2_sleepOnce_2 : decode cX2_sleepOnce 2 = .ok (.iload_n 1, 1) := by decide +kernel
theorem dX2_sleepOnce_3 : decode cX2_sleepOnce 3 = .ok (.aload_n 0, 1) := by decide +kernel
theorem dX2_sleepOnce_4 : decode cX2_sleepOnce 4 = .ok (.getfield 34, 3) := by decide +kernel
theorem dX2_sleepOnce_7 : decode cX2_sleepOnce 7 = .ok (.if_icmp .ge 29, 3) := by decide +kernel
theorem dX2_sleepOnce_10 : decode cX2_sleepOnce 10 = .ok (.aload_n 0, 1) := by decide +kernel
theorem dX2_sleepOnce_11 : decode cX2_sleepOnce 11 = .ok (.getfield 19, 3) := by decide +kernel
theorem dX2_sleepOnce_14 : decode cX2_sleepOnce 14 = .ok (.iload_n 1, 1) := by decide +kernel
theorem dX2_sleepOnce_15 : decode cX2_sleepOnce 15 = .ok (.iaload, 1) := by decide +kernel
theorem dX2_sleepOnce_16 : decode cX2_sleepOnce 16 = .ok (.iconst 1, 1) := by decide +kernel
theorem dX2_sleepOnce_17 : decode cX2_sleepOnce 17 = .ok (.if_icmp .ne 13, 3) := by decide +kernel
theorem dX2_sleepOnce_20 : decode cX2_sleepOnce 20 = .ok (.aload_n 0, 1) := by decide +kernel
theorem dX2_sleepOnce_21 : decode cX2_sleepOnce 21 = .ok (.getfield 22, 3) := by decide +kernel
theorem dX2_sleepOnce_24 : decode cX2_sleepOnce 24 = .ok (.iload_n 1, 1) := by decide +kernel
theorem dX2_sleepOnce_25 : decode cX2_sleepOnce 25 = .ok (.dup2, 1) := by decide +kernel
theorem dX2_sleepOnce_26 : decode cX2_sleepOnce 26 = .ok (.iaload, 1) := by decide +kernel
theorem dX2_sleepOnce_27 : decode cX2_sleepOnce 27 = .ok (.iconst 1, 1) := by decide +kernel
theorem dX2_sleepOnce_28 : decode cX2_sleepOnce 28 = .ok (.iadd, 1) := by decide +kernel
theorem dX2_sleepOnce_29 : decode cX2_sleepOnce 29 = .ok (.iastore, 1) := by decide +kernel
theorem dX2_sleepOnce_30 : decode cX2_sleepOnce 30 = .ok (.iinc 1 1, 3) := by decide +kernel
theorem dX2_sleepOnce_33 : decode cX2_sleepOnce 33 = .ok (.goto (-31), 3) := by decide +kernel
theorem dX2_sleepOnce_36 : decode cX2_sleepOnce 36 = .ok (.return_, 1) := by decide +kernel
set_option maxRecDepth 20000 in
theorem ggX3_init_X1_init : GoodIn wsX3_init wsX1_init := goodIn_r _ [11, 12, 2, 3, 13, 14, 15, 16, 17, 18, 19, 20, 21, 22, 23, 24, 25, 26, 27, 28, 29, 30, 31, 32, 33, 34, 35, 36, 37, 38, 39, 40, 41, 42, 43, 44, 45, 46, 47, 48, 65, 66, 67, 68, 69, 70, 71, 72, 73, 74, 75, 49, 50, 51, 52, 53, 54, 55, 56, 57, 58, 76, 77, 78, 79, 80, 81, 82] (by decide +kernel) (by decide +kernel)
set_option maxRecDepth 20000 in
theorem gX3_init_X1_init : GoodIn wsX3_init (wsX1_init) := ggX3_init_X1_init
theorem dX3_init_0 : decode cX3_init 0 = .ok (.aload_n 0, 1) := by decide +kernel
theorem dX3_init_1 : decode cX3_init 1 = .ok (.invokespecial 3, 3) := by decide +kernel
theorem dX3_init_4 : decode cX3_init 4 = .ok (.aload_n 0, 1) := by decide +kernel
theorem dX3_init_5 : decode cX3_init 5 = .ok (.new 9, 3) := by decide +kernel
theorem dX3_init_8 : decode cX3_init 8 = .ok (.dup, 1) := by decide +kernel
theorem dX3_init_9 : decode cX3_init 9 = .ok (.invokespecial 11, 3) := by decide +kernel
theorem dX3_init_12 : decode cX3_init 12 = .ok (.putfield 12, 3) := by decide +kernel
theorem dX3_init_15 : decode cX3_init 15 = .ok (.aload_n 0, 1) := by decide +kernel
theorem dX3_init_16 : decode cX3_init 16 = .ok (.new 9, 3) := by decide +kernel
theorem dX3_init_19 : decode cX3_init 19 = .ok (.dup, 1) := by decide +kernel
theorem dX3_init_20 : decode cX3_init 20 = .ok (.invokespecial 11, 3) := by decide +kernel
theorem dX3_init_23 : decode cX3_init 23 = .ok (.putfield 18, 3) := by decide +kernel
theorem dX3_init_26 : decode cX3_init 26 = .ok (.return_, 1) := by decide +kernel
set_option maxRecDepth 20000 in
theorem ggX3_run_X1_copyFrom : GoodIn wsX3_run wsX1_copyFrom := goodIn_r _ [14, 15, 16, 17, 18, 19, 20, 21, 22, 23, 24, 25, 26, 27, 28, 29, 30, 31, 32, 33, 34, 35, 36, 37, 38, 39, 40, 41, 42, 43, 44, 45, 46, 47, 48, 49, 50, 51, 52, 53, 54, 55, 56, 57, 58, 226, 227, 228, 229, 230, 231, 232, 233, 234, 235, 236, 237, 238, 239, 240, 241, 242, 243, 244, 245, 246, 247, 248, 249, 250, 251, 252, 253] (by decide +kernel) (by decide +kernel)
set_option maxRecDepth 20000 in
theorem gX3_run_X1_copyFrom : GoodIn wsX3_run (wsV RX3 21 RX1 yX1_copyFrom wsX1_copyFrom) := goodIn_app (goodIn_of _ (by decide +kernel)) ggX3_run_X1_copyFrom
set_option maxRecDepth 20000 in
theorem ggX3_run_X5_readCommand : GoodIn wsX3_run wsX5_readCommand := goodIn_r _ [63, 64, 65, 66, 67, 68, 69, 62, 70, 71, 72, 73, 74, 75, 76, 77, 78, 79, 80, 81, 82, 83, 84, 85, 86, 87, 88, 221, 222, 223, 224, 225] (by decide +kernel) (by decide +kernel)
set_option maxRecDepth 20000 in
theorem gX3_run_X5_readCommand : GoodIn wsX3_run (wsV RX3 43 RX5 yX5_readCommand wsX5_readCommand) := goodIn_app (goodIn_of _ (by decide +kernel)) ggX3_run_X5_readCommand
set_option maxRecDepth 20000 in
theorem ggX3_run_X3_obey : GoodIn wsX3_run wsX3_obey := goodIn_r _ [93, 1, 94, 95, 96, 97, 13, 98, 15, 99, 100, 101, 32, 102, 103, 104, 105, 106, 45, 38, 39, 40, 107, 108, 109, 110, 24, 22, 111, 23, 112, 113, 114, 115, 17, 116, 117, 118, 119, 120, 121, 122, 123, 44, 37, 34, 36, 41, 124, 125, 126, 127, 128, 16, 129, 130, 131, 132, 133, 134, 11, 12, 14, 18, 19, 20, 21, 25, 26, 27, 28, 29, 30, 31, 33, 35, 42, 43, 46, 47, 48, 49, 50, 51, 52, 53, 54, 55, 56, 57, 58, 135, 136, 137, 138, 139, 140, 141, 142, 143, 144, 145, 146, 147, 148, 149, 150, 151, 152, 87, 153, 154, 155, 156, 157, 158, 159, 160, 161, 162, 163, 164, 165, 166, 167, 168, 169, 170, 171, 172, 173, 174, 175, 176, 177, 178, 179, 180, 181, 182, 183, 184, 185, 186, 187, 188, 189, 190, 191, 192, 193, 194, 195, 196, 197, 198, 199, 200, 201, 202, 203, 204, 205, 206, 207, 208, 209, 210, 211, 212, 213, 214, 215, 216, 217, 218, 219, 220, 226, 227, 228, 229, 230, 231, 232, 233, 234, 235, 236, 237, 238, 239, 240, 241, 242, 243, 244, 245, 246, 247, 248, 249, 250, 251, 252, 253] (by decide +kernel) (by decide +kernel)
set_option maxRecDepth 20000 in
theorem gX3_run_X3_obey : GoodIn wsX3_run (wsV RX3 55 RX3 yX3_obey wsX3_obey) := goodIn_app (goodIn_of _ (by decide +kernel)) ggX3_run_X3_obey
theorem dX3_run_0 : decode cX3_run 0 = .ok (.aload_n 0, 1) := by decide +kernel
theorem dX3_run_1 : decode cX3_run 1 = .ok (.getfield 12, 3) := by decide +kernel
theorem dX3_run_4 : decode cX3_run 4 = .ok (.aload_n 2, 1) := by decide +kernel
theorem dX3_run_5 : decode cX3_run 5 = .ok (.invokevirtual 21, 3) := by decide +kernel
theorem dX3_run_8 : decode cX3_run 8 = .ok (.aload_n 0, 1) := by decide +kernel
theorem dX3_run_9 : decode cX3_run 9 = .ok (.iconst 0, 1) := by decide +kernel
theorem dX3_run_10 : decode cX3_run 10 = .ok (.putfield 25, 3) := by decide +kernel
theorem dX3_run_13 : decode cX3_run 13 = .ok (.aload_n 0, 1) := by decide +kernel
theorem dX3_run_14 : decode cX3_run 14 = .ok (.iconst 0, 1) := by decide +kernel
theorem dX3_run_15 : decode cX3_run 15 = .ok (.putfield 29, 3) := by decide +kernel
theorem dX3_run_18 : decode cX3_run 18 = .ok (.aload_n 0, 1) := by decide +kernel
theorem dX3_run_19 : decode cX3_run 19 = .ok (.iconst 0, 1) := by decide +kernel
theorem dX3_run_20 : decode cX3_run 20 = .ok (.putfield 32, 3) := by decide +kernel
theorem dX3_run_23 : decode cX3_run 23 = .ok (.aload_n 0, 1) := by decide +kernel
theorem dX3_run_24 : decode cX3_run 24 = .ok (.iconst 0, 1) := by decide +kernel
theorem dX3_run_25 : decode cX3_run 25 = .ok (.putfield 35, 3) := by decide +kernel
theorem dX3_run_28 : decode cX3_run 28 = .ok (.iconst 0, 1) := by decide +kernel
theorem dX3_run_29 : decode cX3_run 29 = .ok (.istore_n 3, 1) := by decide +kernel
theorem dX3_run_30 : decode cX3_run 30 = .ok (.iload_n 3, 1) := by decide +kernel
theorem dX3_run_31 : decode cX3_run 31 = .ok (.bipush 60, 2) := by decide +kernel
theorem dX3_run_33 : decode cX3_run 33 = .ok (.if_icmp .ge 86, 3) := by decide +kernel
theorem dX3_run_36 : decode cX3_run 36 = .ok (.aload_n 0, 1) := by decide +kernel
theorem dX3_run_37 : decode cX3_run 37 = .ok (.getfield 29, 3) := by decide +kernel
theorem dX3_run_40 : decode cX3_run 40 = .ok (.aload_n 1, 1) := by decide +kernel
theorem dX3_run_41 : decode cX3_run 41 = .ok (.getfield 40, 3) := by decide +kernel
theorem dX3_run_44 : decode cX3_run 44 = .ok (.if_icmp .ge 75, 3) := by decide +kernel
theorem dX3_run_47 : decode cX3_run 47 = .ok (.aload_n 1, 1) := by decide +kernel
theorem dX3_run_48 : decode cX3_run 48 = .ok (.aload_n 0, 1) := by decide +kernel
theorem dX3_run_49 : decode cX3_run 49 = .ok (.getfield 29, 3) := by decide +kernel
theorem dX3_run_52 : decode cX3_run 52 = .ok (.invokevirtual 43, 3) := by decide +kernel
theorem dX3_run_55 : decode cX3_run 55 = .ok (.ifCond .ne 9, 3) := by decide +kernel
theorem dX3_run_58 : decode cX3_run 58 = .ok (.aload_n 0, 1) := by decide +kernel
theorem dX3_run_59 : decode cX3_run 59 = .ok (.iconst 1, 1) := by decide +kernel
theorem dX3_run_60 : decode cX3_run 60 = .ok (.putfield 32, 3) := by decide +kernel
theorem dX3_run_63 : decode cX3_run 63 = .ok (.return_, 1) := by decide +kernel
theorem dX3_run_64 : decode cX3_run 64 = .ok (.aload_n 0, 1) := by decide +kernel
theorem dX3_run_65 : decode cX3_run 65 = .ok (.aload_n 1, 1) := by decide +kernel
theorem dX3_run_66 : decode cX3_run 66 = .ok (.getfield 47, 3) := by decide +kernel
theorem dX3_run_69 : decode cX3_run 69 = .ok (.aload_n 1, 1) := by decide +kernel
theorem dX3_run_70 : decode cX3_run 70 = .ok (.getfield 51, 3) := by decide +kernel
theorem dX3_run_73 : decode cX3_run 73 = .ok (.invokevirtual 55, 3) := by decide +kernel
theorem dX3_run_76 : decode cX3_run 76 = .ok (.istore 4, 2) := by decide +kernel
theorem dX3_run_78 : decode cX3_run 78 = .ok (.iload 4, 2) := by decide +kernel
theorem dX3_run_80 : decode cX3_run 80 = .ok (.ifCond .ge 15, 3) := by decide +kernel
theorem dX3_run_83 : decode cX3_run 83 = .ok (.aload_n 0, 1) := by decide +kernel
theorem dX3_run_84 : decode cX3_run 84 = .ok (.iconst 2, 1) := by decide +kernel
theorem dX3_run_85 : decode cX3_run 85 = .ok (.putfield 32, 3) := by decide +kernel
theorem dX3_run_88 : decode cX3_run 88 = .ok (.aload_n 0, 1) := by decide +kernel
theorem dX3_run_89 : decode cX3_run 89 = .ok (.iload 4, 2) := by decide +kernel
theorem dX3_run_91 : decode cX3_run 91 = .ok (.putfield 35, 3) := by decide +kernel
theorem dX3_run_94 : decode cX3_run 94 = .ok (.return_, 1) := by decide +kernel
theorem dX3_run_95 : decode cX3_run 95 = .ok (.aload_n 0, 1) := by decide +kernel
theorem dX3_run_96 : decode cX3_run 96 = .ok (.dup, 1) := by decide +kernel
theorem dX3_run_97 : decode cX3_run 97 = .ok (.getfield 25, 3) := by decide +kernel
theorem dX3_run_100 : decode cX3_run 100 = .ok (.iconst 1, 1) := by decide +kernel
theorem dX3_run_101 : decode cX3_run 101 = .ok (.iadd, 1) := by decide +kernel
theorem dX3_run_102 : decode cX3_run 102 = .ok (.putfield 25, 3) := by decide +kernel
theorem dX3_run_105 : decode cX3_run 105 = .ok (.aload_n 0, 1) := by decide +kernel
theorem dX3_run_106 : decode cX3_run 106 = .ok (.aload_n 1, 1) := by decide +kernel
theorem dX3_run_107 : decode cX3_run 107 = .ok (.getfield 59, 3) := by decide +kernel
theorem dX3_run_110 : decode cX3_run 110 = .ok (.putfield 29, 3) := by decide +kernel
theorem dX3_run_113 : decode cX3_run 113 = .ok (.iinc 3 1, 3) := by decide +kernel
theorem dX3_run_116 : decode cX3_run 116 = .ok (.goto (-86), 3) := by decide +kernel
theorem dX3_run_119 : decode cX3_run 119 = .ok (.return_, 1) := by decide +kernel
set_option maxRecDepth 20000 in
theorem ggX3_obey_X1_putOnPallet : GoodIn wsX3_obey wsX1_putOnPallet := goodIn_r _ [7, 8, 9, 10, 11, 12, 13, 14, 15, 16, 17, 18, 19, 20, 21, 178, 179, 180, 181, 182, 183, 184, 185, 186, 187, 188, 189, 190, 191, 192, 193, 194, 195, 196, 197, 198] (by decide +kernel) (by decide +kernel)
set_option maxRecDepth 20000 in
theorem gX3_obey_X1_putOnPallet : GoodIn wsX3_obey (wsV RX3 62 RX1 yX1_putOnPallet wsX1_putOnPallet) := goodIn_app (goodIn_of _ (by decide +kernel)) ggX3_obey_X1_putOnPallet
set_option maxRecDepth 20000 in
theorem ggX3_obey_X1_bringPallet : GoodIn wsX3_obey wsX1_bringPallet := goodIn_r _ [25, 8, 9, 26, 27, 28, 29, 30, 31, 32, 6, 33, 34, 35, 36, 37, 12, 38, 18, 19, 20, 21, 39, 40, 41, 42, 43, 44, 45, 46, 47, 48, 11, 13, 178, 179, 180, 181, 182, 183, 184, 185, 186, 187, 188, 189, 190, 191, 192, 193, 194, 195, 196, 197, 198] (by decide +kernel) (by decide +kernel)
set_option maxRecDepth 20000 in
theorem gX3_obey_X1_bringPallet : GoodIn wsX3_obey (wsV RX3 66 RX1 yX1_bringPallet wsX1_bringPallet) := goodIn_app (goodIn_of _ (by decide +kernel)) ggX3_obey_X1_bringPallet
set_option maxRecDepth 20000 in
theorem ggX3_obey_X1_takeBooking : GoodIn wsX3_obey wsX1_takeBooking := goodIn_r _ [52, 53, 54, 55, 56, 57, 6, 58, 29, 59, 60, 61, 62, 8, 34, 63, 64, 65, 66, 27, 26, 67, 68, 69, 70, 71, 72, 73, 12, 74, 45, 75, 46, 44, 19, 20, 21, 47, 76, 77, 43, 18, 78, 79, 80, 81, 82, 83, 84, 85, 86, 87, 88, 89, 90, 91, 92, 93, 94, 95, 96, 97, 98, 99, 100, 101, 102, 103, 104, 105, 106, 107, 108, 109, 110, 30, 31, 32, 33, 111, 112, 113, 114, 115, 116, 117, 118, 119, 120, 121, 122, 123, 124, 125, 126, 127, 128, 129, 130, 131, 132, 133, 134, 135, 136, 137, 138, 139, 140, 141, 142, 143, 144, 145, 146, 147, 148, 149, 150, 178, 179, 180, 181, 182, 183, 184, 185, 186, 187, 199, 200, 201, 202, 203, 204, 205, 188, 189, 190, 191, 192, 193, 194, 195, 196, 197, 198] (by decide +kernel) (by decide +kernel)
set_option maxRecDepth 20000 in
theorem gX3_obey_X1_takeBooking : GoodIn wsX3_obey (wsV RX3 70 RX1 yX1_takeBooking wsX1_takeBooking) := goodIn_app (goodIn_of _ (by decide +kernel)) ggX3_obey_X1_takeBooking
set_option maxRecDepth 20000 in
theorem ggX3_obey_X1_callOff : GoodIn wsX3_obey wsX1_callOff := goodIn_r _ [154, 53, 155, 156, 157, 158, 81, 159, 90, 160, 161, 162, 163, 87, 178, 179, 180, 181, 182, 183, 184, 185, 186, 187, 199, 200, 201, 202, 203, 204, 205] (by decide +kernel) (by decide +kernel)
set_option maxRecDepth 20000 in
theorem gX3_obey_X1_callOff : GoodIn wsX3_obey (wsV RX3 74 RX1 yX1_callOff wsX1_callOff) := goodIn_app (goodIn_of _ (by decide +kernel)) ggX3_obey_X1_callOff
set_option maxRecDepth 20000 in
theorem ggX3_obey_X1_tellStorm : GoodIn wsX3_obey wsX1_tellStorm := goodIn_r _ [167, 29, 34, 178, 179, 180, 181, 182, 183, 184, 185, 186, 187] (by decide +kernel) (by decide +kernel)
set_option maxRecDepth 20000 in
theorem gX3_obey_X1_tellStorm : GoodIn wsX3_obey (wsV RX3 78 RX1 yX1_tellStorm wsX1_tellStorm) := goodIn_app (goodIn_of _ (by decide +kernel)) ggX3_obey_X1_tellStorm
set_option maxRecDepth 20000 in
theorem ggX3_obey_X1_passNights : GoodIn wsX3_obey wsX1_passNights := goodIn_r _ [171, 29, 67, 103, 104, 105, 6, 106, 53, 27, 8, 70, 107, 108, 109, 110, 68, 69, 30, 31, 32, 33, 34, 111, 112, 113, 81, 114, 90, 87, 88, 86, 115, 116, 117, 118, 83, 119, 120, 121, 122, 85, 89, 123, 124, 125, 12, 126, 43, 45, 46, 127, 128, 129, 130, 131, 132, 133, 134, 76, 135, 136, 137, 138, 139, 140, 141, 142, 143, 144, 145, 146, 44, 77, 147, 148, 149, 150, 178, 179, 180, 181, 182, 183, 184, 185, 186, 187, 199, 200, 201, 202, 203, 204, 205, 188, 189, 190, 191, 192, 193, 194, 195, 196, 197, 198] (by decide +kernel) (by decide +kernel)
set_option maxRecDepth 20000 in
theorem gX3_obey_X1_passNights : GoodIn wsX3_obey (wsV RX3 82 RX1 yX1_passNights wsX1_passNights) := goodIn_app (goodIn_of _ (by decide +kernel)) ggX3_obey_X1_passNights
theorem dX3_obey_0 : decode cX3_obey 0 = .ok (.iload_n 1, 1) := by decide +kernel
theorem dX3_obey_1 : decode cX3_obey 1 = .ok (.lookupswitch 141 #[(98, 84), (102, 76), (108, 59), (110, 130), (115, 116), (120, 105)], 59) := by decide +kernel
theorem dX3_obey_60 : decode cX3_obey 60 = .ok (.aload_n 0, 1) := by decide +kernel
theorem dX3_obey_61 : decode cX3_obey 61 = .ok (.getfield 12, 3) := by decide +kernel
theorem dX3_obey_64 : decode cX3_obey 64 = .ok (.aload_n 2, 1) := by decide +kernel
theorem dX3_obey_65 : decode cX3_obey 65 = .ok (.iconst 0, 1) := by decide +kernel
theorem dX3_obey_66 : decode cX3_obey 66 = .ok (.iaload, 1) := by decide +kernel
theorem dX3_obey_67 : decode cX3_obey 67 = .ok (.aload_n 2, 1) := by decide +kernel
theorem dX3_obey_68 : decode cX3_obey 68 = .ok (.iconst 1, 1) := by decide +kernel
theorem dX3_obey_69 : decode cX3_obey 69 = .ok (.iaload, 1) := by decide +kernel
theorem dX3_obey_70 : decode cX3_obey 70 = .ok (.aload_n 2, 1) := by decide +kernel
theorem dX3_obey_71 : decode cX3_obey 71 = .ok (.iconst 2, 1) := by decide +kernel
theorem dX3_obey_72 : decode cX3_obey 72 = .ok (.iaload, 1) := by decide +kernel
theorem dX3_obey_73 : decode cX3_obey 73 = .ok (.invokevirtual 62, 3) := by decide +kernel
theorem dX3_obey_76 : decode cX3_obey 76 = .ok (.ireturn, 1) := by decide +kernel
theorem dX3_obey_77 : decode cX3_obey 77 = .ok (.aload_n 0, 1) := by decide +kernel
theorem dX3_obey_78 : decode cX3_obey 78 = .ok (.getfield 12, 3) := by decide +kernel
theorem dX3_obey_81 : decode cX3_obey 81 = .ok (.invokevirtual 66, 3) := by decide +kernel
theorem dX3_obey_84 : decode cX3_obey 84 = .ok (.ireturn, 1) := by decide +kernel
theorem dX3_obey_85 : decode cX3_obey 85 = .ok (.aload_n 0, 1) := by decide +kernel
theorem dX3_obey_86 : decode cX3_obey 86 = .ok (.getfield 12, 3) := by decide +kernel
theorem dX3_obey_89 : decode cX3_obey 89 = .ok (.aload_n 2, 1) := by decide +kernel
theorem dX3_obey_90 : decode cX3_obey 90 = .ok (.iconst 0, 1) := by decide +kernel
theorem dX3_obey_91 : decode cX3_obey 91 = .ok (.iaload, 1) := by decide +kernel
theorem dX3_obey_92 : decode cX3_obey 92 = .ok (.aload_n 2, 1) := by decide +kernel
theorem dX3_obey_93 : decode cX3_obey 93 = .ok (.iconst 1, 1) := by decide +kernel
theorem dX3_obey_94 : decode cX3_obey 94 = .ok (.iaload, 1) := by decide +kernel
theorem dX3_obey_95 : decode cX3_obey 95 = .ok (.aload_n 2, 1) := by decide +kernel
theorem dX3_obey_96 : decode cX3_obey 96 = .ok (.iconst 2, 1) := by decide +kernel
theorem dX3_obey_97 : decode cX3_obey 97 = .ok (.iaload, 1) := by decide +kernel
theorem dX3_obey_98 : decode cX3_obey 98 = .ok (.aload_n 0, 1) := by decide +kernel
theorem dX3_obey_99 : decode cX3_obey 99 = .ok (.getfield 18, 3) := by decide +kernel
theorem dX3_obey_102 : decode cX3_obey 102 = .ok (.invokevirtual 70, 3) := by decide +kernel
theorem dX3_obey_105 : decode cX3_obey 105 = .ok (.ireturn, 1) := by decide +kernel
theorem dX3_obey_106 : decode cX3_obey 106 = .ok (.aload_n 0, 1) := by decide +kernel
theorem dX3_obey_107 : decode cX3_obey 107 = .ok (.getfield 12, 3) := by decide +kernel
theorem dX3_obey_110 : decode cX3_obey 110 = .ok (.aload_n 2, 1) := by decide +kernel
theorem dX3_obey_111 : decode cX3_obey 111 = .ok (.iconst 0, 1) := by decide +kernel
theorem dX3_obey_112 : decode cX3_obey 112 = .ok (.iaload, 1) := by decide +kernel
theorem dX3_obey_113 : decode cX3_obey 113 = .ok (.invokevirtual 74, 3) := by decide +kernel
theorem dX3_obey_116 : decode cX3_obey 116 = .ok (.ireturn, 1) := by decide +kernel
theorem dX3_obey_117 : decode cX3_obey 117 = .ok (.aload_n 0, 1) := by decide +kernel
theorem dX3_obey_118 : decode cX3_obey 118 = .ok (.getfield 12, 3) := by decide +kernel
theorem dX3_obey_121 : decode cX3_obey 121 = .ok (.aload_n 2, 1) := by decide +kernel
theorem dX3_obey_122 : decode cX3_obey 122 = .ok (.iconst 0, 1) := by decide +kernel
theorem dX3_obey_123 : decode cX3_obey 123 = .ok (.iaload, 1) := by decide +kernel
theorem dX3_obey_124 : decode cX3_obey 124 = .ok (.aload_n 2, 1) := by decide +kernel
theorem dX3_obey_125 : decode cX3_obey 125 = .ok (.iconst 1, 1) := by decide +kernel
theorem dX3_obey_126 : decode cX3_obey 126 = .ok (.iaload, 1) := by decide +kernel
theorem dX3_obey_127 : decode cX3_obey 127 = .ok (.invokevirtual 78, 3) := by decide +kernel
theorem dX3_obey_130 : decode cX3_obey 130 = .ok (.ireturn, 1) := by decide +kernel
theorem dX3_obey_131 : decode cX3_obey 131 = .ok (.aload_n 0, 1) := by decide +kernel
theorem dX3_obey_132 : decode cX3_obey 132 = .ok (.getfield 12, 3) := by decide +kernel
theorem dX3_obey_135 : decode cX3_obey 135 = .ok (.aload_n 2, 1) := by decide +kernel
theorem dX3_obey_136 : decode cX3_obey 136 = .ok (.iconst 0, 1) := by decide +kernel
theorem dX3_obey_137 : decode cX3_obey 137 = .ok (.iaload, 1) := by decide +kernel
theorem dX3_obey_138 : decode cX3_obey 138 = .ok (.invokevirtual 82, 3) := by decide +kernel
theorem dX3_obey_141 : decode cX3_obey 141 = .ok (.ireturn, 1) := by decide +kernel
theorem dX3_obey_142 : decode cX3_obey 142 = .ok (.iconst (-1), 1) := by decide +kernel
theorem dX3_obey_143 : decode cX3_obey 143 = .ok (.ireturn, 1) := by decide +kernel
theorem dX4_init_0 : decode cX4_init 0 = .ok (.aload_n 0, 1) := by decide +kernel
theorem dX4_init_1 : decode cX4_init 1 = .ok (.invokespecial 1, 3) := by decide +kernel
theorem dX4_init_4 : decode cX4_init 4 = .ok (.aload_n 0, 1) := by decide +kernel
theorem dX4_init_5 : decode cX4_init 5 = .ok (.bipush 20, 2) := by decide +kernel
theorem dX4_init_7 : decode cX4_init 7 = .ok (.newarray .int, 2) := by decide +kernel
theorem dX4_init_9 : decode cX4_init 9 = .ok (.putfield 9, 3) := by decide +kernel
theorem dX4_init_12 : decode cX4_init 12 = .ok (.aload_n 0, 1) := by decide +kernel
theorem dX4_init_13 : decode cX4_init 13 = .ok (.bipush 20, 2) := by decide +kernel
theorem dX4_init_15 : decode cX4_init 15 = .ok (.newarray .int, 2) := by decide +kernel
theorem dX4_init_17 : decode cX4_init 17 = .ok (.putfield 13, 3) := by decide +kernel
theorem dX4_init_20 : decode cX4_init 20 = .ok (.aload_n 0, 1) := by decide +kernel
theorem dX4_init_21 : decode cX4_init 21 = .ok (.bipush 20, 2) := by decide +kernel
theorem dX4_init_23 : decode cX4_init 23 = .ok (.newarray .int, 2) := by decide +kernel
theorem dX4_init_25 : decode cX4_init 25 = .ok (.putfield 16, 3) := by decide +kernel
theorem dX4_init_28 : decode cX4_init 28 = .ok (.aload_n 0, 1) := by decide +kernel
theorem dX4_init_29 : decode cX4_init 29 = .ok (.bipush 6, 2) := by decide +kernel
theorem dX4_init_31 : decode cX4_init 31 = .ok (.newarray .int, 2) := by decide +kernel
theorem dX4_init_33 : decode cX4_init 33 = .ok (.putfield 19, 3) := by decide +kernel
theorem dX4_init_36 : decode cX4_init 36 = .ok (.aload_n 0, 1) := by decide +kernel
theorem dX4_init_37 : decode cX4_init 37 = .ok (.bipush 6, 2) := by decide +kernel
theorem dX4_init_39 : decode cX4_init 39 = .ok (.newarray .int, 2) := by decide +kernel
theorem dX4_init_41 : decode cX4_init 41 = .ok (.putfield 22, 3) := by decide +kernel
theorem dX4_init_44 : decode cX4_init 44 = .ok (.aload_n 0, 1) := by decide +kernel
theorem dX4_init_45 : decode cX4_init 45 = .ok (.bipush 6, 2) := by decide +kernel
theorem dX4_init_47 : decode cX4_init 47 = .ok (.newarray .int, 2) := by decide +kernel
theorem dX4_init_49 : decode cX4_init 49 = .ok (.putfield 25, 3) := by decide +kernel
theorem dX4_init_52 : decode cX4_init 52 = .ok (.aload_n 0, 1) := by decide +kernel
theorem dX4_init_53 : decode cX4_init 53 = .ok (.iconst 3, 1) := by decide +kernel
theorem dX4_init_54 : decode cX4_init 54 = .ok (.newarray .int, 2) := by decide +kernel
theorem dX4_init_56 : decode cX4_init 56 = .ok (.putfield 28, 3) := by decide +kernel
theorem dX4_init_59 : decode cX4_init 59 = .ok (.aload_n 0, 1) := by decide +kernel
theorem dX4_init_60 : decode cX4_init 60 = .ok (.iconst 3, 1) := by decide +kernel
theorem dX4_init_61 : decode cX4_init 61 = .ok (.newarray .int, 2) := by decide +kernel
theorem dX4_init_63 : decode cX4_init 63 = .ok (.putfield 31, 3) := by decide +kernel
theorem dX4_init_66 : decode cX4_init 66 = .ok (.aload_n 0, 1) := by decide +kernel
theorem dX4_init_67 : decode cX4_init 67 = .ok (.iconst 3, 1) := by decide +kernel
theorem dX4_init_68 : decode cX4_init 68 = .ok (.newarray .int, 2) := by decide +kernel
theorem dX4_init_70 : decode cX4_init 70 = .ok (.putfield 34, 3) := by decide +kernel
theorem dX4_init_73 : decode cX4_init 73 = .ok (.return_, 1) := by decide +kernel
theorem dX4_isKind_0 : decode cX4_isKind 0 = .ok (.iload_n 0, 1) := by decide +kernel
theorem dX4_isKind_1 : decode cX4_isKind 1 = .ok (.ifCond .lt 12, 3) := by decide +kernel
theorem dX4_isKind_4 : decode cX4_isKind 4 = .ok (.iload_n 0, 1) := by decide +kernel
theorem dX4_isKind_5 : decode cX4_isKind 5 = .ok (.iconst 3, 1) := by decide +kernel
theorem dX4_isKind_6 : decode cX4_isKind 6 = .ok (.if_icmp .ge 7, 3) := by decide +kernel
theorem dX4_isKind_9 : decode cX4_isKind 9 = .ok (.iconst 1, 1) := by decide +kernel
theorem dX4_isKind_10 : decode cX4_isKind 10 = .ok (.goto 4, 3) := by decide +kernel
theorem dX4_isKind_13 : decode cX4_isKind 13 = .ok (.iconst 0, 1) := by decide +kernel
theorem dX4_isKind_14 : decode cX4_isKind 14 = .ok (.ireturn, 1) := by decide +kernel
theorem dX4_copyFrom_0 : decode cX4_copyFrom 0 = .ok (.aload_n 1, 1) := by decide +kernel
theorem dX4_copyFrom_1 : decode cX4_copyFrom 1 = .ok (.getfield 9, 3) := by decide +kernel
theorem dX4_copyFrom_4 : decode cX4_copyFrom 4 = .ok (.iconst 0, 1) := by decide +kernel
theorem dX4_copyFrom_5 : decode cX4_copyFrom 5 = .ok (.aload_n 0, 1) := by decide +kernel
theorem dX4_copyFrom_6 : decode cX4_copyFrom 6 = .ok (.getfield 9, 3) := by decide +kernel
theorem dX4_copyFrom_9 : decode cX4_copyFrom 9 = .ok (.iconst 0, 1) := by decide +kernel
theorem dX4_copyFrom_10 : decode cX4_copyFrom 10 = .ok (.bipush 20, 2) := by decide +kernel
theorem dX4_copyFrom_12 : decode cX4_copyFrom 12 = .ok (.invokestatic 37, 3) := by decide +kernel
theorem dX4_copyFrom_15 : decode cX4_copyFrom 15 = .ok (.aload_n 1, 1) := by decide +kernel
theorem dX4_copyFrom_16 : decode cX4_copyFrom 16 = .ok (.getfield 13, 3) := by decide +kernel
theorem dX4_copyFrom_19 : decode cX4_copyFrom 19 = .ok (.iconst 0, 1) := by decide +kernel
theorem dX4_copyFrom_20 : decode cX4_copyFrom 20 = .ok (.aload_n 0, 1) := by decide +kernel
theorem dX4_copyFrom_21 : decode cX4_copyFrom 21 = .ok (.getfield 13, 3) := by decide +kernel
theorem dX4_copyFrom_24 : decode cX4_copyFrom 24 = .ok (.iconst 0, 1) := by decide +kernel
theorem dX4_copyFrom_25 : decode cX4_copyFrom 25 = .ok (.bipush 20, 2) := by decide +kernel
theorem dX4_copyFrom_27 : decode cX4_copyFrom 27 = .ok (.invokestatic 37, 3) := by decide +kernel
theorem dX4_copyFrom_30 : decode cX4_copyFrom 30 = .ok (.aload_n 1, 1) := by decide +kernel
theorem dX4_copyFrom_31 : decode cX4_copyFrom 31 = .ok (.getfield 16, 3) := by decide +kernel
theorem dX4_copyFrom_34 : decode cX4_copyFrom 34 = .ok (.iconst 0, 1) := by decide +kernel
theorem dX4_copyFrom_35 : decode cX4_copyFrom 35 = .ok (.aload_n 0, 1) := by decide +kernel
theorem dX4_copyFrom_36 : decode cX4_copyFrom 36 = .ok (.getfield 16, 3) := by decide +kernel
theorem dX4_copyFrom_39 : decode cX4_copyFrom 39 = .ok (.iconst 0, 1) := by decide +kernel
theorem dX4_copyFrom_40 : decode cX4_copyFrom 40 = .ok (.bipush 20, 2) := by decide +kernel
theorem dX4_copyFrom_42 : decode cX4_copyFrom 42 = .ok (.invokestatic 37, 3) := by decide +kernel
theorem dX4_copyFrom_45 : decode cX4_copyFrom 45 = .ok (.aload_n 1, 1) := by decide +kernel
theorem dX4_copyFrom_46 : decode cX4_copyFrom 46 = .ok (.getfield 19, 3) := by decide +kernel
theorem dX4_copyFrom_49 : decode cX4_copyFrom 49 = .ok (.iconst 0, 1) := by decide +kernel
theorem dX4_copyFrom_50 : decode cX4_copyFrom 50 = .ok (.aload_n 0, 1) := by decide +kernel
theorem dX4_copyFrom_51 : decode cX4_copyFrom 51 = .ok (.getfield 19, 3) := by decide +kernel
theorem dX4_copyFrom_54 : decode cX4_copyFrom 54 = .ok (.iconst 0, 1) := by decide +kernel
theorem dX4_copyFrom_55 : decode cX4_copyFrom 55 = .ok (.bipush 6, 2) := by decide +kernel
theorem dX4_copyFrom_57 : decode cX4_copyFrom 57 = .ok (.invokestatic 37, 3) := by decide +kernel
theorem dX4_copyFrom_60 : decode cX4_copyFrom 60 = .ok (.aload_n 1, 1) := by decide +kernel
theorem dX4_copyFrom_61 : decode cX4_copyFrom 61 = .ok (.getfield 22, 3) := by decide +kernel
theorem dX4_copyFrom_64 : decode cX4_copyFrom 64 = .ok (.iconst 0, 1) := by decide +kernel
theorem dX4_copyFrom_65 : decode cX4_copyFrom 65 = .ok (.aload_n 0, 1) := by decide +kernel
theorem dX4_copyFrom_66 : decode cX4_copyFrom 66 = .ok (.getfield 22, 3) := by decide +kernel
theorem dX4_copyFrom_69 : decode cX4_copyFrom 69 = .ok (.iconst 0, 1) := by decide +kernel
theorem dX4_copyFrom_70 : decode cX4_copyFrom 70 = .ok (.bipush 6, 2) := by decide +kernel
theorem dX4_copyFrom_72 : decode cX4_copyFrom 72 = .ok (.invokestatic 37, 3) := by decide +kernel
theorem dX4_copyFrom_75 : decode cX4_copyFrom 75 = .ok (.aload_n 1, 1) := by decide +kernel
theorem dX4_copyFrom_76 : decode cX4_copyFrom 76 = .ok (.getfield 25, 3) := by decide +kernel
theorem dX4_copyFrom_79 : decode cX4_copyFrom 79 = .ok (.iconst 0, 1) := by decide +kernel
theorem dX4_copyFrom_80 : decode cX4_copyFrom 80 = .ok (.aload_n 0, 1) := by decide +kernel
theorem dX4_copyFrom_81 : decode cX4_copyFrom 81 = .ok (.getfield 25, 3) := by decide +kernel
theorem dX4_copyFrom_84 : decode cX4_copyFrom 84 = .ok (.iconst 0, 1) := by decide +kernel
theorem dX4_copyFrom_85 : decode cX4_copyFrom 85 = .ok (.bipush 6, 2) := by decide +kernel
theorem dX4_copyFrom_87 : decode cX4_copyFrom 87 = .ok (.invokestatic 37, 3) := by decide +kernel
theorem dX4_copyFrom_90 : decode cX4_copyFrom 90 = .ok (.aload_n 1, 1) := by decide +kernel
theorem dX4_copyFrom_91 : decode cX4_copyFrom 91 = .ok (.getfield 28, 3) := by decide +kernel
theorem dX4_copyFrom_94 : decode cX4_copyFrom 94 = .ok (.iconst 0, 1) := by decide +kernel
theorem dX4_copyFrom_95 : decode cX4_copyFrom 95 = .ok (.aload_n 0, 1) := by decide +kernel
theorem dX4_copyFrom_96 : decode cX4_copyFrom 96 = .ok (.getfield 28, 3) := by decide +kernel
theorem dX4_copyFrom_99 : decode cX4_copyFrom 99 = .ok (.iconst 0, 1) := by decide +kernel
theorem dX4_copyFrom_100 : decode cX4_copyFrom 100 = .ok (.iconst 3, 1) := by decide +kernel
theorem dX4_copyFrom_101 : decode cX4_copyFrom 101 = .ok (.invokestatic 37, 3) := by decide +kernel
theorem dX4_copyFrom_104 : decode cX4_copyFrom 104 = .ok (.aload_n 1, 1) := by decide +kernel
theorem dX4_copyFrom_105 : decode cX4_copyFrom 105 = .ok (.getfield 31, 3) := by decide +kernel
theorem dX4_copyFrom_108 : decode cX4_copyFrom 108 = .ok (.iconst 0, 1) := by decide +kernel
theorem dX4_copyFrom_109 : decode cX4_copyFrom 109 = .ok (.aload_n 0, 1) := by decide +kernel
theorem dX4_copyFrom_110 : decode cX4_copyFrom 110 = .ok (.getfield 31, 3) := by decide +kernel
theorem dX4_copyFrom_113 : decode cX4_copyFrom 113 = .ok (.iconst 0, 1) := by decide +kernel
theorem dX4_copyFrom_114 : decode cX4_copyFrom 114 = .ok (.iconst 3, 1) := by decide +kernel
theorem dX4_copyFrom_115 : decode cX4_copyFrom 115 = .ok (.invokestatic 37, 3) := by decide +kernel
theorem dX4_copyFrom_118 : decode cX4_copyFrom 118 = .ok (.aload_n 1, 1) := by decide +kernel
theorem dX4_copyFrom_119 : decode cX4_copyFrom 119 = .ok (.getfield 34, 3) := by decide +kernel
theorem dX4_copyFrom_122 : decode cX4_copyFrom 122 = .ok (.iconst 0, 1) := by decide +kernel
theorem dX4_copyFrom_123 : decode cX4_copyFrom 123 = .ok (.aload_n 0, 1) := by decide +kernel
theorem dX4_copyFrom_124 : decode cX4_copyFrom 124 = .ok (.getfield 34, 3) := by decide +kernel
theorem dX4_copyFrom_127 : decode cX4_copyFrom 127 = .ok (.iconst 0, 1) := by decide +kernel
theorem dX4_copyFrom_128 : decode cX4_copyFrom 128 = .ok (.iconst 3, 1) := by decide +kernel
theorem dX4_copyFrom_129 : decode cX4_copyFrom 129 = .ok (.invokestatic 37, 3) := by decide +kernel
theorem dX4_copyFrom_132 : decode cX4_copyFrom 132 = .ok (.aload_n 0, 1) := by decide +kernel
theorem dX4_copyFrom_133 : decode cX4_copyFrom 133 = .ok (.aload_n 1, 1) := by decide +kernel
theorem dX4_copyFrom_134 : decode cX4_copyFrom 134 = .ok (.getfield 43, 3) := by decide +kernel
theorem dX4_copyFrom_137 : decode cX4_copyFrom 137 = .ok (.putfield 43, 3) := by decide +kernel
theorem dX4_copyFrom_140 : decode cX4_copyFrom 140 = .ok (.aload_n 0, 1) := by decide +kernel
theorem dX4_copyFrom_141 : decode cX4_copyFrom 141 = .ok (.aload_n 1, 1) := by decide +kernel
theorem dX4_copyFrom_142 : decode cX4_copyFrom 142 = .ok (.getfield 47, 3) := by decide +kernel
theorem dX4_copyFrom_145 : decode cX4_copyFrom 145 = .ok (.putfield 47, 3) := by decide +kernel
theorem dX4_copyFrom_148 : decode cX4_copyFrom 148 = .ok (.return_, 1) := by decide +kernel
theorem dX4_addToPallet_0 : decode cX4_addToPallet 0 = .ok (.aload_n 0, 1) := by decide +kernel
theorem dX4_addToPallet_1 : decode cX4_addToPallet 1 = .ok (.getfield 47, 3) := by decide +kernel
theorem dX4_addToPallet_4 : decode cX4_addToPallet 4 = .ok (.bipush 6, 2) := by decide +kernel
theorem dX4_addToPallet_6 : decode cX4_addToPallet 6 = .ok (.if_icmp .lt 4, 3) := by decide +kernel
theorem dX4_addToPallet_9 : decode cX4_addToPallet 9 = .ok (.return_, 1) := by decide +kernel
theorem dX4_addToPallet_10 : decode cX4_addToPallet 10 = .ok (.aload_n 0, 1) := by decide +kernel
theorem dX4_addToPallet_11 : decode cX4_addToPallet 11 = .ok (.getfield 19, 3) := by decide +kernel
theorem dX4_addToPallet_14 : decode cX4_addToPallet 14 = .ok (.aload_n 0, 1) := by decide +kernel
theorem dX4_addToPallet_15 : decode cX4_addToPallet 15 = .ok (.getfield 47, 3) := by decide +kernel
theorem dX4_addToPallet_18 : decode cX4_addToPallet 18 = .ok (.iload_n 1, 1) := by decide +kernel
theorem dX4_addToPallet_19 : decode cX4_addToPallet 19 = .ok (.iastore, 1) := by decide +kernel
theorem dX4_addToPallet_20 : decode cX4_addToPallet 20 = .ok (.aload_n 0, 1) := by decide +kernel
theorem dX4_addToPallet_21 : decode cX4_addToPallet 21 = .ok (.getfield 22, 3) := by decide +kernel
theorem dX4_addToPallet_24 : decode cX4_addToPallet 24 = .ok (.aload_n 0, 1) := by decide +kernel
theorem dX4_addToPallet_25 : decode cX4_addToPallet 25 = .ok (.getfield 47, 3) := by decide +kernel
theorem dX4_addToPallet_28 : decode cX4_addToPallet 28 = .ok (.iload_n 2, 1) := by decide +kernel
theorem dX4_addToPallet_29 : decode cX4_addToPallet 29 = .ok (.iastore, 1) := by decide +kernel
theorem dX4_addToPallet_30 : decode cX4_addToPallet 30 = .ok (.aload_n 0, 1) := by decide +kernel
theorem dX4_addToPallet_31 : decode cX4_addToPallet 31 = .ok (.getfield 25, 3) := by decide +kernel
theorem dX4_addToPallet_34 : decode cX4_addToPallet 34 = .ok (.aload_n 0, 1) := by decide +kernel
theorem dX4_addToPallet_35 : decode cX4_addToPallet 35 = .ok (.getfield 47, 3) := by decide +kernel
theorem dX4_addToPallet_38 : decode cX4_addToPallet 38 = .ok (.iload_n 3, 1) := by decide +kernel
theorem dX4_addToPallet_39 : decode cX4_addToPallet 39 = .ok (.iastore, 1) := by decide +kernel
theorem dX4_addToPallet_40 : decode cX4_addToPallet 40 = .ok (.aload_n 0, 1) := by decide +kernel
theorem dX4_addToPallet_41 : decode cX4_addToPallet 41 = .ok (.dup, 1) := by decide +kernel
theorem dX4_addToPallet_42 : decode cX4_addToPallet 42 = .ok (.getfield 47, 3) := by decide +kernel
theorem dX4_addToPallet_45 : decode cX4_addToPallet 45 = .ok (.iconst 1, 1) := by decide +kernel
theorem dX4_addToPallet_46 : decode cX4_addToPallet 46 = .ok (.iadd, 1) := by decide +kernel
theorem dX4_addToPallet_47 : decode cX4_addToPallet 47 = .ok (.putfield 47, 3) := by decide +kernel
theorem dX4_addToPallet_50 : decode cX4_addToPallet 50 = .ok (.return_, 1) := by decide +kernel
set_option maxRecDepth 20000 in
theorem ggX4_unloadPallet_X4_addLot : GoodIn wsX4_unloadPallet wsX4_addLot := goodIn_r _ [9, 10, 11, 12, 13, 14, 15, 16, 8, 17, 18, 19, 20, 21, 22, 23, 24, 25, 26, 27, 28] (by decide +kernel) (by decide +kernel)
set_option maxRecDepth 20000 in
theorem gX4_unloadPallet_X4_addLot : GoodIn wsX4_unloadPallet (wsV RX4 50 RX4 yX4_addLot wsX4_addLot) := goodIn_app (goodIn_of _ (by decide +kernel)) ggX4_unloadPallet_X4_addLot
theorem dX4_unloadPallet_0 : decode cX4_unloadPallet 0 = .ok (.iconst 0, 1) := by decide +kernel
theorem dX4_unloadPallet_1 : decode cX4_unloadPallet 1 = .ok (.istore_n 2, 1) := by decide +kernel
theorem dX4_unloadPallet_2 : decode cX4_unloadPallet 2 = .ok (.iload_n 2, 1) := by decide +kernel
theorem dX4_unloadPallet_3 : decode cX4_unloadPallet 3 = .ok (.aload_n 0, 1) := by decide +kernel
theorem dX4_unloadPallet_4 : decode cX4_unloadPallet 4 = .ok (.getfield 47, 3) := by decide +kernel
theorem dX4_unloadPallet_7 : decode cX4_unloadPallet 7 = .ok (.if_icmp .ge 33, 3) := by decide +kernel
theorem dX4_unloadPallet_10 : decode cX4_unloadPallet 10 = .ok (.aload_n 0, 1) := by decide +kernel
theorem dX4_unloadPallet_11 : decode cX4_unloadPallet 11 = .ok (.aload_n 0, 1) := by decide +kernel
theorem dX4_unloadPallet_12 : decode cX4_unloadPallet 12 = .ok (.getfield 19, 3) := by decide +kernel
theorem dX4_unloadPallet_15 : decode cX4_unloadPallet 15 = .ok (.iload_n 2, 1) := by decide +kernel
theorem dX4_unloadPallet_16 : decode cX4_unloadPallet 16 = .ok (.iaload, 1) := by decide +kernel
theorem dX4_unloadPallet_17 : decode cX4_unloadPallet 17 = .ok (.aload_n 0, 1) := by decide +kernel
theorem dX4_unloadPallet_18 : decode cX4_unloadPallet 18 = .ok (.getfield 22, 3) := by decide +kernel
theorem dX4_unloadPallet_21 : decode cX4_unloadPallet 21 = .ok (.iload_n 2, 1) := by decide +kernel
theorem dX4_unloadPallet_22 : decode cX4_unloadPallet 22 = .ok (.iaload, 1) := by decide +kernel
theorem dX4_unloadPallet_23 : decode cX4_unloadPallet 23 = .ok (.iload_n 1, 1) := by decide +kernel
theorem dX4_unloadPallet_24 : decode cX4_unloadPallet 24 = .ok (.aload_n 0, 1) := by decide +kernel
theorem dX4_unloadPallet_25 : decode cX4_unloadPallet 25 = .ok (.getfield 25, 3) := by decide +kernel
theorem dX4_unloadPallet_28 : decode cX4_unloadPallet 28 = .ok (.iload_n 2, 1) := by decide +kernel
theorem dX4_unloadPallet_29 : decode cX4_unloadPallet 29 = .ok (.iaload, 1) := by decide +kernel
theorem dX4_unloadPallet_30 : decode cX4_unloadPallet 30 = .ok (.iadd, 1) := by decide +kernel
theorem dX4_unloadPallet_31 : decode cX4_unloadPallet 31 = .ok (.invokevirtual 50, 3) := by decide +kernel
theorem dX4_unloadPallet_34 : decode cX4_unloadPallet 34 = .ok (.iinc 2 1, 3) := by decide +kernel
theorem dX4_unloadPallet_37 : decode cX4_unloadPallet 37 = .ok (.goto (-35), 3) := by decide +kernel
theorem dX4_unloadPallet_40 : decode cX4_unloadPallet 40 = .ok (.aload_n 0, 1) := by decide +kernel
theorem dX4_unloadPallet_41 : decode cX4_unloadPallet 41 = .ok (.iconst 0, 1) := by decide +kernel
theorem dX4_unloadPallet_42 : decode cX4_unloadPallet 42 = .ok (.putfield 47, 3) := by decide +kernel
theorem dX4_unloadPallet_45 : decode cX4_unloadPallet 45 = .ok (.return_, 1) := by decide +kernel
set_option maxRecDepth 20000 in
theorem ggX4_addLot_X4_isKind : GoodIn wsX4_addLot wsX4_isKind := goodIn_r _ [9] (by decide +kernel) (by decide +kernel)
set_option maxRecDepth 20000 in
theorem gX4_addLot_X4_isKind : GoodIn wsX4_addLot (va_wsS RX4 54 yX4_isKind wsX4_isKind) := goodIn_app (goodIn_of _ (by decide +kernel)) ggX4_addLot_X4_isKind
theorem dX4_addLot_0 : decode cX4_addLot 0 = .ok (.aload_n 0, 1) := by decide +kernel
theorem dX4_addLot_1 : decode cX4_addLot 1 = .ok (.getfield 43, 3) := by decide +kernel
theorem dX4_addLot_4 : decode cX4_addLot 4 = .ok (.bipush 20, 2) := by decide +kernel
theorem dX4_addLot_6 : decode cX4_addLot 6 = .ok (.if_icmp .ge 10, 3) := by decide +kernel
theorem dX4_addLot_9 : decode cX4_addLot 9 = .ok (.iload_n 1, 1) := by decide +kernel
theorem dX4_addLot_10 : decode cX4_addLot 10 = .ok (.invokestatic 54, 3) := by decide +kernel
theorem dX4_addLot_13 : decode cX4_addLot 13 = .ok (.ifCond .ne 4, 3) := by decide +kernel
theorem dX4_addLot_16 : decode cX4_addLot 16 = .ok (.return_, 1) := by decide +kernel
theorem dX4_addLot_17 : decode cX4_addLot 17 = .ok (.aload_n 0, 1) := by decide +kernel
theorem dX4_addLot_18 : decode cX4_addLot 18 = .ok (.getfield 43, 3) := by decide +kernel
theorem dX4_addLot_21 : decode cX4_addLot 21 = .ok (.istore 4, 2) := by decide +kernel
theorem dX4_addLot_23 : decode cX4_addLot 23 = .ok (.iload 4, 2) := by decide +kernel
theorem dX4_addLot_25 : decode cX4_addLot 25 = .ok (.ifCond .le 70, 3) := by decide +kernel
theorem dX4_addLot_28 : decode cX4_addLot 28 = .ok (.aload_n 0, 1) := by decide +kernel
theorem dX4_addLot_29 : decode cX4_addLot 29 = .ok (.getfield 16, 3) := by decide +kernel
theorem dX4_addLot_32 : decode cX4_addLot 32 = .ok (.iload 4, 2) := by decide +kernel
theorem dX4_addLot_34 : decode cX4_addLot 34 = .ok (.iconst 1, 1) := by decide +kernel
theorem dX4_addLot_35 : decode cX4_addLot 35 = .ok (.isub, 1) := by decide +kernel
theorem dX4_addLot_36 : decode cX4_addLot 36 = .ok (.iaload, 1) := by decide +kernel
theorem dX4_addLot_37 : decode cX4_addLot 37 = .ok (.iload_n 3, 1) := by decide +kernel
theorem dX4_addLot_38 : decode cX4_addLot 38 = .ok (.if_icmp .le 57, 3) := by decide +kernel
theorem dX4_addLot_41 : decode cX4_addLot 41 = .ok (.aload_n 0, 1) := by decide +kernel
theorem dX4_addLot_42 : decode cX4_addLot 42 = .ok (.getfield 9, 3) := by decide +kernel
theorem dX4_addLot_45 : decode cX4_addLot 45 = .ok (.iload 4, 2) := by decide +kernel
theorem dX4_addLot_47 : decode cX4_addLot 47 = .ok (.aload_n 0, 1) := by decide +kernel
theorem dX4_addLot_48 : decode cX4_addLot 48 = .ok (.getfield 9, 3) := by decide +kernel
theorem dX4_addLot_51 : decode cX4_addLot 51 = .ok (.iload 4, 2) := by decide +kernel
theorem dX4_addLot_53 : decode cX4_addLot 53 = .ok (.iconst 1, 1) := by decide +kernel
theorem dX4_addLot_54 : decode cX4_addLot 54 = .ok (.isub, 1) := by decide +kernel
theorem dX4_addLot_55 : decode cX4_addLot 55 = .ok (.iaload, 1) := by decide +kernel
theorem dX4_addLot_56 : decode cX4_addLot 56 = .ok (.iastore, 1) := by decide +kernel
theorem dX4_addLot_57 : decode cX4_addLot 57 = .ok (.aload_n 0, 1) := by decide +kernel
theorem dX4_addLot_58 : decode cX4_addLot 58 = .ok (.getfield 13, 3) := by decide +kernel
theorem dX4_addLot_61 : decode cX4_addLot 61 = .ok (.iload 4, 2) := by decide +kernel
theorem dX4_addLot_63 : decode cX4_addLot 63 = .ok (.aload_n 0, 1) := by decide +kernel
theorem dX4_addLot_64 : decode cX4_addLot 64 = .ok (.getfield 13, 3) := by decide +kernel
theorem dX4_addLot_67 : decode cX4_addLot 67 = .ok (.iload 4, 2) := by decide +kernel
theorem dX4_addLot_69 : decode cX4_addLot 69 = .ok (.iconst 1, 1) := by decide +kernel
theorem dX4_addLot_70 : decode cX4_addLot 70 = .ok (.isub, 1) := by decide +kernel
theorem dX4_addLot_71 : decode cX4_addLot 71 = .ok (.iaload, 1) := by decide +kernel
theorem dX4_addLot_72 : decode cX4_addLot 72 = .ok (.iastore, 1) := by decide +kernel
theorem dX4_addLot_73 : decode cX4_addLot 73 = .ok (.aload_n 0, 1) := by decide +kernel
theorem dX4_addLot_74 : decode cX4_addLot 74 = .ok (.getfield 16, 3) := by decide +kernel
theorem dX4_addLot_77 : decode cX4_addLot 77 = .ok (.iload 4, 2) := by decide +kernel
theorem dX4_addLot_79 : decode cX4_addLot 79 = .ok (.aload_n 0, 1) := by decide +kernel
theorem dX4_addLot_80 : decode cX4_addLot 80 = .ok (.getfield 16, 3) := by decide +kernel
theorem dX4_addLot_83 : decode cX4_addLot 83 = .ok (.iload 4, 2) := by decide +kernel
theorem dX4_addLot_85 : decode cX4_addLot 85 = .ok (.iconst 1, 1) := by decide +kernel
theorem dX4_addLot_86 : decode cX4_addLot 86 = .ok (.isub, 1) := by decide +kernel
theorem dX4_addLot_87 : decode cX4_addLot 87 = .ok (.iaload, 1) := by decide +kernel
theorem dX4_addLot_88 : decode cX4_addLot 88 = .ok (.iastore, 1) := by decide +kernel
theorem dX4_addLot_89 : decode cX4_addLot 89 = .ok (.iinc 4 (-1), 3) := by decide +kernel
theorem dX4_addLot_92 : decode cX4_addLot 92 = .ok (.goto (-69), 3) := by decide +kernel
theorem dX4_addLot_95 : decode cX4_addLot 95 = .ok (.aload_n 0, 1) := by decide +kernel
theorem dX4_addLot_96 : decode cX4_addLot 96 = .ok (.getfield 9, 3) := by decide +kernel
theorem dX4_addLot_99 : decode cX4_addLot 99 = .ok (.iload 4, 2) := by decide +kernel
theorem dX4_addLot_101 : decode cX4_addLot 101 = .ok (.iload_n 1, 1) := by decide +kernel
theorem dX4_addLot_102 : decode cX4_addLot 102 = .ok (.iastore, 1) := by decide +kernel
theorem dX4_addLot_103 : decode cX4_addLot 103 = .ok (.aload_n 0, 1) := by decide +kernel
theorem dX4_addLot_104 : decode cX4_addLot 104 = .ok (.getfield 13, 3) := by decide +kernel
theorem dX4_addLot_107 : decode cX4_addLot 107 = .ok (.iload 4, 2) := by decide +kernel
theorem dX4_addLot_109 : decode cX4_addLot 109 = .ok (.iload_n 2, 1) := by decide +kernel
theorem dX4_addLot_110 : decode cX4_addLot 110 = .ok (.iastore, 1) := by decide +kernel
theorem dX4_addLot_111 : decode cX4_addLot 111 = .ok (.aload_n 0, 1) := by decide +kernel
theorem dX4_addLot_112 : decode cX4_addLot 112 = .ok (.getfield 16, 3) := by decide +kernel
theorem dX4_addLot_115 : decode cX4_addLot 115 = .ok (.iload 4, 2) := by decide +kernel
theorem dX4_addLot_117 : decode cX4_addLot 117 = .ok (.iload_n 3, 1) := by decide +kernel
theorem dX4_addLot_118 : decode cX4_addLot 118 = .ok (.iastore, 1) := by decide +kernel
theorem dX4_addLot_119 : decode cX4_addLot 119 = .ok (.aload_n 0, 1) := by decide +kernel
theorem dX4_addLot_120 : decode cX4_addLot 120 = .ok (.dup, 1) := by decide +kernel
theorem dX4_addLot_121 : decode cX4_addLot 121 = .ok (.getfield 43, 3) := by decide +kernel
theorem dX4_addLot_124 : decode cX4_addLot 124 = .ok (.iconst 1, 1) := by decide +kernel
theorem dX4_addLot_125 : decode cX4_addLot 125 = .ok (.iadd, 1) := by decide +kernel
theorem dX4_addLot_126 : decode cX4_addLot 126 = .ok (.putfield 43, 3) := by decide +kernel
theorem dX4_addLot_129 : decode cX4_addLot 129 = .ok (.aload_n 0, 1) := by decide +kernel
theorem dX4_addLot_130 : decode cX4_addLot 130 = .ok (.getfield 28, 3) := by decide +kernel
theorem dX4_addLot_133 : decode cX4_addLot 133 = .ok (.iload_n 1, 1) := by decide +kernel
theorem dX4_addLot_134 : decode cX4_addLot 134 = .ok (.dup2, 1) := by decide +kernel
theorem dX4_addLot_135 : decode cX4_addLot 135 = .ok (.iaload, 1) := by decide +kernel
theorem dX4_addLot_136 : decode cX4_addLot 136 = .ok (.iload_n 2, 1) := by decide +kernel
theorem dX4_addLot_137 : decode cX4_addLot 137 = .ok (.iadd, 1) := by decide +kernel
theorem dX4_addLot_138 : decode cX4_addLot 138 = .ok (.iastore, 1) := by decide +kernel
theorem dX4_addLot_139 : decode cX4_addLot 139 = .ok (.return_, 1) := by decide +kernel
theorem dX4_take_0 : decode cX4_take 0 = .ok (.iconst 0, 1) := by decide +kernel
theorem dX4_take_1 : decode cX4_take 1 = .ok (.istore_n 3, 1) := by decide +kernel
theorem dX4_take_2 : decode cX4_take 2 = .ok (.iconst 0, 1) := by decide +kernel
theorem dX4_take_3 : decode cX4_take 3 = .ok (.istore 4, 2) := by decide +kernel
theorem dX4_take_5 : decode cX4_take 5 = .ok (.iload 4, 2) := by decide +kernel
theorem dX4_take_7 : decode cX4_take 7 = .ok (.aload_n 0, 1) := by decide +kernel
theorem dX4_take_8 : decode cX4_take 8 = .ok (.getfield 43, 3) := by decide +kernel
theorem dX4_take_11 : decode cX4_take 11 = .ok (.if_icmp .ge 68, 3) := by decide +kernel
theorem dX4_take_14 : decode cX4_take 14 = .ok (.aload_n 0, 1) := by decide +kernel
theorem dX4_take_15 : decode cX4_take 15 = .ok (.getfield 9, 3) := by decide +kernel
theorem dX4_take_18 : decode cX4_take 18 = .ok (.iload 4, 2) := by decide +kernel
theorem dX4_take_20 : decode cX4_take 20 = .ok (.iaload, 1) := by decide +kernel
theorem dX4_take_21 : decode cX4_take 21 = .ok (.iload_n 1, 1) := by decide +kernel
theorem dX4_take_22 : decode cX4_take 22 = .ok (.if_icmp .ne 51, 3) := by decide +kernel
theorem dX4_take_25 : decode cX4_take 25 = .ok (.iload_n 2, 1) := by decide +kernel
theorem dX4_take_26 : decode cX4_take 26 = .ok (.iload_n 3, 1) := by decide +kernel
theorem dX4_take_27 : decode cX4_take 27 = .ok (.isub, 1) := by decide +kernel
theorem dX4_take_28 : decode cX4_take 28 = .ok (.istore 5, 2) := by decide +kernel
theorem dX4_take_30 : decode cX4_take 30 = .ok (.aload_n 0, 1) := by decide +kernel
theorem dX4_take_31 : decode cX4_take 31 = .ok (.getfield 13, 3) := by decide +kernel
theorem dX4_take_34 : decode cX4_take 34 = .ok (.iload 4, 2) := by decide +kernel
theorem dX4_take_36 : decode cX4_take 36 = .ok (.iaload, 1) := by decide +kernel
theorem dX4_take_37 : decode cX4_take 37 = .ok (.iload 5, 2) := by decide +kernel
theorem dX4_take_39 : decode cX4_take 39 = .ok (.if_icmp .ge 13, 3) := by decide +kernel
theorem dX4_take_42 : decode cX4_take 42 = .ok (.aload_n 0, 1) := by decide +kernel
theorem dX4_take_43 : decode cX4_take 43 = .ok (.getfield 13, 3) := by decide +kernel
theorem dX4_take_46 : decode cX4_take 46 = .ok (.iload 4, 2) := by decide +kernel
theorem dX4_take_48 : decode cX4_take 48 = .ok (.iaload, 1) := by decide +kernel
theorem dX4_take_49 : decode cX4_take 49 = .ok (.goto 5, 3) := by decide +kernel
