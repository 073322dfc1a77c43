set_option maxRecDepth 20000 in
theorem ggX0_init_X1_init : GoodIn wsX0_init wsX1_init := goodIn_r _ [10, 11, 2, 3, 12, 13, 14, 15, 16, 17, 18, 19, 20, 21, 22, 23, 24, 25, 26, 27, 28, 29, 30, 31, 32, 33, 34, 35, 36, 37, 38, 39, 40, 41, 42, 43, 44, 45, 46, 47, 60, 61, 62, 63, 64, 65, 66, 67, 68, 69, 70, 50, 51, 52, 53, 54, 55, 56, 57, 58, 59, 71, 72, 73, 74, 75, 76, 77] (by decide +kernel) (by decide +kernel)
set_option maxRecDepth 20000 in
theorem gX0_init_X1_init : GoodIn wsX0_init (wsX1_init) := ggX0_init_X1_init
theorem dX0_init_0 : decode cX0_init 0 = .ok (.aload_n 0, 1) := by decide +kernel
theorem dX0_init_1 : decode cX0_init 1 = .ok (.invokespecial 1, 3) := by decide +kernel
theorem dX0_init_4 : decode cX0_init 4 = .ok (.aload_n 0, 1) := by decide +kernel
theorem dX0_init_5 : decode cX0_init 5 = .ok (.iconst 5, 1) := by decide +kernel
theorem dX0_init_6 : decode cX0_init 6 = .ok (.anewarray 9, 3) := by decide +kernel
theorem dX0_init_9 : decode cX0_init 9 = .ok (.putfield 11, 3) := by decide +kernel
theorem dX0_init_12 : decode cX0_init 12 = .ok (.iconst 0, 1) := by decide +kernel
theorem dX0_init_13 : decode cX0_init 13 = .ok (.istore_n 1, 1) := by decide +kernel
theorem dX0_init_14 : decode cX0_init 14 = .ok (.iload_n 1, 1) := by decide +kernel
theorem dX0_init_15 : decode cX0_init 15 = .ok (.iconst 4, 1) := by decide +kernel
theorem dX0_init_16 : decode cX0_init 16 = .ok (.if_icmp .gt 22, 3) := by decide +kernel
theorem dX0_init_19 : decode cX0_init 19 = .ok (.aload_n 0, 1) := by decide +kernel
theorem dX0_init_20 : decode cX0_init 20 = .ok (.getfield 11, 3) := by decide +kernel
theorem dX0_init_23 : decode cX0_init 23 = .ok (.iload_n 1, 1) := by decide +kernel
theorem dX0_init_24 : decode cX0_init 24 = .ok (.new 9, 3) := by decide +kernel
theorem dX0_init_27 : decode cX0_init 27 = .ok (.dup, 1) := by decide +kernel
theorem dX0_init_28 : decode cX0_init 28 = .ok (.invokespecial 15, 3) := by decide +kernel
theorem dX0_init_31 : decode cX0_init 31 = .ok (.aastore, 1) := by decide +kernel
theorem dX0_init_32 : decode cX0_init 32 = .ok (.iinc 1 1, 3) := by decide +kernel
theorem dX0_init_35 : decode cX0_init 35 = .ok (.goto (-21), 3) := by decide +kernel
theorem dX0_init_38 : decode cX0_init 38 = .ok (.return_, 1) := by decide +kernel
set_option maxRecDepth 20000 in
theorem ggX0_prepare_X1_copyFrom : GoodIn wsX0_prepare wsX1_copyFrom := goodIn_r _ [7, 8, 9, 10, 11, 12, 13, 14, 15, 16, 17, 18, 19, 20, 21, 22, 23, 24, 25, 26, 27, 28, 29, 30, 31, 32, 33, 34, 35, 36, 37, 38, 39, 40, 41, 42, 43, 44, 45, 46, 47, 48, 49, 50, 51, 54, 55, 56, 57, 58, 59, 60, 61, 62, 63, 64, 65, 66, 67, 68, 69, 70, 71, 72, 73, 74, 75, 76, 77, 78, 79, 80, 81] (by decide +kernel) (by decide +kernel)
set_option maxRecDepth 20000 in
theorem gX0_prepare_X1_copyFrom : GoodIn wsX0_prepare (wsV RX0 20 RX1 yX1_copyFrom wsX1_copyFrom) := goodIn_app (goodIn_of _ (by decide +kernel)) ggX0_prepare_X1_copyFrom
theorem dX0_prepare_0 : decode cX0_prepare 0 = .ok (.aload_n 0, 1) := by decide +kernel
theorem dX0_prepare_1 : decode cX0_prepare 1 = .ok (.getfield 16, 3) := by decide +kernel
theorem dX0_prepare_4 : decode cX0_prepare 4 = .ok (.ifCond .lt 23, 3) := by decide +kernel
theorem dX0_prepare_7 : decode cX0_prepare 7 = .ok (.aload_n 0, 1) := by decide +kernel
theorem dX0_prepare_8 : decode cX0_prepare 8 = .ok (.getfield 16, 3) := by decide +kernel
theorem dX0_prepare_11 : decode cX0_prepare 11 = .ok (.iconst 4, 1) := by decide +kernel
theorem dX0_prepare_12 : decode cX0_prepare 12 = .ok (.if_icmp .gt 15, 3) := by decide +kernel
theorem dX0_prepare_15 : decode cX0_prepare 15 = .ok (.aload_n 0, 1) := by decide +kernel
theorem dX0_prepare_16 : decode cX0_prepare 16 = .ok (.getfield 11, 3) := by decide +kernel
theorem dX0_prepare_19 : decode cX0_prepare 19 = .ok (.aload_n 0, 1) := by decide +kernel
theorem dX0_prepare_20 : decode cX0_prepare 20 = .ok (.getfield 16, 3) := by decide +kernel
theorem dX0_prepare_23 : decode cX0_prepare 23 = .ok (.aaload, 1) := by decide +kernel
theorem dX0_prepare_24 : decode cX0_prepare 24 = .ok (.goto 4, 3) := by decide +kernel
theorem dX0_prepare_27 : decode cX0_prepare 27 = .ok (.aconst_null, 1) := by decide +kernel
theorem dX0_prepare_28 : decode cX0_prepare 28 = .ok (.astore_n 2, 1) := by decide +kernel
theorem dX0_prepare_29 : decode cX0_prepare 29 = .ok (.aload_n 2, 1) := by decide +kernel
theorem dX0_prepare_30 : decode cX0_prepare 30 = .ok (.ifnull 8, 3) := by decide +kernel
theorem dX0_prepare_33 : decode cX0_prepare 33 = .ok (.aload_n 2, 1) := by decide +kernel
theorem dX0_prepare_34 : decode cX0_prepare 34 = .ok (.aload_n 1, 1) := by decide +kernel
theorem dX0_prepare_35 : decode cX0_prepare 35 = .ok (.invokevirtual 20, 3) := by decide +kernel
theorem dX0_prepare_38 : decode cX0_prepare 38 = .ok (.return_, 1) := by decide +kernel
theorem dX0_commit_0 : decode cX0_commit 0 = .ok (.aload_n 0, 1) := by decide +kernel
theorem dX0_commit_1 : decode cX0_commit 1 = .ok (.dup, 1) := by decide +kernel
theorem dX0_commit_2 : decode cX0_commit 2 = .ok (.getfield 16, 3) := by decide +kernel
theorem dX0_commit_5 : decode cX0_commit 5 = .ok (.iconst 1, 1) := by decide +kernel
theorem dX0_commit_6 : decode cX0_commit 6 = .ok (.iadd, 1) := by decide +kernel
theorem dX0_commit_7 : decode cX0_commit 7 = .ok (.putfield 16, 3) := by decide +kernel
theorem dX0_commit_10 : decode cX0_commit 10 = .ok (.aload_n 0, 1) := by decide +kernel
theorem dX0_commit_11 : decode cX0_commit 11 = .ok (.getfield 16, 3) := by decide +kernel
theorem dX0_commit_14 : decode cX0_commit 14 = .ok (.iconst 4, 1) := by decide +kernel
theorem dX0_commit_15 : decode cX0_commit 15 = .ok (.if_icmp .gt 4, 3) := by decide +kernel
theorem dX0_commit_18 : decode cX0_commit 18 = .ok (.return_, 1) := by decide +kernel
theorem dX0_commit_19 : decode cX0_commit 19 = .ok (.aload_n 0, 1) := by decide +kernel
theorem dX0_commit_20 : decode cX0_commit 20 = .ok (.getfield 11, 3) := by decide +kernel
theorem dX0_commit_23 : decode cX0_commit 23 = .ok (.iconst 0, 1) := by decide +kernel
theorem dX0_commit_24 : decode cX0_commit 24 = .ok (.aaload, 1) := by decide +kernel
theorem dX0_commit_25 : decode cX0_commit 25 = .ok (.astore_n 1, 1) := by decide +kernel
theorem dX0_commit_26 : decode cX0_commit 26 = .ok (.iconst 0, 1) := by decide +kernel
theorem dX0_commit_27 : decode cX0_commit 27 = .ok (.istore_n 2, 1) := by decide +kernel
theorem dX0_commit_28 : decode cX0_commit 28 = .ok (.iload_n 2, 1) := by decide +kernel
theorem dX0_commit_29 : decode cX0_commit 29 = .ok (.iconst 4, 1) := by decide +kernel
theorem dX0_commit_30 : decode cX0_commit 30 = .ok (.if_icmp .ge 23, 3) := by decide +kernel
theorem dX0_commit_33 : decode cX0_commit 33 = .ok (.aload_n 0, 1) := by decide +kernel
theorem dX0_commit_34 : decode cX0_commit 34 = .ok (.getfield 11, 3) := by decide +kernel
theorem dX0_commit_37 : decode cX0_commit 37 = .ok (.iload_n 2, 1) := by decide +kernel
theorem dX0_commit_38 : decode cX0_commit 38 = .ok (.aload_n 0, 1) := by decide +kernel
theorem dX0_commit_39 : decode cX0_commit 39 = .ok (.getfield 11, 3) := by decide +kernel
theorem dX0_commit_42 : decode cX0_commit 42 = .ok (.iload_n 2, 1) := by decide +kernel
theorem dX0_commit_43 : decode cX0_commit 43 = .ok (.iconst 1, 1) := by decide +kernel
theorem dX0_commit_44 : decode cX0_commit 44 = .ok (.iadd, 1) := by decide +kernel
theorem dX0_commit_45 : decode cX0_commit 45 = .ok (.aaload, 1) := by decide +kernel
theorem dX0_commit_46 : decode cX0_commit 46 = .ok (.aastore, 1) := by decide +kernel
theorem dX0_commit_47 : decode cX0_commit 47 = .ok (.iinc 2 1, 3) := by decide +kernel
theorem dX0_commit_50 : decode cX0_commit 50 = .ok (.goto (-22), 3) := by decide +kernel
theorem dX0_commit_53 : decode cX0_commit 53 = .ok (.aload_n 0, 1) := by decide +kernel
theorem dX0_commit_54 : decode cX0_commit 54 = .ok (.getfield 11, 3) := by decide +kernel
theorem dX0_commit_57 : decode cX0_commit 57 = .ok (.iconst 4, 1) := by decide +kernel
theorem dX0_commit_58 : decode cX0_commit 58 = .ok (.aload_n 1, 1) := by decide +kernel
theorem dX0_commit_59 : decode cX0_commit 59 = .ok (.aastore, 1) := by decide +kernel
theorem dX0_commit_60 : decode cX0_commit 60 = .ok (.aload_n 0, 1) := by decide +kernel
theorem dX0_commit_61 : decode cX0_commit 61 = .ok (.iconst 4, 1) := by decide +kernel
theorem dX0_commit_62 : decode cX0_commit 62 = .ok (.putfield 16, 3) := by decide +kernel
theorem dX0_commit_65 : decode cX0_commit 65 = .ok (.return_, 1) := by decide +kernel
set_option maxRecDepth 20000 in
theorem ggX0_takeBack_X1_copyFrom : GoodIn wsX0_takeBack wsX1_copyFrom := goodIn_r _ [7, 8, 9, 10, 11, 12, 13, 14, 15, 16, 17, 18, 19, 20, 21, 22, 23, 24, 25, 26, 27, 28, 29, 30, 31, 32, 33, 34, 35, 36, 37, 38, 39, 40, 41, 42, 43, 44, 45, 46, 47, 48, 49, 50, 51, 54, 55, 56, 57, 58, 59, 60, 61, 62, 63, 64, 65, 66, 67, 68, 69, 70, 71, 72, 73, 74, 75, 76, 77, 78, 79, 80, 81] (by decide +kernel) (by decide +kernel)
set_option maxRecDepth 20000 in
theorem gX0_takeBack_X1_copyFrom : GoodIn wsX0_takeBack (wsV RX0 20 RX1 yX1_copyFrom wsX1_copyFrom) := goodIn_app (goodIn_of _ (by decide +kernel)) ggX0_takeBack_X1_copyFrom
theorem dX0_takeBack_0 : decode cX0_takeBack 0 = .ok (.aload_n 0, 1) := by decide +kernel
theorem dX0_takeBack_1 : decode cX0_takeBack 1 = .ok (.getfield 16, 3) := by decide +kernel
theorem dX0_takeBack_4 : decode cX0_takeBack 4 = .ok (.iconst 1, 1) := by decide +kernel
theorem dX0_takeBack_5 : decode cX0_takeBack 5 = .ok (.if_icmp .lt 25, 3) := by decide +kernel
theorem dX0_takeBack_8 : decode cX0_takeBack 8 = .ok (.aload_n 0, 1) := by decide +kernel
theorem dX0_takeBack_9 : decode cX0_takeBack 9 = .ok (.getfield 16, 3) := by decide +kernel
theorem dX0_takeBack_12 : decode cX0_takeBack 12 = .ok (.iconst 4, 1) := by decide +kernel
theorem dX0_takeBack_13 : decode cX0_takeBack 13 = .ok (.if_icmp .gt 17, 3) := by decide +kernel
theorem dX0_takeBack_16 : decode cX0_takeBack 16 = .ok (.aload_n 0, 1) := by decide +kernel
theorem dX0_takeBack_17 : decode cX0_takeBack 17 = .ok (.getfield 11, 3) := by decide +kernel
theorem dX0_takeBack_20 : decode cX0_takeBack 20 = .ok (.aload_n 0, 1) := by decide +kernel
theorem dX0_takeBack_21 : decode cX0_takeBack 21 = .ok (.getfield 16, 3) := by decide +kernel
theorem dX0_takeBack_24 : decode cX0_takeBack 24 = .ok (.iconst 1, 1) := by decide +kernel
theorem dX0_takeBack_25 : decode cX0_takeBack 25 = .ok (.isub, 1) := by decide +kernel
theorem dX0_takeBack_26 : decode cX0_takeBack 26 = .ok (.aaload, 1) := by decide +kernel
theorem dX0_takeBack_27 : decode cX0_takeBack 27 = .ok (.goto 4, 3) := by decide +kernel
theorem dX0_takeBack_30 : decode cX0_takeBack 30 = .ok (.aconst_null, 1) := by decide +kernel
theorem dX0_takeBack_31 : decode cX0_takeBack 31 = .ok (.astore_n 2, 1) := by decide +kernel
theorem dX0_takeBack_32 : decode cX0_takeBack 32 = .ok (.aload_n 2, 1) := by decide +kernel
theorem dX0_takeBack_33 : decode cX0_takeBack 33 = .ok (.ifnull 18, 3) := by decide +kernel
theorem dX0_takeBack_36 : decode cX0_takeBack 36 = .ok (.aload_n 1, 1) := by decide +kernel
theorem dX0_takeBack_37 : decode cX0_takeBack 37 = .ok (.aload_n 2, 1) := by decide +kernel
theorem dX0_takeBack_38 : decode cX0_takeBack 38 = .ok (.invokevirtual 20, 3) := by decide +kernel
theorem dX0_takeBack_41 : decode cX0_takeBack 41 = .ok (.aload_n 0, 1) := by decide +kernel
theorem dX0_takeBack_42 : decode cX0_takeBack 42 = .ok (.dup, 1) := by decide +kernel
theorem dX0_takeBack_43 : decode cX0_takeBack 43 = .ok (.getfield 16, 3) := by decide +kernel
theorem dX0_takeBack_46 : decode cX0_takeBack 46 = .ok (.iconst 1, 1) := by decide +kernel
theorem dX0_takeBack_47 : decode cX0_takeBack 47 = .ok (.isub, 1) := by decide +kernel
theorem dX0_takeBack_48 : decode cX0_takeBack 48 = .ok (.putfield 16, 3) := by decide +kernel
theorem dX0_takeBack_51 : decode cX0_takeBack 51 = .ok (.return_, 1) := by decide +kernel
set_option maxRecDepth 20000 in
theorem ggX1_init_X4_init : GoodIn wsX1_init wsX4_init := goodIn_r _ [19, 20, 2, 3, 14, 21, 22, 23, 24, 25, 26, 27, 28, 29, 40, 41, 42, 43, 44, 45, 46, 47, 48, 49, 50] (by decide +kernel) (by decide +kernel)
set_option maxRecDepth 20000 in
theorem gX1_init_X4_init : GoodIn wsX1_init (wsX4_init) := ggX1_init_X4_init
set_option maxRecDepth 20000 in
theorem ggX1_init_X2_init : GoodIn wsX1_init wsX2_init := goodIn_r _ [32, 33, 2, 3, 14, 34, 35, 36, 37, 38, 39, 61, 62, 63, 64, 65, 66, 67] (by decide +kernel) (by decide +kernel)
set_option maxRecDepth 20000 in
theorem gX1_init_X2_init : GoodIn wsX1_init (wsX2_init) := ggX1_init_X2_init
theorem dX1_init_0 : decode cX1_init 0 = .ok (.aload_n 0, 1) := by decide +kernel
theorem dX1_init_1 : decode cX1_init 1 = .ok (.invokespecial 3, 3) := by decide +kernel
theorem dX1_init_4 : decode cX1_init 4 = .ok (.aload_n 0, 1) := by decide +kernel
theorem dX1_init_5 : decode cX1_init 5 = .ok (.new 9, 3) := by decide +kernel
theorem dX1_init_8 : decode cX1_init 8 = .ok (.dup, 1) := by decide +kernel
theorem dX1_init_9 : decode cX1_init 9 = .ok (.invokespecial 11, 3) := by decide +kernel
theorem dX1_init_12 : decode cX1_init 12 = .ok (.putfield 12, 3) := by decide +kernel
theorem dX1_init_15 : decode cX1_init 15 = .ok (.aload_n 0, 1) := by decide +kernel
theorem dX1_init_16 : decode cX1_init 16 = .ok (.new 18, 3) := by decide +kernel
theorem dX1_init_19 : decode cX1_init 19 = .ok (.dup, 1) := by decide +kernel
theorem dX1_init_20 : decode cX1_init 20 = .ok (.invokespecial 20, 3) := by decide +kernel
theorem dX1_init_23 : decode cX1_init 23 = .ok (.putfield 21, 3) := by decide +kernel
theorem dX1_init_26 : decode cX1_init 26 = .ok (.aload_n 0, 1) := by decide +kernel
theorem dX1_init_27 : decode cX1_init 27 = .ok (.sipush 396, 3) := by decide +kernel
theorem dX1_init_30 : decode cX1_init 30 = .ok (.newarray .boolean, 2) := by decide +kernel
theorem dX1_init_32 : decode cX1_init 32 = .ok (.putfield 25, 3) := by decide +kernel
theorem dX1_init_35 : decode cX1_init 35 = .ok (.aload_n 0, 1) := by decide +kernel
theorem dX1_init_36 : decode cX1_init 36 = .ok (.iconst 4, 1) := by decide +kernel
theorem dX1_init_37 : decode cX1_init 37 = .ok (.newarray .int, 2) := by decide +kernel
theorem dX1_init_39 : decode cX1_init 39 = .ok (.putfield 29, 3) := by decide +kernel
theorem dX1_init_42 : decode cX1_init 42 = .ok (.iconst 0, 1) := by decide +kernel
theorem dX1_init_43 : decode cX1_init 43 = .ok (.istore_n 1, 1) := by decide +kernel
theorem dX1_init_44 : decode cX1_init 44 = .ok (.iload_n 1, 1) := by decide +kernel
theorem dX1_init_45 : decode cX1_init 45 = .ok (.iconst 4, 1) := by decide +kernel
theorem dX1_init_46 : decode cX1_init 46 = .ok (.if_icmp .ge 20, 3) := by decide +kernel
theorem dX1_init_49 : decode cX1_init 49 = .ok (.aload_n 0, 1) := by decide +kernel
theorem dX1_init_50 : decode cX1_init 50 = .ok (.getfield 29, 3) := by decide +kernel
theorem dX1_init_53 : decode cX1_init 53 = .ok (.iload_n 1, 1) := by decide +kernel
theorem dX1_init_54 : decode cX1_init 54 = .ok (.getstatic 33, 3) := by decide +kernel
theorem dX1_init_57 : decode cX1_init 57 = .ok (.iload_n 1, 1) := by decide +kernel
theorem dX1_init_58 : decode cX1_init 58 = .ok (.iaload, 1) := by decide +kernel
theorem dX1_init_59 : decode cX1_init 59 = .ok (.iastore, 1) := by decide +kernel
theorem dX1_init_60 : decode cX1_init 60 = .ok (.iinc 1 1, 3) := by decide +kernel
theorem dX1_init_63 : decode cX1_init 63 = .ok (.goto (-19), 3) := by decide +kernel
theorem dX1_init_66 : decode cX1_init 66 = .ok (.return_, 1) := by decide +kernel
set_option maxRecDepth 20000 in
theorem ggX1_copyFrom_X4_copyFrom : GoodIn wsX1_copyFrom wsX4_copyFrom := goodIn_r _ [19, 20, 21, 5, 6, 7, 22, 23, 24, 25, 26, 27, 28, 29, 30, 31, 55, 56, 57, 58, 59, 60, 61, 62, 63, 64, 65] (by decide +kernel) (by decide +kernel)
set_option maxRecDepth 20000 in
theorem gX1_copyFrom_X4_copyFrom : GoodIn wsX1_copyFrom (wsV RX1 36 RX4 yX4_copyFrom wsX4_copyFrom) := goodIn_app (goodIn_of _ (by decide +kernel)) ggX1_copyFrom_X4_copyFrom
set_option maxRecDepth 20000 in
theorem ggX1_copyFrom_X2_copyFrom : GoodIn wsX1_copyFrom wsX2_copyFrom := goodIn_r _ [36, 37, 38, 5, 6, 7, 39, 40, 41, 42, 43, 44, 66, 67, 68, 69, 70, 71, 72] (by decide +kernel) (by decide +kernel)
set_option maxRecDepth 20000 in
theorem gX1_copyFrom_X2_copyFrom : GoodIn wsX1_copyFrom (wsV RX1 40 RX2 yX2_copyFrom wsX2_copyFrom) := goodIn_app (goodIn_of _ (by decide +kernel)) ggX1_copyFrom_X2_copyFrom
theorem dX1_copyFrom_0 : decode cX1_copyFrom 0 = .ok (.aload_n 0, 1) := by decide +kernel
theorem dX1_copyFrom_1 : decode cX1_copyFrom 1 = .ok (.getfield 12, 3) := by decide +kernel
theorem dX1_copyFrom_4 : decode cX1_copyFrom 4 = .ok (.aload_n 1, 1) := by decide +kernel
theorem dX1_copyFrom_5 : decode cX1_copyFrom 5 = .ok (.getfield 12, 3) := by decide +kernel
theorem dX1_copyFrom_8 : decode cX1_copyFrom 8 = .ok (.invokevirtual 36, 3) := by decide +kernel
theorem dX1_copyFrom_11 : decode cX1_copyFrom 11 = .ok (.aload_n 0, 1) := by decide +kernel
theorem dX1_copyFrom_12 : decode cX1_copyFrom 12 = .ok (.getfield 21, 3) := by decide +kernel
theorem dX1_copyFrom_15 : decode cX1_copyFrom 15 = .ok (.aload_n 1, 1) := by decide +kernel
theorem dX1_copyFrom_16 : decode cX1_copyFrom 16 = .ok (.getfield 21, 3) := by decide +kernel
theorem dX1_copyFrom_19 : decode cX1_copyFrom 19 = .ok (.invokevirtual 40, 3) := by decide +kernel
theorem dX1_copyFrom_22 : decode cX1_copyFrom 22 = .ok (.aload_n 1, 1) := by decide +kernel
theorem dX1_copyFrom_23 : decode cX1_copyFrom 23 = .ok (.getfield 25, 3) := by decide +kernel
theorem dX1_copyFrom_26 : decode cX1_copyFrom 26 = .ok (.iconst 0, 1) := by decide +kernel
theorem dX1_copyFrom_27 : decode cX1_copyFrom 27 = .ok (.aload_n 0, 1) := by decide +kernel
theorem dX1_copyFrom_28 : decode cX1_copyFrom 28 = .ok (.getfield 25, 3) := by decide +kernel
theorem dX1_copyFrom_31 : decode cX1_copyFrom 31 = .ok (.iconst 0, 1) := by decide +kernel
theorem dX1_copyFrom_32 : decode cX1_copyFrom 32 = .ok (.sipush 396, 3) := by decide +kernel
theorem dX1_copyFrom_35 : decode cX1_copyFrom 35 = .ok (.invokestatic 43, 3) := by decide +kernel
theorem dX1_copyFrom_38 : decode cX1_copyFrom 38 = .ok (.aload_n 1, 1) := by decide +kernel
theorem dX1_copyFrom_39 : decode cX1_copyFrom 39 = .ok (.getfield 29, 3) := by decide +kernel
theorem dX1_copyFrom_42 : decode cX1_copyFrom 42 = .ok (.iconst 0, 1) := by decide +kernel
theorem dX1_copyFrom_43 : decode cX1_copyFrom 43 = .ok (.aload_n 0, 1) := by decide +kernel
theorem dX1_copyFrom_44 : decode cX1_copyFrom 44 = .ok (.getfield 29, 3) := by decide +kernel
theorem dX1_copyFrom_47 : decode cX1_copyFrom 47 = .ok (.iconst 0, 1) := by decide +kernel
theorem dX1_copyFrom_48 : decode cX1_copyFrom 48 = .ok (.iconst 4, 1) := by decide +kernel
theorem dX1_copyFrom_49 : decode cX1_copyFrom 49 = .ok (.invokestatic 43, 3) := by decide +kernel
theorem dX1_copyFrom_52 : decode cX1_copyFrom 52 = .ok (.aload_n 0, 1) := by decide +kernel
theorem dX1_copyFrom_53 : decode cX1_copyFrom 53 = .ok (.aload_n 1, 1) := by decide +kernel
theorem dX1_copyFrom_54 : decode cX1_copyFrom 54 = .ok (.getfield 49, 3) := by decide +kernel
theorem dX1_copyFrom_57 : decode cX1_copyFrom 57 = .ok (.putfield 49, 3) := by decide +kernel
theorem dX1_copyFrom_60 : decode cX1_copyFrom 60 = .ok (.aload_n 0, 1) := by decide +kernel
theorem dX1_copyFrom_61 : decode cX1_copyFrom 61 = .ok (.aload_n 1, 1) := by decide +kernel
theorem dX1_copyFrom_62 : decode cX1_copyFrom 62 = .ok (.getfield 53, 3) := by decide +kernel
theorem dX1_copyFrom_65 : decode cX1_copyFrom 65 = .ok (.putfield 53, 3) := by decide +kernel
theorem dX1_copyFrom_68 : decode cX1_copyFrom 68 = .ok (.aload_n 0, 1) := by decide +kernel
theorem dX1_copyFrom_69 : decode cX1_copyFrom 69 = .ok (.aload_n 1, 1) := by decide +kernel
theorem dX1_copyFrom_70 : decode cX1_copyFrom 70 = .ok (.getfield 56, 3) := by decide +kernel
theorem dX1_copyFrom_73 : decode cX1_copyFrom 73 = .ok (.putfield 56, 3) := by decide +kernel
theorem dX1_copyFrom_76 : decode cX1_copyFrom 76 = .ok (.aload_n 0, 1) := by decide +kernel
theorem dX1_copyFrom_77 : decode cX1_copyFrom 77 = .ok (.aload_n 1, 1) := by decide +kernel
theorem dX1_copyFrom_78 : decode cX1_copyFrom 78 = .ok (.getfield 59, 3) := by decide +kernel
theorem dX1_copyFrom_81 : decode cX1_copyFrom 81 = .ok (.putfield 59, 3) := by decide +kernel
theorem dX1_copyFrom_84 : decode cX1_copyFrom 84 = .ok (.aload_n 0, 1) := by decide +kernel
theorem dX1_copyFrom_85 : decode cX1_copyFrom 85 = .ok (.aload_n 1, 1) := by decide +kernel
theorem dX1_copyFrom_86 : decode cX1_copyFrom 86 = .ok (.getfield 62, 3) := by decide +kernel
theorem dX1_copyFrom_89 : decode cX1_copyFrom 89 = .ok (.putfield 62, 3) := by decide +kernel
theorem dX1_copyFrom_92 : decode cX1_copyFrom 92 = .ok (.aload_n 0, 1) := by decide +kernel
theorem dX1_copyFrom_93 : decode cX1_copyFrom 93 = .ok (.aload_n 1, 1) := by decide +kernel
theorem dX1_copyFrom_94 : decode cX1_copyFrom 94 = .ok (.getfield 65, 3) := by decide +kernel
theorem dX1_copyFrom_97 : decode cX1_copyFrom 97 = .ok (.putfield 65, 3) := by decide +kernel
theorem dX1_copyFrom_100 : decode cX1_copyFrom 100 = .ok (.return_, 1) := by decide +kernel
set_option maxRecDepth 20000 in
theorem ggX1_putOnPallet_X4_isKind : GoodIn wsX1_putOnPallet wsX4_isKind := goodIn_r _ [6] (by decide +kernel) (by decide +kernel)
set_option maxRecDepth 20000 in
theorem gX1_putOnPallet_X4_isKind : GoodIn wsX1_putOnPallet (va_wsS RX1 68 yX4_isKind wsX4_isKind) := goodIn_app (goodIn_of _ (by decide +kernel)) ggX1_putOnPallet_X4_isKind
set_option maxRecDepth 20000 in
theorem ggX1_putOnPallet_X4_addToPallet : GoodIn wsX1_putOnPallet wsX4_addToPallet := goodIn_r _ [10, 11, 12, 13, 14, 25, 26, 27, 28, 29, 30, 31, 32, 33, 34, 35] (by decide +kernel) (by decide +kernel)
set_option maxRecDepth 20000 in
theorem gX1_putOnPallet_X4_addToPallet : GoodIn wsX1_putOnPallet (wsV RX1 75 RX4 yX4_addToPallet wsX4_addToPallet) := goodIn_app (goodIn_of _ (by decide +kernel)) ggX1_putOnPallet_X4_addToPallet
theorem dX1_putOnPallet_0 : decode cX1_putOnPallet 0 = .ok (.iload_n 1, 1) := by decide +kernel
theorem dX1_putOnPallet_1 : decode cX1_putOnPallet 1 = .ok (.invokestatic 68, 3) := by decide +kernel
theorem dX1_putOnPallet_4 : decode cX1_putOnPallet 4 = .ok (.ifCond .eq 26, 3) := by decide +kernel
theorem dX1_putOnPallet_7 : decode cX1_putOnPallet 7 = .ok (.iload_n 2, 1) := by decide +kernel
theorem dX1_putOnPallet_8 : decode cX1_putOnPallet 8 = .ok (.iconst 1, 1) := by decide +kernel
theorem dX1_putOnPallet_9 : decode cX1_putOnPallet 9 = .ok (.if_icmp .lt 21, 3) := by decide +kernel
theorem dX1_putOnPallet_12 : decode cX1_putOnPallet 12 = .ok (.iload_n 2, 1) := by decide +kernel
theorem dX1_putOnPallet_13 : decode cX1_putOnPallet 13 = .ok (.sipush 999, 3) := by decide +kernel
theorem dX1_putOnPallet_16 : decode cX1_putOnPallet 16 = .ok (.if_icmp .gt 14, 3) := by decide +kernel
theorem dX1_putOnPallet_19 : decode cX1_putOnPallet 19 = .ok (.iload_n 3, 1) := by decide +kernel
theorem dX1_putOnPallet_20 : decode cX1_putOnPallet 20 = .ok (.ifCond .lt 10, 3) := by decide +kernel
theorem dX1_putOnPallet_23 : decode cX1_putOnPallet 23 = .ok (.iload_n 3, 1) := by decide +kernel
theorem dX1_putOnPallet_24 : decode cX1_putOnPallet 24 = .ok (.sipush 365, 3) := by decide +kernel
theorem dX1_putOnPallet_27 : decode cX1_putOnPallet 27 = .ok (.if_icmp .le 5, 3) := by decide +kernel
theorem dX1_putOnPallet_30 : decode cX1_putOnPallet 30 = .ok (.iconst (-1), 1) := by decide +kernel
theorem dX1_putOnPallet_31 : decode cX1_putOnPallet 31 = .ok (.ireturn, 1) := by decide +kernel
theorem dX1_putOnPallet_32 : decode cX1_putOnPallet 32 = .ok (.aload_n 0, 1) := by decide +kernel
theorem dX1_putOnPallet_33 : decode cX1_putOnPallet 33 = .ok (.getfield 12, 3) := by decide +kernel
theorem dX1_putOnPallet_36 : decode cX1_putOnPallet 36 = .ok (.getfield 72, 3) := by decide +kernel
theorem dX1_putOnPallet_39 : decode cX1_putOnPallet 39 = .ok (.bipush 6, 2) := by decide +kernel
theorem dX1_putOnPallet_41 : decode cX1_putOnPallet 41 = .ok (.if_icmp .lt 6, 3) := by decide +kernel
theorem dX1_putOnPallet_44 : decode cX1_putOnPallet 44 = .ok (.bipush (-3), 2) := by decide +kernel
theorem dX1_putOnPallet_46 : decode cX1_putOnPallet 46 = .ok (.ireturn, 1) := by decide +kernel
theorem dX1_putOnPallet_47 : decode cX1_putOnPallet 47 = .ok (.aload_n 0, 1) := by decide +kernel
theorem dX1_putOnPallet_48 : decode cX1_putOnPallet 48 = .ok (.getfield 12, 3) := by decide +kernel
theorem dX1_putOnPallet_51 : decode cX1_putOnPallet 51 = .ok (.iload_n 1, 1) := by decide +kernel
theorem dX1_putOnPallet_52 : decode cX1_putOnPallet 52 = .ok (.iload_n 2, 1) := by decide +kernel
theorem dX1_putOnPallet_53 : decode cX1_putOnPallet 53 = .ok (.iload_n 3, 1) := by decide +kernel
theorem dX1_putOnPallet_54 : decode cX1_putOnPallet 54 = .ok (.invokevirtual 75, 3) := by decide +kernel
theorem dX1_putOnPallet_57 : decode cX1_putOnPallet 57 = .ok (.aload_n 0, 1) := by decide +kernel
theorem dX1_putOnPallet_58 : decode cX1_putOnPallet 58 = .ok (.getfield 12, 3) := by decide +kernel
theorem dX1_putOnPallet_61 : decode cX1_putOnPallet 61 = .ok (.getfield 72, 3) := by decide +kernel
theorem dX1_putOnPallet_64 : decode cX1_putOnPallet 64 = .ok (.ireturn, 1) := by decide +kernel
set_option maxRecDepth 20000 in
theorem ggX1_bringPallet_X1_isStorm : GoodIn wsX1_bringPallet wsX1_isStorm := goodIn_r _ [11, 6, 12, 34, 35, 36, 37, 38, 39, 40, 41, 42, 43] (by decide +kernel) (by decide +kernel)
set_option maxRecDepth 20000 in
theorem gX1_bringPallet_X1_isStorm : GoodIn wsX1_bringPallet (wsV RX1 79 RX1 yX1_isStorm wsX1_isStorm) := goodIn_app (goodIn_of _ (by decide +kernel)) ggX1_bringPallet_X1_isStorm
set_option maxRecDepth 20000 in
theorem ggX1_bringPallet_X4_unloadPallet : GoodIn wsX1_bringPallet wsX4_unloadPallet := goodIn_r _ [17, 18, 19, 20, 21, 22, 23, 24, 16, 25, 26, 27, 28, 29, 30, 31, 32, 33, 44, 45, 46, 47, 48, 49, 50, 51, 52, 53, 54] (by decide +kernel) (by decide +kernel)
set_option maxRecDepth 20000 in
theorem gX1_bringPallet_X4_unloadPallet : GoodIn wsX1_bringPallet (wsV RX1 86 RX4 yX4_unloadPallet wsX4_unloadPallet) := goodIn_app (goodIn_of _ (by decide +kernel)) ggX1_bringPallet_X4_unloadPallet
theorem dX1_bringPallet_0 : decode cX1_bringPallet 0 = .ok (.aload_n 0, 1) := by decide +kernel
theorem dX1_bringPallet_1 : decode cX1_bringPallet 1 = .ok (.getfield 12, 3) := by decide +kernel
theorem dX1_bringPallet_4 : decode cX1_bringPallet 4 = .ok (.getfield 72, 3) := by decide +kernel
theorem dX1_bringPallet_7 : decode cX1_bringPallet 7 = .ok (.istore_n 1, 1) := by decide +kernel
theorem dX1_bringPallet_8 : decode cX1_bringPallet 8 = .ok (.iload_n 1, 1) := by decide +kernel
theorem dX1_bringPallet_9 : decode cX1_bringPallet 9 = .ok (.ifCond .eq 23, 3) := by decide +kernel
theorem dX1_bringPallet_12 : decode cX1_bringPallet 12 = .ok (.aload_n 0, 1) := by decide +kernel
theorem dX1_bringPallet_13 : decode cX1_bringPallet 13 = .ok (.invokevirtual 79, 3) := by decide +kernel
theorem dX1_bringPallet_16 : decode cX1_bringPallet 16 = .ok (.ifCond .ne 16, 3) := by decide +kernel
theorem dX1_bringPallet_19 : decode cX1_bringPallet 19 = .ok (.aload_n 0, 1) := by decide +kernel
theorem dX1_bringPallet_20 : decode cX1_bringPallet 20 = .ok (.getfield 53, 3) := by decide +kernel
theorem dX1_bringPallet_23 : decode cX1_bringPallet 23 = .ok (.aload_n 0, 1) := by decide +kernel
theorem dX1_bringPallet_24 : decode cX1_bringPallet 24 = .ok (.getfield 29, 3) := by decide +kernel
theorem dX1_bringPallet_27 : decode cX1_bringPallet 27 = .ok (.iconst 3, 1) := by decide +kernel
theorem dX1_bringPallet_28 : decode cX1_bringPallet 28 = .ok (.iaload, 1) := by decide +kernel
theorem dX1_bringPallet_29 : decode cX1_bringPallet 29 = .ok (.if_icmp .lt 6, 3) := by decide +kernel
theorem dX1_bringPallet_32 : decode cX1_bringPallet 32 = .ok (.bipush (-2), 2) := by decide +kernel
theorem dX1_bringPallet_34 : decode cX1_bringPallet 34 = .ok (.ireturn, 1) := by decide +kernel
theorem dX1_bringPallet_35 : decode cX1_bringPallet 35 = .ok (.aload_n 0, 1) := by decide +kernel
theorem dX1_bringPallet_36 : decode cX1_bringPallet 36 = .ok (.getfield 12, 3) := by decide +kernel
theorem dX1_bringPallet_39 : decode cX1_bringPallet 39 = .ok (.getfield 83, 3) := by decide +kernel
theorem dX1_bringPallet_42 : decode cX1_bringPallet 42 = .ok (.iload_n 1, 1) := by decide +kernel
theorem dX1_bringPallet_43 : decode cX1_bringPallet 43 = .ok (.iadd, 1) := by decide +kernel
theorem dX1_bringPallet_44 : decode cX1_bringPallet 44 = .ok (.bipush 20, 2) := by decide +kernel
theorem dX1_bringPallet_46 : decode cX1_bringPallet 46 = .ok (.if_icmp .le 6, 3) := by decide +kernel
theorem dX1_bringPallet_49 : decode cX1_bringPallet 49 = .ok (.bipush (-3), 2) := by decide +kernel
theorem dX1_bringPallet_51 : decode cX1_bringPallet 51 = .ok (.ireturn, 1) := by decide +kernel
theorem dX1_bringPallet_52 : decode cX1_bringPallet 52 = .ok (.aload_n 0, 1) := by decide +kernel
theorem dX1_bringPallet_53 : decode cX1_bringPallet 53 = .ok (.getfield 12, 3) := by decide +kernel
theorem dX1_bringPallet_56 : decode cX1_bringPallet 56 = .ok (.aload_n 0, 1) := by decide +kernel
theorem dX1_bringPallet_57 : decode cX1_bringPallet 57 = .ok (.getfield 49, 3) := by decide +kernel
theorem dX1_bringPallet_60 : decode cX1_bringPallet 60 = .ok (.invokevirtual 86, 3) := by decide +kernel
theorem dX1_bringPallet_63 : decode cX1_bringPallet 63 = .ok (.aload_n 0, 1) := by decide +kernel
theorem dX1_bringPallet_64 : decode cX1_bringPallet 64 = .ok (.dup, 1) := by decide +kernel
theorem dX1_bringPallet_65 : decode cX1_bringPallet 65 = .ok (.getfield 53, 3) := by decide +kernel
theorem dX1_bringPallet_68 : decode cX1_bringPallet 68 = .ok (.iconst 1, 1) := by decide +kernel
theorem dX1_bringPallet_69 : decode cX1_bringPallet 69 = .ok (.iadd, 1) := by decide +kernel
theorem dX1_bringPallet_70 : decode cX1_bringPallet 70 = .ok (.putfield 53, 3) := by decide +kernel
theorem dX1_bringPallet_73 : decode cX1_bringPallet 73 = .ok (.iload_n 1, 1) := by decide +kernel
theorem dX1_bringPallet_74 : decode cX1_bringPallet 74 = .ok (.ireturn, 1) := by decide +kernel
theorem dX1_mayBeBooked_0 : decode cX1_mayBeBooked 0 = .ok (.iload_n 1, 1) := by decide +kernel
theorem dX1_mayBeBooked_1 : decode cX1_mayBeBooked 1 = .ok (.iconst 1, 1) := by decide +kernel
theorem dX1_mayBeBooked_2 : decode cX1_mayBeBooked 2 = .ok (.if_icmp .lt 39, 3) := by decide +kernel
theorem dX1_mayBeBooked_5 : decode cX1_mayBeBooked 5 = .ok (.iload_n 1, 1) := by decide +kernel
theorem dX1_mayBeBooked_6 : decode cX1_mayBeBooked 6 = .ok (.bipush 6, 2) := by decide +kernel
theorem dX1_mayBeBooked_8 : decode cX1_mayBeBooked 8 = .ok (.if_icmp .gt 33, 3) := by decide +kernel
theorem dX1_mayBeBooked_11 : decode cX1_mayBeBooked 11 = .ok (.iload_n 2, 1) := by decide +kernel
theorem dX1_mayBeBooked_12 : decode cX1_mayBeBooked 12 = .ok (.aload_n 0, 1) := by decide +kernel
theorem dX1_mayBeBooked_13 : decode cX1_mayBeBooked 13 = .ok (.getfield 49, 3) := by decide +kernel
theorem dX1_mayBeBooked_16 : decode cX1_mayBeBooked 16 = .ok (.if_icmp .lt 25, 3) := by decide +kernel
theorem dX1_mayBeBooked_19 : decode cX1_mayBeBooked 19 = .ok (.iload_n 2, 1) := by decide +kernel
theorem dX1_mayBeBooked_20 : decode cX1_mayBeBooked 20 = .ok (.sipush 365, 3) := by decide +kernel
theorem dX1_mayBeBooked_23 : decode cX1_mayBeBooked 23 = .ok (.if_icmp .gt 18, 3) := by decide +kernel
theorem dX1_mayBeBooked_26 : decode cX1_mayBeBooked 26 = .ok (.iload_n 3, 1) := by decide +kernel
theorem dX1_mayBeBooked_27 : decode cX1_mayBeBooked 27 = .ok (.iconst 1, 1) := by decide +kernel
theorem dX1_mayBeBooked_28 : decode cX1_mayBeBooked 28 = .ok (.if_icmp .lt 13, 3) := by decide +kernel
theorem dX1_mayBeBooked_31 : decode cX1_mayBeBooked 31 = .ok (.iload_n 3, 1) := by decide +kernel
theorem dX1_mayBeBooked_32 : decode cX1_mayBeBooked 32 = .ok (.bipush 9, 2) := by decide +kernel
theorem dX1_mayBeBooked_34 : decode cX1_mayBeBooked 34 = .ok (.if_icmp .gt 7, 3) := by decide +kernel
theorem dX1_mayBeBooked_37 : decode cX1_mayBeBooked 37 = .ok (.iconst 1, 1) := by decide +kernel
theorem dX1_mayBeBooked_38 : decode cX1_mayBeBooked 38 = .ok (.goto 4, 3) := by decide +kernel
theorem dX1_mayBeBooked_41 : decode cX1_mayBeBooked 41 = .ok (.iconst 0, 1) := by decide +kernel
theorem dX1_mayBeBooked_42 : decode cX1_mayBeBooked 42 = .ok (.ireturn, 1) := by decide +kernel
set_option maxRecDepth 20000 in
theorem ggX1_takeBooking_X1_mayBeBooked : GoodIn wsX1_takeBooking wsX1_mayBeBooked := goodIn_r _ [7, 8, 119, 120, 121, 122, 123, 124, 125, 126, 127, 128] (by decide +kernel) (by decide +kernel)
set_option maxRecDepth 20000 in
theorem gX1_takeBooking_X1_mayBeBooked : GoodIn wsX1_takeBooking (wsV RX1 90 RX1 yX1_mayBeBooked wsX1_mayBeBooked) := goodIn_app (goodIn_of _ (by decide +kernel)) ggX1_takeBooking_X1_mayBeBooked
set_option maxRecDepth 20000 in
theorem ggX1_takeBooking_X1_copyFrom : GoodIn wsX1_takeBooking wsX1_copyFrom := goodIn_r _ [12, 13, 1, 14, 15, 16, 17, 18, 19, 8, 20, 21, 22, 23, 24, 25, 26, 27, 28, 29, 30, 31, 32, 33, 34, 35, 36, 37, 38, 39, 40, 41, 42, 43, 44, 45, 46, 47, 48, 49, 50, 51, 52, 53, 54, 119, 120, 121, 122, 123, 124, 125, 126, 127, 128, 136, 137, 138, 139, 140, 141, 142, 143, 144, 145, 146, 129, 130, 131, 132, 133, 134, 135] (by decide +kernel) (by decide +kernel)
set_option maxRecDepth 20000 in
theorem gX1_takeBooking_X1_copyFrom : GoodIn wsX1_takeBooking (wsV RX1 94 RX1 yX1_copyFrom wsX1_copyFrom) := goodIn_app (goodIn_of _ (by decide +kernel)) ggX1_takeBooking_X1_copyFrom
set_option maxRecDepth 20000 in
theorem ggX1_takeBooking_X1_wouldSuffice : GoodIn wsX1_takeBooking wsX1_wouldSuffice := goodIn_r _ [58, 1, 59, 60, 61, 45, 62, 54, 47, 49, 50, 51, 52, 53, 63, 64, 65, 66, 67, 68, 69, 6, 70, 8, 19, 13, 24, 71, 72, 73, 74, 21, 22, 23, 75, 76, 77, 78, 14, 79, 80, 81, 82, 83, 84, 85, 86, 87, 88, 89, 90, 91, 92, 93, 28, 94, 40, 30, 32, 95, 96, 97, 98, 99, 100, 101, 102, 38, 103, 104, 105, 106, 107, 108, 109, 110, 111, 112, 113, 114, 33, 39, 115, 116, 117, 118, 119, 120, 121, 122, 123, 124, 125, 126, 127, 128, 129, 130, 131, 132, 133, 134, 135, 136, 137, 138, 139, 140, 141, 142, 143, 144, 145, 146] (by decide +kernel) (by decide +kernel)
set_option maxRecDepth 20000 in
theorem gX1_takeBooking_X1_wouldSuffice : GoodIn wsX1_takeBooking (wsV RX1 97 RX1 yX1_wouldSuffice wsX1_wouldSuffice) := goodIn_app (goodIn_of _ (by decide +kernel)) ggX1_takeBooking_X1_wouldSuffice
set_option maxRecDepth 20000 in
theorem ggX1_takeBooking_X2_add : GoodIn wsX1_takeBooking wsX2_add := goodIn_r _ [62, 54, 47, 49, 50, 51, 52, 53, 129, 130, 131, 132, 133, 134, 135] (by decide +kernel) (by decide +kernel)
set_option maxRecDepth 20000 in
theorem gX1_takeBooking_X2_add : GoodIn wsX1_takeBooking (wsV RX1 103 RX2 yX2_add wsX2_add) := goodIn_app (goodIn_of _ (by decide +kernel)) ggX1_takeBooking_X2_add
theorem dX1_takeBooking_0 : decode cX1_takeBooking 0 = .ok (.aload_n 0, 1) := by decide +kernel
theorem dX1_takeBooking_1 : decode cX1_takeBooking 1 = .ok (.iload_n 1, 1) := by decide +kernel
theorem dX1_takeBooking_2 : decode cX1_takeBooking 2 = .ok (.iload_n 2, 1) := by decide +kernel
theorem dX1_takeBooking_3 : decode cX1_takeBooking 3 = .ok (.iload_n 3, 1) := by decide +kernel
theorem dX1_takeBooking_4 : decode cX1_takeBooking 4 = .ok (.invokevirtual 90, 3) := by decide +kernel
theorem dX1_takeBooking_7 : decode cX1_takeBooking 7 = .ok (.ifCond .ne 5, 3) := by decide +kernel
theorem dX1_takeBooking_10 : decode cX1_takeBooking 10 = .ok (.iconst (-1), 1) := by decide +kernel
theorem dX1_takeBooking_11 : decode cX1_takeBooking 11 = .ok (.ireturn, 1) := by decide +kernel
theorem dX1_takeBooking_12 : decode cX1_takeBooking 12 = .ok (.aload 4, 2) := by decide +kernel
theorem dX1_takeBooking_14 : decode cX1_takeBooking 14 = .ok (.aload_n 0, 1) := by decide +kernel
theorem dX1_takeBooking_15 : decode cX1_takeBooking 15 = .ok (.invokevirtual 94, 3) := by decide +kernel
theorem dX1_takeBooking_18 : decode cX1_takeBooking 18 = .ok (.aload 4, 2) := by decide +kernel
theorem dX1_takeBooking_20 : decode cX1_takeBooking 20 = .ok (.iload_n 1, 1) := by decide +kernel
theorem dX1_takeBooking_21 : decode cX1_takeBooking 21 = .ok (.iload_n 2, 1) := by decide +kernel
theorem dX1_takeBooking_22 : decode cX1_takeBooking 22 = .ok (.iload_n 3, 1) := by decide +kernel
theorem dX1_takeBooking_23 : decode cX1_takeBooking 23 = .ok (.invokevirtual 97, 3) := by decide +kernel
theorem dX1_takeBooking_26 : decode cX1_takeBooking 26 = .ok (.ifCond .ne 6, 3) := by decide +kernel
theorem dX1_takeBooking_29 : decode cX1_takeBooking 29 = .ok (.bipush (-2), 2) := by decide +kernel
theorem dX1_takeBooking_31 : decode cX1_takeBooking 31 = .ok (.ireturn, 1) := by decide +kernel
theorem dX1_takeBooking_32 : decode cX1_takeBooking 32 = .ok (.aload_n 0, 1) := by decide +kernel
theorem dX1_takeBooking_33 : decode cX1_takeBooking 33 = .ok (.getfield 21, 3) := by decide +kernel
theorem dX1_takeBooking_36 : decode cX1_takeBooking 36 = .ok (.getfield 100, 3) := by decide +kernel
theorem dX1_takeBooking_39 : decode cX1_takeBooking 39 = .ok (.bipush 16, 2) := by decide +kernel
theorem dX1_takeBooking_41 : decode cX1_takeBooking 41 = .ok (.if_icmp .lt 6, 3) := by decide +kernel
theorem dX1_takeBooking_44 : decode cX1_takeBooking 44 = .ok (.bipush (-3), 2) := by decide +kernel
theorem dX1_takeBooking_46 : decode cX1_takeBooking 46 = .ok (.ireturn, 1) := by decide +kernel
theorem dX1_takeBooking_47 : decode cX1_takeBooking 47 = .ok (.aload_n 0, 1) := by decide +kernel
theorem dX1_takeBooking_48 : decode cX1_takeBooking 48 = .ok (.getfield 21, 3) := by decide +kernel
theorem dX1_takeBooking_51 : decode cX1_takeBooking 51 = .ok (.iload_n 1, 1) := by decide +kernel
theorem dX1_takeBooking_52 : decode cX1_takeBooking 52 = .ok (.iload_n 2, 1) := by decide +kernel
theorem dX1_takeBooking_53 : decode cX1_takeBooking 53 = .ok (.iload_n 3, 1) := by decide +kernel
theorem dX1_takeBooking_54 : decode cX1_takeBooking 54 = .ok (.invokevirtual 103, 3) := by decide +kernel
theorem dX1_takeBooking_57 : decode cX1_takeBooking 57 = .ok (.aload_n 0, 1) := by decide +kernel
theorem dX1_takeBooking_58 : decode cX1_takeBooking 58 = .ok (.getfield 21, 3) := by decide +kernel
theorem dX1_takeBooking_61 : decode cX1_takeBooking 61 = .ok (.getfield 100, 3) := by decide +kernel
theorem dX1_takeBooking_64 : decode cX1_takeBooking 64 = .ok (.iconst 1, 1) := by decide +kernel
theorem dX1_takeBooking_65 : decode cX1_takeBooking 65 = .ok (.isub, 1) := by decide +kernel
theorem dX1_takeBooking_66 : decode cX1_takeBooking 66 = .ok (.ireturn, 1) := by decide +kernel
set_option maxRecDepth 20000 in
theorem ggX1_wouldSuffice_X2_add : GoodIn wsX1_wouldSuffice wsX2_add := goodIn_r _ [6, 7, 8, 9, 10, 11, 12, 13, 96, 97, 98, 99, 100, 101, 102] (by decide +kernel) (by decide +kernel)
set_option maxRecDepth 20000 in
theorem gX1_wouldSuffice_X2_add : GoodIn wsX1_wouldSuffice (wsV RX1 103 RX2 yX2_add wsX2_add) := goodIn_app (goodIn_of _ (by decide +kernel)) ggX1_wouldSuffice_X2_add
set_option maxRecDepth 20000 in
theorem ggX1_wouldSuffice_X2_anyAwaited : GoodIn wsX1_wouldSuffice wsX2_anyAwaited := goodIn_r _ [17, 7, 11, 96, 97, 98, 99, 100, 101, 102] (by decide +kernel) (by decide +kernel)
set_option maxRecDepth 20000 in
theorem gX1_wouldSuffice_X2_anyAwaited : GoodIn wsX1_wouldSuffice (wsV RX1 106 RX2 yX2_anyAwaited wsX2_anyAwaited) := goodIn_app (goodIn_of _ (by decide +kernel)) ggX1_wouldSuffice_X2_anyAwaited
set_option maxRecDepth 20000 in
theorem ggX1_wouldSuffice_X1_passNight : GoodIn wsX1_wouldSuffice wsX1_passNight := goodIn_r _ [22, 1, 23, 24, 25, 26, 27, 28, 29, 30, 31, 32, 33, 34, 35, 36, 21, 37, 38, 39, 40, 41, 5, 42, 7, 11, 12, 10, 43, 44, 45, 46, 8, 47, 48, 49, 50, 9, 13, 51, 52, 53, 54, 55, 56, 57, 58, 59, 60, 61, 62, 63, 64, 65, 66, 67, 68, 69, 70, 71, 72, 73, 74, 75, 76, 77, 78, 79, 80, 81, 82, 83, 84, 85, 86, 87, 88, 89, 90, 91, 92, 93, 94, 95, 96, 97, 98, 99, 100, 101, 102, 103, 104, 105, 106, 107, 108, 109, 110, 111, 112, 113] (by decide +kernel) (by decide +kernel)
set_option maxRecDepth 20000 in
theorem gX1_wouldSuffice_X1_passNight : GoodIn wsX1_wouldSuffice (wsV RX1 109 RX1 yX1_passNight wsX1_passNight) := goodIn_app (goodIn_of _ (by decide +kernel)) ggX1_wouldSuffice_X1_passNight
theorem dX1_wouldSuffice_0 : decode cX1_wouldSuffice 0 = .ok (.aload_n 0, 1) := by decide +kernel
theorem dX1_wouldSuffice_1 : decode cX1_wouldSuffice 1 = .ok (.getfield 21, 3) := by decide +kernel
theorem dX1_wouldSuffice_4 : decode cX1_wouldSuffice 4 = .ok (.iload_n 1, 1) := by decide +kernel
theorem dX1_wouldSuffice_5 : decode cX1_wouldSuffice 5 = .ok (.iload_n 2, 1) := by decide +kernel
theorem dX1_wouldSuffice_6 : decode cX1_wouldSuffice 6 = .ok (.iload_n 3, 1) := by decide +kernel
theorem dX1_wouldSuffice_7 : decode cX1_wouldSuffice 7 = .ok (.invokevirtual 103, 3) := by decide +kernel
theorem dX1_wouldSuffice_10 : decode cX1_wouldSuffice 10 = .ok (.iconst 0, 1) := by decide +kernel
theorem dX1_wouldSuffice_11 : decode cX1_wouldSuffice 11 = .ok (.istore 4, 2) := by decide +kernel
theorem dX1_wouldSuffice_13 : decode cX1_wouldSuffice 13 = .ok (.iload 4, 2) := by decide +kernel
theorem dX1_wouldSuffice_15 : decode cX1_wouldSuffice 15 = .ok (.sipush 1000, 3) := by decide +kernel
theorem dX1_wouldSuffice_18 : decode cX1_wouldSuffice 18 = .ok (.if_icmp .ge 28, 3) := by decide +kernel
theorem dX1_wouldSuffice_21 : decode cX1_wouldSuffice 21 = .ok (.aload_n 0, 1) := by decide +kernel
theorem dX1_wouldSuffice_22 : decode cX1_wouldSuffice 22 = .ok (.getfield 21, 3) := by decide +kernel
theorem dX1_wouldSuffice_25 : decode cX1_wouldSuffice 25 = .ok (.invokevirtual 106, 3) := by decide +kernel
theorem dX1_wouldSuffice_28 : decode cX1_wouldSuffice 28 = .ok (.ifCond .eq 18, 3) := by decide +kernel
theorem dX1_wouldSuffice_31 : decode cX1_wouldSuffice 31 = .ok (.aload_n 0, 1) := by decide +kernel
theorem dX1_wouldSuffice_32 : decode cX1_wouldSuffice 32 = .ok (.invokevirtual 109, 3) := by decide +kernel
theorem dX1_wouldSuffice_35 : decode cX1_wouldSuffice 35 = .ok (.ifCond .ne 5, 3) := by decide +kernel
theorem dX1_wouldSuffice_38 : decode cX1_wouldSuffice 38 = .ok (.iconst 0, 1) := by decide +kernel
theorem dX1_wouldSuffice_39 : decode cX1_wouldSuffice 39 = .ok (.ireturn, 1) := by decide +kernel
theorem dX1_wouldSuffice_40 : decode cX1_wouldSuffice 40 = .ok (.iinc 4 1, 3) := by decide +kernel
theorem dX1_wouldSuffice_43 : decode cX1_wouldSuffice 43 = .ok (.goto (-30), 3) := by decide +kernel
theorem dX1_wouldSuffice_46 : decode cX1_wouldSuffice 46 = .ok (.iconst 1, 1) := by decide +kernel
theorem dX1_wouldSuffice_47 : decode cX1_wouldSuffice 47 = .ok (.ireturn, 1) := by decide +kernel
set_option maxRecDepth 20000 in
theorem ggX1_callOff_X2_has : GoodIn wsX1_callOff wsX2_has := goodIn_r _ [7, 8, 24, 25, 26, 27, 28, 29, 30] (by decide +kernel) (by decide +kernel)
set_option maxRecDepth 20000 in
theorem gX1_callOff_X2_has : GoodIn wsX1_callOff (wsV RX1 112 RX2 yX2_has wsX2_has) := goodIn_app (goodIn_of _ (by decide +kernel)) ggX1_callOff_X2_has
set_option maxRecDepth 20000 in
theorem ggX1_callOff_X2_withStatus : GoodIn wsX1_callOff wsX2_withStatus := goodIn_r _ [12, 8, 13, 24, 25, 26, 27, 28, 29, 30] (by decide +kernel) (by decide +kernel)
set_option maxRecDepth 20000 in
theorem gX1_callOff_X2_withStatus : GoodIn wsX1_callOff (wsV RX1 118 RX2 yX2_withStatus wsX2_withStatus) := goodIn_app (goodIn_of _ (by decide +kernel)) ggX1_callOff_X2_withStatus
theorem dX1_callOff_0 : decode cX1_callOff 0 = .ok (.aload_n 0, 1) := by decide +kernel
theorem dX1_callOff_1 : decode cX1_callOff 1 = .ok (.getfield 21, 3) := by decide +kernel
theorem dX1_callOff_4 : decode cX1_callOff 4 = .ok (.iload_n 1, 1) := by decide +kernel
theorem dX1_callOff_5 : decode cX1_callOff 5 = .ok (.invokevirtual 112, 3) := by decide +kernel
theorem dX1_callOff_8 : decode cX1_callOff 8 = .ok (.ifCond .ne 5, 3) := by decide +kernel
theorem dX1_callOff_11 : decode cX1_callOff 11 = .ok (.iconst (-1), 1) := by decide +kernel
theorem dX1_callOff_12 : decode cX1_callOff 12 = .ok (.ireturn, 1) := by decide +kernel
theorem dX1_callOff_13 : decode cX1_callOff 13 = .ok (.aload_n 0, 1) := by decide +kernel
theorem dX1_callOff_14 : decode cX1_callOff 14 = .ok (.getfield 21, 3) := by decide +kernel
theorem dX1_callOff_17 : decode cX1_callOff 17 = .ok (.getfield 115, 3) := by decide +kernel
theorem dX1_callOff_20 : decode cX1_callOff 20 = .ok (.iload_n 1, 1) := by decide +kernel
theorem dX1_callOff_21 : decode cX1_callOff 21 = .ok (.iaload, 1) := by decide +kernel
theorem dX1_callOff_22 : decode cX1_callOff 22 = .ok (.ifCond .eq 6, 3) := by decide +kernel
theorem dX1_callOff_25 : decode cX1_callOff 25 = .ok (.bipush (-2), 2) := by decide +kernel
theorem dX1_callOff_27 : decode cX1_callOff 27 = .ok (.ireturn, 1) := by decide +kernel
theorem dX1_callOff_28 : decode cX1_callOff 28 = .ok (.aload_n 0, 1) := by decide +kernel
theorem dX1_callOff_29 : decode cX1_callOff 29 = .ok (.getfield 21, 3) := by decide +kernel
theorem dX1_callOff_32 : decode cX1_callOff 32 = .ok (.getfield 115, 3) := by decide +kernel
theorem dX1_callOff_35 : decode cX1_callOff 35 = .ok (.iload_n 1, 1) := by decide +kernel
theorem dX1_callOff_36 : decode cX1_callOff 36 = .ok (.iconst 3, 1) := by decide +kernel
theorem dX1_callOff_37 : decode cX1_callOff 37 = .ok (.iastore, 1) := by decide +kernel
theorem dX1_callOff_38 : decode cX1_callOff 38 = .ok (.aload_n 0, 1) := by decide +kernel
theorem dX1_callOff_39 : decode cX1_callOff 39 = .ok (.getfield 21, 3) := by decide +kernel
theorem dX1_callOff_42 : decode cX1_callOff 42 = .ok (.iconst 0, 1) := by decide +kernel
theorem dX1_callOff_43 : decode cX1_callOff 43 = .ok (.invokevirtual 118, 3) := by decide +kernel
theorem dX1_callOff_46 : decode cX1_callOff 46 = .ok (.ireturn, 1) := by decide +kernel
theorem dX1_tellStorm_0 : decode cX1_tellStorm 0 = .ok (.iload_n 1, 1) := by decide +kernel
theorem dX1_tellStorm_1 : decode cX1_tellStorm 1 = .ok (.aload_n 0, 1) := by decide +kernel
theorem dX1_tellStorm_2 : decode cX1_tellStorm 2 = .ok (.getfield 49, 3) := by decide +kernel
theorem dX1_tellStorm_5 : decode cX1_tellStorm 5 = .ok (.if_icmp .lt 21, 3) := by decide +kernel
theorem dX1_tellStorm_8 : decode cX1_tellStorm 8 = .ok (.iload_n 1, 1) := by decide +kernel
theorem dX1_tellStorm_9 : decode cX1_tellStorm 9 = .ok (.sipush 365, 3) := by decide +kernel
theorem dX1_tellStorm_12 : decode cX1_tellStorm 12 = .ok (.if_icmp .gt 14, 3) := by decide +kernel
theorem dX1_tellStorm_15 : decode cX1_tellStorm 15 = .ok (.iload_n 2, 1) := by decide +kernel
theorem dX1_tellStorm_16 : decode cX1_tellStorm 16 = .ok (.iconst 1, 1) := by decide +kernel
theorem dX1_tellStorm_17 : decode cX1_tellStorm 17 = .ok (.if_icmp .lt 9, 3) := by decide +kernel
theorem dX1_tellStorm_20 : decode cX1_tellStorm 20 = .ok (.iload_n 2, 1) := by decide +kernel
theorem dX1_tellStorm_21 : decode cX1_tellStorm 21 = .ok (.bipush 30, 2) := by decide +kernel
theorem dX1_tellStorm_23 : decode cX1_tellStorm 23 = .ok (.if_icmp .le 5, 3) := by decide +kernel
theorem dX1_tellStorm_26 : decode cX1_tellStorm 26 = .ok (.iconst (-1), 1) := by decide +kernel
theorem dX1_tellStorm_27 : decode cX1_tellStorm 27 = .ok (.ireturn, 1) := by decide +kernel
theorem dX1_tellStorm_28 : decode cX1_tellStorm 28 = .ok (.iload_n 1, 1) := by decide +kernel
theorem dX1_tellStorm_29 : decode cX1_tellStorm 29 = .ok (.iload_n 2, 1) := by decide +kernel
theorem dX1_tellStorm_30 : decode cX1_tellStorm 30 = .ok (.iadd, 1) := by decide +kernel
theorem dX1_tellStorm_31 : decode cX1_tellStorm 31 = .ok (.istore_n 3, 1) := by decide +kernel
theorem dX1_tellStorm_32 : decode cX1_tellStorm 32 = .ok (.iconst 0, 1) := by decide +kernel
theorem dX1_tellStorm_33 : decode cX1_tellStorm 33 = .ok (.istore 4, 2) := by decide +kernel
theorem dX1_tellStorm_35 : decode cX1_tellStorm 35 = .ok (.aload_n 0, 1) := by decide +kernel
theorem dX1_tellStorm_36 : decode cX1_tellStorm 36 = .ok (.getfield 49, 3) := by decide +kernel
theorem dX1_tellStorm_39 : decode cX1_tellStorm 39 = .ok (.istore 5, 2) := by decide +kernel
theorem dX1_tellStorm_41 : decode cX1_tellStorm 41 = .ok (.iload 5, 2) := by decide +kernel
theorem dX1_tellStorm_43 : decode cX1_tellStorm 43 = .ok (.aload_n 0, 1) := by decide +kernel
theorem dX1_tellStorm_44 : decode cX1_tellStorm 44 = .ok (.getfield 25, 3) := by decide +kernel
theorem dX1_tellStorm_47 : decode cX1_tellStorm 47 = .ok (.arraylength, 1) := by decide +kernel
theorem dX1_tellStorm_48 : decode cX1_tellStorm 48 = .ok (.if_icmp .ge 34, 3) := by decide +kernel
theorem dX1_tellStorm_51 : decode cX1_tellStorm 51 = .ok (.aload_n 0, 1) := by decide +kernel
theorem dX1_tellStorm_52 : decode cX1_tellStorm 52 = .ok (.getfield 25, 3) := by decide +kernel
theorem dX1_tellStorm_55 : decode cX1_tellStorm 55 = .ok (.iload 5, 2) := by decide +kernel
theorem dX1_tellStorm_57 : decode cX1_tellStorm 57 = .ok (.baload, 1) := by decide +kernel
theorem dX1_tellStorm_58 : decode cX1_tellStorm 58 = .ok (.ifCond .ne 15, 3) := by decide +kernel
theorem dX1_tellStorm_61 : decode cX1_tellStorm 61 = .ok (.iload 5, 2) := by decide +kernel
theorem dX1_tellStorm_63 : decode cX1_tellStorm 63 = .ok (.iload_n 1, 1) := by decide +kernel
theorem dX1_tellStorm_64 : decode cX1_tellStorm 64 = .ok (.if_icmp .lt 12, 3) := by decide +kernel
theorem dX1_tellStorm_67 : decode cX1_tellStorm 67 = .ok (.iload 5, 2) := by decide +kernel
theorem dX1_tellStorm_69 : decode cX1_tellStorm 69 = .ok (.iload_n 3, 1) := by decide +kernel
theorem dX1_tellStorm_70 : decode cX1_tellStorm 70 = .ok (.if_icmp .ge 6, 3) := by decide +kernel
theorem dX1_tellStorm_73 : decode cX1_tellStorm 73 = .ok (.iinc 4 1, 3) := by decide +kernel
theorem dX1_tellStorm_76 : decode cX1_tellStorm 76 = .ok (.iinc 5 1, 3) := by decide +kernel
theorem dX1_tellStorm_79 : decode cX1_tellStorm 79 = .ok (.goto (-38), 3) := by decide +kernel
theorem dX1_tellStorm_82 : decode cX1_tellStorm 82 = .ok (.iload 4, 2) := by decide +kernel
theorem dX1_tellStorm_84 : decode cX1_tellStorm 84 = .ok (.bipush 40, 2) := by decide +kernel
theorem dX1_tellStorm_86 : decode cX1_tellStorm 86 = .ok (.if_icmp .le 6, 3) := by decide +kernel
theorem dX1_tellStorm_89 : decode cX1_tellStorm 89 = .ok (.bipush (-3), 2) := by decide +kernel
theorem dX1_tellStorm_91 : decode cX1_tellStorm 91 = .ok (.ireturn, 1) := by decide +kernel
theorem dX1_tellStorm_92 : decode cX1_tellStorm 92 = .ok (.iload_n 1, 1) := by decide +kernel
theorem dX1_tellStorm_93 : decode cX1_tellStorm 93 = .ok (.istore 5, 2) := by decide +kernel
theorem dX1_tellStorm_95 : decode cX1_tellStorm 95 = .ok (.iload 5, 2) := by decide +kernel
theorem dX1_tellStorm_97 : decode cX1_tellStorm 97 = .ok (.iload_n 3, 1) := by decide +kernel
theorem dX1_tellStorm_98 : decode cX1_tellStorm 98 = .ok (.if_icmp .ge 27, 3) := by decide +kernel
theorem dX1_tellStorm_101 : decode cX1_tellStorm 101 = .ok (.iload 5, 2) := by decide +kernel
theorem dX1_tellStorm_103 : decode cX1_tellStorm 103 = .ok (.aload_n 0, 1) := by decide +kernel
theorem dX1_tellStorm_104 : decode cX1_tellStorm 104 = .ok (.getfield 25, 3) := by decide +kernel
theorem dX1_tellStorm_107 : decode cX1_tellStorm 107 = .ok (.arraylength, 1) := by decide +kernel
theorem dX1_tellStorm_108 : decode cX1_tellStorm 108 = .ok (.if_icmp .ge 17, 3) := by decide +kernel
theorem dX1_tellStorm_111 : decode cX1_tellStorm 111 = .ok (.aload_n 0, 1) := by decide +kernel
theorem dX1_tellStorm_112 : decode cX1_tellStorm 112 = .ok (.getfield 25, 3) := by decide +kernel
theorem dX1_tellStorm_115 : decode cX1_tellStorm 115 = .ok (.iload 5, 2) := by decide +kernel
theorem dX1_tellStorm_117 : decode cX1_tellStorm 117 = .ok (.iconst 1, 1) := by decide +kernel
theorem dX1_tellStorm_118 : decode cX1_tellStorm 118 = .ok (.bastore, 1) := by decide +kernel
theorem dX1_tellStorm_119 : decode cX1_tellStorm 119 = .ok (.iinc 5 1, 3) := by decide +kernel
theorem dX1_tellStorm_122 : decode cX1_tellStorm 122 = .ok (.goto (-27), 3) := by decide +kernel
theorem dX1_tellStorm_125 : decode cX1_tellStorm 125 = .ok (.iload 4, 2) := by decide +kernel
theorem dX1_tellStorm_127 : decode cX1_tellStorm 127 = .ok (.ireturn, 1) := by decide +kernel
theorem dX1_tellCalm_0 : decode cX1_tellCalm 0 = .ok (.iload_n 1, 1) := by decide +kernel
theorem dX1_tellCalm_1 : decode cX1_tellCalm 1 = .ok (.aload_n 0, 1) := by decide +kernel
theorem dX1_tellCalm_2 : decode cX1_tellCalm 2 = .ok (.getfield 49, 3) := by decide +kernel
theorem dX1_tellCalm_5 : decode cX1_tellCalm 5 = .ok (.if_icmp .lt 10, 3) := by decide +kernel
theorem dX1_tellCalm_8 : decode cX1_tellCalm 8 = .ok (.iload_n 1, 1) := by decide +kernel
theorem dX1_tellCalm_9 : decode cX1_tellCalm 9 = .ok (.sipush 395, 3) := by decide +kernel
theorem dX1_tellCalm_12 : decode cX1_tellCalm 12 = .ok (.if_icmp .le 5, 3) := by decide +kernel
theorem dX1_tellCalm_15 : decode cX1_tellCalm 15 = .ok (.iconst (-1), 1) := by decide +kernel
theorem dX1_tellCalm_16 : decode cX1_tellCalm 16 = .ok (.ireturn, 1) := by decide +kernel
theorem dX1_tellCalm_17 : decode cX1_tellCalm 17 = .ok (.aload_n 0, 1) := by decide +kernel
theorem dX1_tellCalm_18 : decode cX1_tellCalm 18 = .ok (.getfield 25, 3) := by decide +kernel
theorem dX1_tellCalm_21 : decode cX1_tellCalm 21 = .ok (.iload_n 1, 1) := by decide +kernel
theorem dX1_tellCalm_22 : decode cX1_tellCalm 22 = .ok (.baload, 1) := by decide +kernel
theorem dX1_tellCalm_23 : decode cX1_tellCalm 23 = .ok (.istore_n 2, 1) := by decide +kernel
theorem dX1_tellCalm_24 : decode cX1_tellCalm 24 = .ok (.aload_n 0, 1) := by decide +kernel
theorem dX1_tellCalm_25 : decode cX1_tellCalm 25 = .ok (.getfield 25, 3) := by decide +kernel
theorem dX1_tellCalm_28 : decode cX1_tellCalm 28 = .ok (.iload_n 1, 1) := by decide +kernel
theorem dX1_tellCalm_29 : decode cX1_tellCalm 29 = .ok (.iconst 0, 1) := by decide +kernel
theorem dX1_tellCalm_30 : decode cX1_tellCalm 30 = .ok (.bastore, 1) := by decide +kernel
theorem dX1_tellCalm_31 : decode cX1_tellCalm 31 = .ok (.iload_n 2, 1) := by decide +kernel
theorem dX1_tellCalm_32 : decode cX1_tellCalm 32 = .ok (.ifCond .eq 7, 3) := by decide +kernel
theorem dX1_tellCalm_35 : decode cX1_tellCalm 35 = .ok (.iconst 1, 1) := by decide +kernel
theorem dX1_tellCalm_36 : decode cX1_tellCalm 36 = .ok (.goto 4, 3) := by decide +kernel
theorem dX1_tellCalm_39 : decode cX1_tellCalm 39 = .ok (.iconst 0, 1) := by decide +kernel
theorem dX1_tellCalm_40 : decode cX1_tellCalm 40 = .ok (.ireturn, 1) := by decide +kernel
theorem dX1_isStorm_0 : decode cX1_isStorm 0 = .ok (.aload_n 0, 1) := by decide +kernel
theorem dX1_isStorm_1 : decode cX1_isStorm 1 = .ok (.getfield 49, 3) := by decide +kernel
theorem dX1_isStorm_4 : decode cX1_isStorm 4 = .ok (.aload_n 0, 1) := by decide +kernel
theorem dX1_isStorm_5 : decode cX1_isStorm 5 = .ok (.getfield 25, 3) := by decide +kernel
theorem dX1_isStorm_8 : decode cX1_isStorm 8 = .ok (.arraylength, 1) := by decide +kernel
theorem dX1_isStorm_9 : decode cX1_isStorm 9 = .ok (.if_icmp .ge 19, 3) := by decide +kernel
theorem dX1_isStorm_12 : decode cX1_isStorm 12 = .ok (.aload_n 0, 1) := by decide +kernel
theorem dX1_isStorm_13 : decode cX1_isStorm 13 = .ok (.getfield 25, 3) := by decide +kernel
theorem dX1_isStorm_16 : decode cX1_isStorm 16 = .ok (.aload_n 0, 1) := by decide +kernel
theorem dX1_isStorm_17 : decode cX1_isStorm 17 = .ok (.getfield 49, 3) := by decide +kernel
theorem dX1_isStorm_20 : decode cX1_isStorm 20 = .ok (.baload, 1) := by decide +kernel
theorem dX1_isStorm_21 : decode cX1_isStorm 21 = .ok (.ifCond .eq 7, 3) := by decide +kernel
theorem dX1_isStorm_24 : decode cX1_isStorm 24 = .ok (.iconst 1, 1) := by decide +kernel
theorem dX1_isStorm_25 : decode cX1_isStorm 25 = .ok (.goto 4, 3) := by decide +kernel
theorem dX1_isStorm_28 : decode cX1_isStorm 28 = .ok (.iconst 0, 1) := by decide +kernel
theorem dX1_isStorm_29 : decode cX1_isStorm 29 = .ok (.ireturn, 1) := by decide +kernel
set_option maxRecDepth 20000 in
theorem ggX1_passNights_X1_passNight : GoodIn wsX1_passNights wsX1_passNight := goodIn_r _ [7, 8, 1, 9, 10, 11, 12, 13, 14, 15, 2, 16, 17, 18, 19, 20, 6, 21, 22, 23, 24, 25, 26, 27, 28, 29, 30, 31, 32, 33, 34, 35, 36, 37, 38, 39, 40, 41, 42, 43, 44, 45, 46, 47, 48, 49, 50, 51, 52, 53, 54, 55, 56, 57, 58, 59, 60, 61, 62, 63, 64, 65, 66, 67, 68, 69, 70, 71, 72, 73, 74, 75, 76, 77, 78, 79, 80, 81, 82, 83, 84, 85, 86, 87, 88, 89, 90, 91, 92, 93, 94, 95, 96, 97, 98, 99, 100, 101, 102, 103, 104, 105] (by decide +kernel) (by decide +kernel)
set_option maxRecDepth 20000 in
theorem gX1_passNights_X1_passNight : GoodIn wsX1_passNights (wsV RX1 109 RX1 yX1_passNight wsX1_passNight) := goodIn_app (goodIn_of _ (by decide +kernel)) ggX1_passNights_X1_passNight
theorem dX1_passNights_0 : decode cX1_passNights 0 = .ok (.iload_n 1, 1) := by decide +kernel
theorem dX1_passNights_1 : decode cX1_passNights 1 = .ok (.iconst 1, 1) := by decide +kernel
theorem dX1_passNights_2 : decode cX1_passNights 2 = .ok (.if_icmp .lt 9, 3) := by decide +kernel
theorem dX1_passNights_5 : decode cX1_passNights 5 = .ok (.iload_n 1, 1) := by decide +kernel
theorem dX1_passNights_6 : decode cX1_passNights 6 = .ok (.bipush 60, 2) := by decide +kernel
theorem dX1_passNights_8 : decode cX1_passNights 8 = .ok (.if_icmp .le 5, 3) := by decide +kernel
theorem dX1_passNights_11 : decode cX1_passNights 11 = .ok (.iconst (-1), 1) := by decide +kernel
theorem dX1_passNights_12 : decode cX1_passNights 12 = .ok (.ireturn, 1) := by decide +kernel
theorem dX1_passNights_13 : decode cX1_passNights 13 = .ok (.aload_n 0, 1) := by decide +kernel
theorem dX1_passNights_14 : decode cX1_passNights 14 = .ok (.getfield 49, 3) := by decide +kernel
theorem dX1_passNights_17 : decode cX1_passNights 17 = .ok (.iload_n 1, 1) := by decide +kernel
theorem dX1_passNights_18 : decode cX1_passNights 18 = .ok (.iadd, 1) := by decide +kernel
theorem dX1_passNights_19 : decode cX1_passNights 19 = .ok (.sipush 365, 3) := by decide +kernel
theorem dX1_passNights_22 : decode cX1_passNights 22 = .ok (.if_icmp .le 6, 3) := by decide +kernel
theorem dX1_passNights_25 : decode cX1_passNights 25 = .ok (.bipush (-3), 2) := by decide +kernel
theorem dX1_passNights_27 : decode cX1_passNights 27 = .ok (.ireturn, 1) := by decide +kernel
theorem dX1_passNights_28 : decode cX1_passNights 28 = .ok (.aload_n 0, 1) := by decide +kernel
theorem dX1_passNights_29 : decode cX1_passNights 29 = .ok (.getfield 56, 3) := by decide +kernel
theorem dX1_passNights_32 : decode cX1_passNights 32 = .ok (.istore_n 2, 1) := by decide +kernel
theorem dX1_passNights_33 : decode cX1_passNights 33 = .ok (.iconst 0, 1) := by decide +kernel
theorem dX1_passNights_34 : decode cX1_passNights 34 = .ok (.istore_n 3, 1) := by decide +kernel
theorem dX1_passNights_35 : decode cX1_passNights 35 = .ok (.iload_n 3, 1) := by decide +kernel
theorem dX1_passNights_36 : decode cX1_passNights 36 = .ok (.iload_n 1, 1) := by decide +kernel
theorem dX1_passNights_37 : decode cX1_passNights 37 = .ok (.if_icmp .ge 14, 3) := by decide +kernel
theorem dX1_passNights_40 : decode cX1_passNights 40 = .ok (.aload_n 0, 1) := by decide +kernel
theorem dX1_passNights_41 : decode cX1_passNights 41 = .ok (.invokevirtual 109, 3) := by decide +kernel
theorem dX1_passNights_44 : decode cX1_passNights 44 = .ok (.pop, 1) := by decide +kernel
theorem dX1_passNights_45 : decode cX1_passNights 45 = .ok (.iinc 3 1, 3) := by decide +kernel
theorem dX1_passNights_48 : decode cX1_passNights 48 = .ok (.goto (-13), 3) := by decide +kernel
theorem dX1_passNights_51 : decode cX1_passNights 51 = .ok (.aload_n 0, 1) := by decide +kernel
theorem dX1_passNights_52 : decode cX1_passNights 52 = .ok (.getfield 56, 3) := by decide +kernel
theorem dX1_passNights_55 : decode cX1_passNights 55 = .ok (.iload_n 2, 1) := by decide +kernel
theorem dX1_passNights_56 : decode cX1_passNights 56 = .ok (.isub, 1) := by decide +kernel
theorem dX1_passNights_57 : decode cX1_passNights 57 = .ok (.ireturn, 1) := by decide +kernel
set_option maxRecDepth 20000 in
theorem ggX1_passNight_X1_isStorm : GoodIn wsX1_passNight wsX1_isStorm := goodIn_r _ [17, 2, 18, 74, 75, 76, 77, 78, 79, 80, 81, 82, 83] (by decide +kernel) (by decide +kernel)
set_option maxRecDepth 20000 in
theorem gX1_passNight_X1_isStorm : GoodIn wsX1_passNight (wsV RX1 79 RX1 yX1_isStorm wsX1_isStorm) := goodIn_app (goodIn_of _ (by decide +kernel)) ggX1_passNight_X1_isStorm
set_option maxRecDepth 20000 in
theorem ggX1_passNight_X2_leave : GoodIn wsX1_passNight wsX2_leave := goodIn_r _ [23, 24, 25, 26, 27, 84, 85, 86, 87, 88, 89, 90] (by decide +kernel) (by decide +kernel)
set_option maxRecDepth 20000 in
theorem gX1_passNight_X2_leave : GoodIn wsX1_passNight (wsV RX1 122 RX2 yX2_leave wsX2_leave) := goodIn_app (goodIn_of _ (by decide +kernel)) ggX1_passNight_X2_leave
set_option maxRecDepth 20000 in
theorem ggX1_passNight_X2_guests : GoodIn wsX1_passNight wsX2_guests := goodIn_r _ [31, 24, 25, 32, 84, 85, 86, 87, 88, 89, 90] (by decide +kernel) (by decide +kernel)
set_option maxRecDepth 20000 in
theorem gX1_passNight_X2_guests : GoodIn wsX1_passNight (wsV RX1 125 RX2 yX2_guests wsX2_guests) := goodIn_app (goodIn_of _ (by decide +kernel)) ggX1_passNight_X2_guests
set_option maxRecDepth 20000 in
theorem ggX1_passNight_X2_arrive : GoodIn wsX1_passNight wsX2_arrive := goodIn_r _ [36, 24, 25, 37, 27, 32, 38, 84, 85, 86, 87, 88, 89, 90] (by decide +kernel) (by decide +kernel)
set_option maxRecDepth 20000 in
theorem gX1_passNight_X2_arrive : GoodIn wsX1_passNight (wsV RX1 129 RX2 yX2_arrive wsX2_arrive) := goodIn_app (goodIn_of _ (by decide +kernel)) ggX1_passNight_X2_arrive
set_option maxRecDepth 20000 in
theorem ggX1_passNight_X4_stock : GoodIn wsX1_passNight wsX4_stock := goodIn_r _ [43, 44, 45, 46, 91, 92, 93, 94, 95, 96, 97, 98, 99, 100, 101] (by decide +kernel) (by decide +kernel)
set_option maxRecDepth 20000 in
theorem gX1_passNight_X4_stock : GoodIn wsX1_passNight (wsV RX1 133 RX4 yX4_stock wsX4_stock) := goodIn_app (goodIn_of _ (by decide +kernel)) ggX1_passNight_X4_stock
set_option maxRecDepth 20000 in
theorem ggX1_passNight_X1_rationFor : GoodIn wsX1_passNight wsX1_rationFor := goodIn_r _ [50, 3, 74, 75, 76, 77, 78, 79, 80, 81, 82, 83] (by decide +kernel) (by decide +kernel)
set_option maxRecDepth 20000 in
theorem gX1_passNight_X1_rationFor : GoodIn wsX1_passNight (wsV RX1 136 RX1 yX1_rationFor wsX1_rationFor) := goodIn_app (goodIn_of _ (by decide +kernel)) ggX1_passNight_X1_rationFor
set_option maxRecDepth 20000 in
theorem ggX1_passNight_X4_take : GoodIn wsX1_passNight wsX4_take := goodIn_r _ [54, 44, 45, 46, 55, 91, 92, 93, 94, 95, 96, 97, 98, 99, 100, 101] (by decide +kernel) (by decide +kernel)
set_option maxRecDepth 20000 in
theorem gX1_passNight_X4_take : GoodIn wsX1_passNight (wsV RX1 140 RX4 yX4_take wsX4_take) := goodIn_app (goodIn_of _ (by decide +kernel)) ggX1_passNight_X4_take
set_option maxRecDepth 20000 in
theorem ggX1_passNight_X1_gasFor : GoodIn wsX1_passNight wsX1_gasFor := goodIn_r _ [59] (by decide +kernel) (by decide +kernel)
set_option maxRecDepth 20000 in
theorem gX1_passNight_X1_gasFor : GoodIn wsX1_passNight (wsV RX1 148 RX1 yX1_gasFor wsX1_gasFor) := goodIn_app (goodIn_of _ (by decide +kernel)) ggX1_passNight_X1_gasFor
set_option maxRecDepth 20000 in
theorem ggX1_passNight_X2_sleepOnce : GoodIn wsX1_passNight wsX2_sleepOnce := goodIn_r _ [63, 24, 25, 26, 84, 85, 86, 87, 88, 89, 90] (by decide +kernel) (by decide +kernel)
set_option maxRecDepth 20000 in
theorem gX1_passNight_X2_sleepOnce : GoodIn wsX1_passNight (wsV RX1 152 RX2 yX2_sleepOnce wsX2_sleepOnce) := goodIn_app (goodIn_of _ (by decide +kernel)) ggX1_passNight_X2_sleepOnce
set_option maxRecDepth 20000 in
theorem ggX1_passNight_X4_spoil : GoodIn wsX1_passNight wsX4_spoil := goodIn_r _ [67, 44, 45, 68, 69, 46, 91, 92, 93, 94, 95, 96, 97, 98, 99, 100, 101] (by decide +kernel) (by decide +kernel)
set_option maxRecDepth 20000 in
theorem gX1_passNight_X4_spoil : GoodIn wsX1_passNight (wsV RX1 155 RX4 yX4_spoil wsX4_spoil) := goodIn_app (goodIn_of _ (by decide +kernel)) ggX1_passNight_X4_spoil
set_option maxRecDepth 20000 in
theorem ggX1_passNight_X4_dropEmptyLots : GoodIn wsX1_passNight wsX4_dropEmptyLots := goodIn_r _ [73, 44, 46, 45, 68, 91, 92, 93, 94, 95, 96, 97, 98, 99, 100, 101] (by decide +kernel) (by decide +kernel)
set_option maxRecDepth 20000 in
theorem gX1_passNight_X4_dropEmptyLots : GoodIn wsX1_passNight (wsV RX1 158 RX4 yX4_dropEmptyLots wsX4_dropEmptyLots) := goodIn_app (goodIn_of _ (by decide +kernel)) ggX1_passNight_X4_dropEmptyLots
theorem dX1_passNight_0 : decode cX1_passNight 0 = .ok (.aload_n 0, 1) := by decide +kernel
theorem dX1_passNight_1 : decode cX1_passNight 1 = .ok (.invokevirtual 79, 3) := by decide +kernel
theorem dX1_passNight_4 : decode cX1_passNight 4 = .ok (.istore_n 1, 1) := by decide +kernel
theorem dX1_passNight_5 : decode cX1_passNight 5 = .ok (.iload_n 1, 1) := by decide +kernel
theorem dX1_passNight_6 : decode cX1_passNight 6 = .ok (.ifCond .ne 10, 3) := by decide +kernel
theorem dX1_passNight_9 : decode cX1_passNight 9 = .ok (.aload_n 0, 1) := by decide +kernel
theorem dX1_passNight_10 : decode cX1_passNight 10 = .ok (.getfield 21, 3) := by decide +kernel
theorem dX1_passNight_13 : decode cX1_passNight 13 = .ok (.invokevirtual 122, 3) := by decide +kernel
theorem dX1_passNight_16 : decode cX1_passNight 16 = .ok (.aload_n 0, 1) := by decide +kernel
theorem dX1_passNight_17 : decode cX1_passNight 17 = .ok (.getfield 21, 3) := by decide +kernel
theorem dX1_passNight_20 : decode cX1_passNight 20 = .ok (.aload_n 0, 1) := by decide +kernel
theorem dX1_passNight_21 : decode cX1_passNight 21 = .ok (.getfield 49, 3) := by decide +kernel
theorem dX1_passNight_24 : decode cX1_passNight 24 = .ok (.iload_n 1, 1) := by decide +kernel
theorem dX1_passNight_25 : decode cX1_passNight 25 = .ok (.aload_n 0, 1) := by decide +kernel
theorem dX1_passNight_26 : decode cX1_passNight 26 = .ok (.getfield 29, 3) := by decide +kernel
theorem dX1_passNight_29 : decode cX1_passNight 29 = .ok (.iconst 0, 1) := by decide +kernel
theorem dX1_passNight_30 : decode cX1_passNight 30 = .ok (.iaload, 1) := by decide +kernel
theorem dX1_passNight_31 : decode cX1_passNight 31 = .ok (.aload_n 0, 1) := by decide +kernel
theorem dX1_passNight_32 : decode cX1_passNight 32 = .ok (.getfield 21, 3) := by decide +kernel
theorem dX1_passNight_35 : decode cX1_passNight 35 = .ok (.invokevirtual 125, 3) := by decide +kernel
theorem dX1_passNight_38 : decode cX1_passNight 38 = .ok (.isub, 1) := by decide +kernel
theorem dX1_passNight_39 : decode cX1_passNight 39 = .ok (.invokevirtual 129, 3) := by decide +kernel
theorem dX1_passNight_42 : decode cX1_passNight 42 = .ok (.istore_n 2, 1) := by decide +kernel
theorem dX1_passNight_43 : decode cX1_passNight 43 = .ok (.aload_n 0, 1) := by decide +kernel
theorem dX1_passNight_44 : decode cX1_passNight 44 = .ok (.getfield 21, 3) := by decide +kernel
theorem dX1_passNight_47 : decode cX1_passNight 47 = .ok (.invokevirtual 125, 3) := by decide +kernel
theorem dX1_passNight_50 : decode cX1_passNight 50 = .ok (.istore_n 3, 1) := by decide +kernel
theorem dX1_passNight_51 : decode cX1_passNight 51 = .ok (.aload_n 0, 1) := by decide +kernel
theorem dX1_passNight_52 : decode cX1_passNight 52 = .ok (.iload_n 3, 1) := by decide +kernel
theorem dX1_passNight_53 : decode cX1_passNight 53 = .ok (.aload_n 0, 1) := by decide +kernel
theorem dX1_passNight_54 : decode cX1_passNight 54 = .ok (.getfield 12, 3) := by decide +kernel
theorem dX1_passNight_57 : decode cX1_passNight 57 = .ok (.iconst 0, 1) := by decide +kernel
theorem dX1_passNight_58 : decode cX1_passNight 58 = .ok (.invokevirtual 133, 3) := by decide +kernel
theorem dX1_passNight_61 : decode cX1_passNight 61 = .ok (.invokevirtual 136, 3) := by decide +kernel
theorem dX1_passNight_64 : decode cX1_passNight 64 = .ok (.istore 4, 2) := by decide +kernel
theorem dX1_passNight_66 : decode cX1_passNight 66 = .ok (.iload 4, 2) := by decide +kernel
theorem dX1_passNight_68 : decode cX1_passNight 68 = .ok (.aload_n 0, 1) := by decide +kernel
theorem dX1_passNight_69 : decode cX1_passNight 69 = .ok (.getfield 29, 3) := by decide +kernel
theorem dX1_passNight_72 : decode cX1_passNight 72 = .ok (.iconst 1, 1) := by decide +kernel
theorem dX1_passNight_73 : decode cX1_passNight 73 = .ok (.iaload, 1) := by decide +kernel
theorem dX1_passNight_74 : decode cX1_passNight 74 = .ok (.if_icmp .ge 13, 3) := by decide +kernel
theorem dX1_passNight_77 : decode cX1_passNight 77 = .ok (.aload_n 0, 1) := by decide +kernel
theorem dX1_passNight_78 : decode cX1_passNight 78 = .ok (.dup, 1) := by decide +kernel
theorem dX1_passNight_79 : decode cX1_passNight 79 = .ok (.getfield 65, 3) := by decide +kernel
theorem dX1_passNight_82 : decode cX1_passNight 82 = .ok (.iconst 1, 1) := by decide +kernel
theorem dX1_passNight_83 : decode cX1_passNight 83 = .ok (.iadd, 1) := by decide +kernel
theorem dX1_passNight_84 : decode cX1_passNight 84 = .ok (.putfield 65, 3) := by decide +kernel
theorem dX1_passNight_87 : decode cX1_passNight 87 = .ok (.iload_n 3, 1) := by decide +kernel
theorem dX1_passNight_88 : decode cX1_passNight 88 = .ok (.iload 4, 2) := by decide +kernel
theorem dX1_passNight_90 : decode cX1_passNight 90 = .ok (.imul, 1) := by decide +kernel
theorem dX1_passNight_91 : decode cX1_passNight 91 = .ok (.iload_n 3, 1) := by decide +kernel
theorem dX1_passNight_92 : decode cX1_passNight 92 = .ok (.iadd, 1) := by decide +kernel
theorem dX1_passNight_93 : decode cX1_passNight 93 = .ok (.aload_n 0, 1) := by decide +kernel
theorem dX1_passNight_94 : decode cX1_passNight 94 = .ok (.getfield 12, 3) := by decide +kernel
theorem dX1_passNight_97 : decode cX1_passNight 97 = .ok (.iconst 1, 1) := by decide +kernel
theorem dX1_passNight_98 : decode cX1_passNight 98 = .ok (.iload_n 3, 1) := by decide +kernel
theorem dX1_passNight_99 : decode cX1_passNight 99 = .ok (.invokevirtual 140, 3) := by decide +kernel
theorem dX1_passNight_102 : decode cX1_passNight 102 = .ok (.isub, 1) := by decide +kernel
theorem dX1_passNight_103 : decode cX1_passNight 103 = .ok (.istore 5, 2) := by decide +kernel
theorem dX1_passNight_105 : decode cX1_passNight 105 = .ok (.iload_n 3, 1) := by decide +kernel
theorem dX1_passNight_106 : decode cX1_passNight 106 = .ok (.iload 5, 2) := by decide +kernel
theorem dX1_passNight_108 : decode cX1_passNight 108 = .ok (.aload_n 0, 1) := by decide +kernel
theorem dX1_passNight_109 : decode cX1_passNight 109 = .ok (.getfield 12, 3) := by decide +kernel
theorem dX1_passNight_112 : decode cX1_passNight 112 = .ok (.iconst 0, 1) := by decide +kernel
theorem dX1_passNight_113 : decode cX1_passNight 113 = .ok (.iload 5, 2) := by decide +kernel
theorem dX1_passNight_115 : decode cX1_passNight 115 = .ok (.invokevirtual 140, 3) := by decide +kernel
theorem dX1_passNight_118 : decode cX1_passNight 118 = .ok (.isub, 1) := by decide +kernel
theorem dX1_passNight_119 : decode cX1_passNight 119 = .ok (.invokestatic 143, 3) := by decide +kernel
theorem dX1_passNight_122 : decode cX1_passNight 122 = .ok (.istore 6, 2) := by decide +kernel
theorem dX1_passNight_124 : decode cX1_passNight 124 = .ok (.aload_n 0, 1) := by decide +kernel
theorem dX1_passNight_125 : decode cX1_passNight 125 = .ok (.iload_n 3, 1) := by decide +kernel
theorem dX1_passNight_126 : decode cX1_passNight 126 = .ok (.iload_n 1, 1) := by decide +kernel
theorem dX1_passNight_127 : decode cX1_passNight 127 = .ok (.invokevirtual 148, 3) := by decide +kernel
theorem dX1_passNight_130 : decode cX1_passNight 130 = .ok (.istore 7, 2) := by decide +kernel
theorem dX1_passNight_132 : decode cX1_passNight 132 = .ok (.aload_n 0, 1) := by decide +kernel
theorem dX1_passNight_133 : decode cX1_passNight 133 = .ok (.getfield 12, 3) := by decide +kernel
theorem dX1_passNight_136 : decode cX1_passNight 136 = .ok (.iconst 2, 1) := by decide +kernel
theorem dX1_passNight_137 : decode cX1_passNight 137 = .ok (.iload 7, 2) := by decide +kernel
theorem dX1_passNight_139 : decode cX1_passNight 139 = .ok (.invokevirtual 140, 3) := by decide +kernel
theorem dX1_passNight_142 : decode cX1_passNight 142 = .ok (.iload 7, 2) := by decide +kernel
theorem dX1_passNight_144 : decode cX1_passNight 144 = .ok (.if_icmp .ge 7, 3) := by decide +kernel
theorem dX1_passNight_147 : decode cX1_passNight 147 = .ok (.iconst 1, 1) := by decide +kernel
theorem dX1_passNight_148 : decode cX1_passNight 148 = .ok (.goto 4, 3) := by decide +kernel
theorem dX1_passNight_151 : decode cX1_passNight 151 = .ok (.iconst 0, 1) := by decide +kernel
theorem dX1_passNight_152 : decode cX1_passNight 152 = .ok (.istore 8, 2) := by decide +kernel
theorem dX1_passNight_154 : decode cX1_passNight 154 = .ok (.aload_n 0, 1) := by decide +kernel
theorem dX1_passNight_155 : decode cX1_passNight 155 = .ok (.dup, 1) := by decide +kernel
theorem dX1_passNight_156 : decode cX1_passNight 156 = .ok (.getfield 56, 3) := by decide +kernel
theorem dX1_passNight_159 : decode cX1_passNight 159 = .ok (.iload 6, 2) := by decide +kernel
theorem dX1_passNight_161 : decode cX1_passNight 161 = .ok (.iadd, 1) := by decide +kernel
theorem dX1_passNight_162 : decode cX1_passNight 162 = .ok (.putfield 56, 3) := by decide +kernel
theorem dX1_passNight_165 : decode cX1_passNight 165 = .ok (.iload 8, 2) := by decide +kernel
theorem dX1_passNight_167 : decode cX1_passNight 167 = .ok (.ifCond .eq 13, 3) := by decide +kernel
theorem dX1_passNight_170 : decode cX1_passNight 170 = .ok (.aload_n 0, 1) := by decide +kernel
theorem dX1_passNight_171 : decode cX1_passNight 171 = .ok (.dup, 1) := by decide +kernel
theorem dX1_passNight_172 : decode cX1_passNight 172 = .ok (.getfield 59, 3) := by decide +kernel
theorem dX1_passNight_175 : decode cX1_passNight 175 = .ok (.iconst 1, 1) := by decide +kernel
theorem dX1_passNight_176 : decode cX1_passNight 176 = .ok (.iadd, 1) := by decide +kernel
theorem dX1_passNight_177 : decode cX1_passNight 177 = .ok (.putfield 59, 3) := by decide +kernel
theorem dX1_passNight_180 : decode cX1_passNight 180 = .ok (.aload_n 0, 1) := by decide +kernel
theorem dX1_passNight_181 : decode cX1_passNight 181 = .ok (.dup, 1) := by decide +kernel
theorem dX1_passNight_182 : decode cX1_passNight 182 = .ok (.getfield 62, 3) := by decide +kernel
theorem dX1_passNight_185 : decode cX1_passNight 185 = .ok (.iload_n 3, 1) := by decide +kernel
theorem dX1_passNight_186 : decode cX1_passNight 186 = .ok (.iadd, 1) := by decide +kernel
theorem dX1_passNight_187 : decode cX1_passNight 187 = .ok (.putfield 62, 3) := by decide +kernel
theorem dX1_passNight_190 : decode cX1_passNight 190 = .ok (.aload_n 0, 1) := by decide +kernel
theorem dX1_passNight_191 : decode cX1_passNight 191 = .ok (.getfield 21, 3) := by decide +kernel
theorem dX1_passNight_194 : decode cX1_passNight 194 = .ok (.invokevirtual 152, 3) := by decide +kernel
theorem dX1_passNight_197 : decode cX1_passNight 197 = .ok (.aload_n 0, 1) := by decide +kernel
theorem dX1_passNight_198 : decode cX1_passNight 198 = .ok (.getfield 12, 3) := by decide +kernel
theorem dX1_passNight_201 : decode cX1_passNight 201 = .ok (.aload_n 0, 1) := by decide +kernel
theorem dX1_passNight_202 : decode cX1_passNight 202 = .ok (.getfield 49, 3) := by decide +kernel
theorem dX1_passNight_205 : decode cX1_passNight 205 = .ok (.invokevirtual 155, 3) := by decide +kernel
theorem dX1_passNight_208 : decode cX1_passNight 208 = .ok (.aload_n 0, 1) := by decide +kernel
theorem dX1_passNight_209 : decode cX1_passNight 209 = .ok (.getfield 12, 3) := by decide +kernel
theorem dX1_passNight_212 : decode cX1_passNight 212 = .ok (.invokevirtual 158, 3) := by decide +kernel
theorem dX1_passNight_215 : decode cX1_passNight 215 = .ok (.aload_n 0, 1) := by decide +kernel
theorem dX1_passNight_216 : decode cX1_passNight 216 = .ok (.dup, 1) := by decide +kernel
theorem dX1_passNight_217 : decode cX1_passNight 217 = .ok (.getfield 49, 3) := by decide +kernel
theorem dX1_passNight_220 : decode cX1_passNight 220 = .ok (.iconst 1, 1) := by decide +kernel
theorem dX1_passNight_221 : decode cX1_passNight 221 = .ok (.iadd, 1) := by decide +kernel
theorem dX1_passNight_222 : decode cX1_passNight 222 = .ok (.putfield 49, 3) := by decide +kernel
theorem dX1_passNight_225 : decode cX1_passNight 225 = .ok (.iload_n 2, 1) := by decide +kernel
theorem dX1_passNight_226 : decode cX1_passNight 226 = .ok (.ifCond .eq 17, 3) := by decide +kernel
theorem dX1_passNight_229 : decode cX1_passNight 229 = .ok (.iload 6, 2) := by decide +kernel
theorem dX1_passNight_231 : decode cX1_passNight 231 = .ok (.ifCond .ne 12, 3) := by decide +kernel
theorem dX1_passNight_234 : decode cX1_passNight 234 = .ok (.iload 8, 2) := by decide +kernel
theorem dX1_passNight_236 : decode cX1_passNight 236 = .ok (.ifCond .ne 7, 3) := by decide +kernel
theorem dX1_passNight_239 : decode cX1_passNight 239 = .ok (.iconst 1, 1) := by decide +kernel
theorem dX1_passNight_240 : decode cX1_passNight 240 = .ok (.goto 4, 3) := by decide +kernel
theorem dX1_passNight_243 : decode cX1_passNight 243 = .ok (.iconst 0, 1) := by decide +kernel
theorem dX1_passNight_244 : decode cX1_passNight 244 = .ok (.ireturn, 1) := by decide +kernel
theorem dX1_rationFor_0 : decode cX1_rationFor 0 = .ok (.aload_n 0, 1) := by decide +kernel
theorem dX1_rationFor_1 : decode cX1_rationFor 1 = .ok (.getfield 29, 3) := by decide +kernel
theorem dX1_rationFor_4 : decode cX1_rationFor 4 = .ok (.iconst 1, 1) := by decide +kernel
theorem dX1_rationFor_5 : decode cX1_rationFor 5 = .ok (.iaload, 1) := by decide +kernel
theorem dX1_rationFor_6 : decode cX1_rationFor 6 = .ok (.istore_n 3, 1) := by decide +kernel
theorem dX1_rationFor_7 : decode cX1_rationFor 7 = .ok (.iload_n 2, 1) := by decide +kernel
theorem dX1_rationFor_8 : decode cX1_rationFor 8 = .ok (.aload_n 0, 1) := by decide +kernel
theorem dX1_rationFor_9 : decode cX1_rationFor 9 = .ok (.getfield 29, 3) := by decide +kernel
theorem dX1_rationFor_12 : decode cX1_rationFor 12 = .ok (.iconst 2, 1) := by decide +kernel
theorem dX1_rationFor_13 : decode cX1_rationFor 13 = .ok (.iaload, 1) := by decide +kernel
theorem dX1_rationFor_14 : decode cX1_rationFor 14 = .ok (.iload_n 1, 1) := by decide +kernel
theorem dX1_rationFor_15 : decode cX1_rationFor 15 = .ok (.imul, 1) := by decide +kernel
theorem dX1_rationFor_16 : decode cX1_rationFor 16 = .ok (.iload_n 3, 1) := by decide +kernel
theorem dX1_rationFor_17 : decode cX1_rationFor 17 = .ok (.imul, 1) := by decide +kernel
theorem dX1_rationFor_18 : decode cX1_rationFor 18 = .ok (.if_icmp .ge 7, 3) := by decide +kernel
theorem dX1_rationFor_21 : decode cX1_rationFor 21 = .ok (.iconst 1, 1) := by decide +kernel
theorem dX1_rationFor_22 : decode cX1_rationFor 22 = .ok (.goto 4, 3) := by decide +kernel
theorem dX1_rationFor_25 : decode cX1_rationFor 25 = .ok (.iload_n 3, 1) := by decide +kernel
theorem dX1_rationFor_26 : decode cX1_rationFor 26 = .ok (.ireturn, 1) := by decide +kernel
theorem dX1_gasFor_0 : decode cX1_gasFor 0 = .ok (.iload_n 1, 1) := by decide +kernel
theorem dX1_gasFor_1 : decode cX1_gasFor 1 = .ok (.ifCond .ne 5, 3) := by decide +kernel
theorem dX1_gasFor_4 : decode cX1_gasFor 4 = .ok (.iconst 0, 1) := by decide +kernel
theorem dX1_gasFor_5 : decode cX1_gasFor 5 = .ok (.ireturn, 1) := by decide +kernel
theorem dX1_gasFor_6 : decode cX1_gasFor 6 = .ok (.iload_n 1, 1) := by decide +kernel
theorem dX1_gasFor_7 : decode cX1_gasFor 7 = .ok (.iconst 3, 1) := by decide +kernel
theorem dX1_gasFor_8 : decode cX1_gasFor 8 = .ok (.iadd, 1) := by decide +kernel
theorem dX1_gasFor_9 : decode cX1_gasFor 9 = .ok (.iconst 4, 1) := by decide +kernel
theorem dX1_gasFor_10 : decode cX1_gasFor 10 = .ok (.idiv, 1) := by decide +kernel
theorem dX1_gasFor_11 : decode cX1_gasFor 11 = .ok (.iload_n 2, 1) := by decide +kernel
theorem dX1_gasFor_12 : decode cX1_gasFor 12 = .ok (.ifCond .eq 7, 3) := by decide +kernel
theorem dX1_gasFor_15 : decode cX1_gasFor 15 = .ok (.iconst 1, 1) := by decide +kernel
theorem dX1_gasFor_16 : decode cX1_gasFor 16 = .ok (.goto 4, 3) := by decide +kernel
theorem dX1_gasFor_19 : decode cX1_gasFor 19 = .ok (.iconst 0, 1) := by decide +kernel
theorem dX1_gasFor_20 : decode cX1_gasFor 20 = .ok (.iadd, 1) := by decide +kernel
theorem dX1_gasFor_21 : decode cX1_gasFor 21 = .ok (.ireturn, 1) := by decide +kernel
theorem dX1_changeSetting_0 : decode cX1_changeSetting 0 = .ok (.iload_n 1, 1) := by decide +kernel
theorem dX1_changeSetting_1 : decode cX1_changeSetting 1 = .ok (.ifCond .lt 26, 3) := by decide +kernel
theorem dX1_changeSetting_4 : decode cX1_changeSetting 4 = .ok (.iload_n 1, 1) := by decide +kernel
theorem dX1_changeSetting_5 : decode cX1_changeSetting 5 = .ok (.iconst 4, 1) := by decide +kernel
theorem dX1_changeSetting_6 : decode cX1_changeSetting 6 = .ok (.if_icmp .ge 21, 3) := by decide +kernel
theorem dX1_changeSetting_9 : decode cX1_changeSetting 9 = .ok (.iload_n 2, 1) := by decide +kernel
theorem dX1_changeSetting_10 : decode cX1_changeSetting 10 = .ok (.getstatic 161, 3) := by decide +kernel
theorem dX1_changeSetting_13 : decode cX1_changeSetting 13 = .ok (.iload_n 1, 1) := by decide +kernel
theorem dX1_changeSetting_14 : decode cX1_changeSetting 14 = .ok (.iaload, 1) := by decide +kernel
theorem dX1_changeSetting_15 : decode cX1_changeSetting 15 = .ok (.if_icmp .lt 12, 3) := by decide +kernel
theorem dX1_changeSetting_18 : decode cX1_changeSetting 18 = .ok (.iload_n 2, 1) := by decide +kernel
theorem dX1_changeSetting_19 : decode cX1_changeSetting 19 = .ok (.getstatic 164, 3) := by decide +kernel
theorem dX1_changeSetting_22 : decode cX1_changeSetting 22 = .ok (.iload_n 1, 1) := by decide +kernel
theorem dX1_changeSetting_23 : decode cX1_changeSetting 23 = .ok (.iaload, 1) := by decide +kernel
theorem dX1_changeSetting_24 : decode cX1_changeSetting 24 = .ok (.if_icmp .le 5, 3) := by decide +kernel
theorem dX1_changeSetting_27 : decode cX1_changeSetting 27 = .ok (.iconst (-1), 1) := by decide +kernel
theorem dX1_changeSetting_28 : decode cX1_changeSetting 28 = .ok (.ireturn, 1) := by decide +kernel
theorem dX1_changeSetting_29 : decode cX1_changeSetting 29 = .ok (.aload_n 0, 1) := by decide +kernel
theorem dX1_changeSetting_30 : decode cX1_changeSetting 30 = .ok (.getfield 29, 3) := by decide +kernel
theorem dX1_changeSetting_33 : decode cX1_changeSetting 33 = .ok (.iload_n 1, 1) := by decide +kernel
theorem dX1_changeSetting_34 : decode cX1_changeSetting 34 = .ok (.iaload, 1) := by decide +kernel
theorem dX1_changeSetting_35 : decode cX1_changeSetting 35 = .ok (.istore_n 3, 1) := by decide +kernel
theorem dX1_changeSetting_36 : decode cX1_changeSetting 36 = .ok (.aload_n 0, 1) := by decide +kernel
theorem dX1_changeSetting_37 : decode cX1_changeSetting 37 = .ok (.getfield 29, 3) := by decide +kernel
theorem dX1_changeSetting_40 : decode cX1_changeSetting 40 = .ok (.iload_n 1, 1) := by decide +kernel
theorem dX1_changeSetting_41 : decode cX1_changeSetting 41 = .ok (.iload_n 2, 1) := by decide +kernel
theorem dX1_changeSetting_42 : decode cX1_changeSetting 42 = .ok (.iastore, 1) := by decide +kernel
theorem dX1_changeSetting_43 : decode cX1_changeSetting 43 = .ok (.iload_n 3, 1) := by decide +kernel
theorem dX1_changeSetting_44 : decode cX1_changeSetting 44 = .ok (.ireturn, 1) := by decide +kernel
theorem dX1_settingAt_0 : decode cX1_settingAt 0 = .ok (.iload_n 1, 1) := by decide +kernel
theorem dX1_settingAt_1 : decode cX1_settingAt 1 = .ok (.ifCond .lt 17, 3) := by decide +kernel
theorem dX1_settingAt_4 : decode cX1_settingAt 4 = .ok (.iload_n 1, 1) := by decide +kernel
theorem dX1_settingAt_5 : decode cX1_settingAt 5 = .ok (.iconst 4, 1) := by decide +kernel
theorem dX1_settingAt_6 : decode cX1_settingAt 6 = .ok (.if_icmp .ge 12, 3) := by decide +kernel
theorem dX1_settingAt_9 : decode cX1_settingAt 9 = .ok (.aload_n 0, 1) := by decide +kernel
theorem dX1_settingAt_10 : decode cX1_settingAt 10 = .ok (.getfield 29, 3) := by decide +kernel
theorem dX1_settingAt_13 : decode cX1_settingAt 13 = .ok (.iload_n 1, 1) := by decide +kernel
theorem dX1_settingAt_14 : decode cX1_settingAt 14 = .ok (.iaload, 1) := by decide +kernel
theorem dX1_settingAt_15 : decode cX1_settingAt 15 = .ok (.goto 4, 3) := by decide +kernel
theorem dX1_settingAt_18 : decode cX1_settingAt 18 = .ok (.iconst (-1), 1) := by decide +kernel
theorem dX1_settingAt_19 : decode cX1_settingAt 19 = .ok (.ireturn, 1) := by decide +kernel
set_option maxRecDepth 20000 in
theorem ggX1_dayWhenGone_X2_isAwaited : GoodIn wsX1_dayWhenGone wsX2_isAwaited := goodIn_r _ [7, 8, 9, 10, 11, 6, 12, 13, 100, 101, 102, 103, 104, 105, 106] (by decide +kernel) (by decide +kernel)
set_option maxRecDepth 20000 in
theorem gX1_dayWhenGone_X2_isAwaited : GoodIn wsX1_dayWhenGone (wsV RX1 167 RX2 yX2_isAwaited wsX2_isAwaited) := goodIn_app (goodIn_of _ (by decide +kernel)) ggX1_dayWhenGone_X2_isAwaited
set_option maxRecDepth 20000 in
theorem ggX1_dayWhenGone_X1_passNight : GoodIn wsX1_dayWhenGone wsX1_passNight := goodIn_r _ [18, 1, 2, 19, 20, 21, 22, 23, 24, 25, 26, 27, 28, 29, 30, 31, 17, 32, 33, 34, 35, 36, 6, 37, 13, 8, 38, 39, 40, 41, 42, 43, 44, 45, 46, 47, 48, 49, 50, 51, 52, 53, 54, 55, 56, 57, 58, 59, 60, 61, 62, 63, 64, 65, 66, 67, 68, 69, 70, 71, 72, 73, 74, 75, 76, 77, 78, 79, 80, 81, 82, 83, 84, 85, 90, 91, 92, 93, 94, 95, 96, 97, 98, 99, 100, 101, 102, 103, 104, 105, 106, 107, 108, 109, 110, 111, 112, 113, 114, 115, 116, 117] (by decide +kernel) (by decide +kernel)
set_option maxRecDepth 20000 in
theorem gX1_dayWhenGone_X1_passNight : GoodIn wsX1_dayWhenGone (wsV RX1 109 RX1 yX1_passNight wsX1_passNight) := goodIn_app (goodIn_of _ (by decide +kernel)) ggX1_dayWhenGone_X1_passNight
set_option maxRecDepth 20000 in
theorem ggX1_dayWhenGone_X2_hasStatus : GoodIn wsX1_dayWhenGone wsX2_hasStatus := goodIn_r _ [89, 8, 9, 10, 11, 6, 12, 13, 100, 101, 102, 103, 104, 105, 106] (by decide +kernel) (by decide +kernel)
set_option maxRecDepth 20000 in
theorem gX1_dayWhenGone_X2_hasStatus : GoodIn wsX1_dayWhenGone (wsV RX1 170 RX2 yX2_hasStatus wsX2_hasStatus) := goodIn_app (goodIn_of _ (by decide +kernel)) ggX1_dayWhenGone_X2_hasStatus
theorem dX1_dayWhenGone_0 : decode cX1_dayWhenGone 0 = .ok (.iconst 0, 1) := by decide +kernel
theorem dX1_dayWhenGone_1 : decode cX1_dayWhenGone 1 = .ok (.istore_n 2, 1) := by decide +kernel
theorem dX1_dayWhenGone_2 : decode cX1_dayWhenGone 2 = .ok (.iload_n 2, 1) := by decide +kernel
theorem dX1_dayWhenGone_3 : decode cX1_dayWhenGone 3 = .ok (.sipush 1000, 3) := by decide +kernel
theorem dX1_dayWhenGone_6 : decode cX1_dayWhenGone 6 = .ok (.if_icmp .ge 25, 3) := by decide +kernel
theorem dX1_dayWhenGone_9 : decode cX1_dayWhenGone 9 = .ok (.aload_n 0, 1) := by decide +kernel
theorem dX1_dayWhenGone_10 : decode cX1_dayWhenGone 10 = .ok (.getfield 21, 3) := by decide +kernel
theorem dX1_dayWhenGone_13 : decode cX1_dayWhenGone 13 = .ok (.iload_n 1, 1) := by decide +kernel
theorem dX1_dayWhenGone_14 : decode cX1_dayWhenGone 14 = .ok (.invokevirtual 167, 3) := by decide +kernel
theorem dX1_dayWhenGone_17 : decode cX1_dayWhenGone 17 = .ok (.ifCond .eq 14, 3) := by decide +kernel
theorem dX1_dayWhenGone_20 : decode cX1_dayWhenGone 20 = .ok (.aload_n 0, 1) := by decide +kernel
theorem dX1_dayWhenGone_21 : decode cX1_dayWhenGone 21 = .ok (.invokevirtual 109, 3) := by decide +kernel
theorem dX1_dayWhenGone_24 : decode cX1_dayWhenGone 24 = .ok (.pop, 1) := by decide +kernel
theorem dX1_dayWhenGone_25 : decode cX1_dayWhenGone 25 = .ok (.iinc 2 1, 3) := by decide +kernel
theorem dX1_dayWhenGone_28 : decode cX1_dayWhenGone 28 = .ok (.goto (-26), 3) := by decide +kernel
theorem dX1_dayWhenGone_31 : decode cX1_dayWhenGone 31 = .ok (.aload_n 0, 1) := by decide +kernel
theorem dX1_dayWhenGone_32 : decode cX1_dayWhenGone 32 = .ok (.getfield 21, 3) := by decide +kernel
theorem dX1_dayWhenGone_35 : decode cX1_dayWhenGone 35 = .ok (.iload_n 1, 1) := by decide +kernel
theorem dX1_dayWhenGone_36 : decode cX1_dayWhenGone 36 = .ok (.iconst 2, 1) := by decide +kernel
theorem dX1_dayWhenGone_37 : decode cX1_dayWhenGone 37 = .ok (.invokevirtual 170, 3) := by decide +kernel
theorem dX1_dayWhenGone_40 : decode cX1_dayWhenGone 40 = .ok (.ifCond .eq 12, 3) := by decide +kernel
theorem dX1_dayWhenGone_43 : decode cX1_dayWhenGone 43 = .ok (.aload_n 0, 1) := by decide +kernel
theorem dX1_dayWhenGone_44 : decode cX1_dayWhenGone 44 = .ok (.getfield 49, 3) := by decide +kernel
theorem dX1_dayWhenGone_47 : decode cX1_dayWhenGone 47 = .ok (.iconst 1, 1) := by decide +kernel
theorem dX1_dayWhenGone_48 : decode cX1_dayWhenGone 48 = .ok (.isub, 1) := by decide +kernel
theorem dX1_dayWhenGone_49 : decode cX1_dayWhenGone 49 = .ok (.goto 5, 3) := by decide +kernel
