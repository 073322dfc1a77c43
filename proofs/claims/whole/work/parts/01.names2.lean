set_option maxRecDepth 20000 in
theorem ggX0_init_X1_init : GoodIn wsX0_init wsX1_init := goodIn_r _ [10, 11, 2, 3, 12, 13, 14, 15, 16, 17, 18, 19, 20, 21, 22, 23, 24, 25, 26, 27, 28, 29, 30, 31, 32, 33, 34, 35, 36, 37, 38, 39, 40, 41, 42, 43, 44, 45, 46, 47, 60, 61, 62, 63, 64, 65, 66, 67, 68, 69, 70, 50, 51, 52, 53, 54, 55, 56, 57, 58, 59, 71, 72, 73, 74, 75, 76, 77] (by decide +kernel) (by decide +kernel)
set_option maxRecDepth 20000 in
theorem gX0_init_X1_init : GoodIn wsX0_init (wsX1_init) := ggX0_init_X1_init
theorem dX0_init_0 : decode cX0_init 0 = .ok (.aload_n 0, 1) := by decide +kernel
theorem dX0_init_1 : decode cX0_init 1 = .ok (.invokespecial 1, 3) := by decide +kernel
theorem dX0_init_4 : decode cX0_init 4 = .ok (.aload_n 0, 1) := by decide +kernel
theorem dX0_init_5 : decode cX0_init 5 = .ok (.iconst 5, 1) := by decide +kernel
theorem dX0_init_6 : decode cX0_init 6 = .ok (.anewarray 9, 3) := by decide +kernel
theorem dX0_init_9 : decode cX0_init 9 = .ok (.putfield 11, 3) := by decide +kernel
theorem dX0_init_12 : decode cX0_init 12 = .ok (.iconst 0, 1) := by decide +kernel
theorem dX0_init_13 : decode cX0_init 13 = .ok (.istore_n 1, 1) := by decide +kernel
theorem dX0_init_14 : decode cX0_init 14 = .ok (.iload_n 1, 1) := by decide +kernel
theorem dX0_init_15 : decode cX0_init 15 = .ok (.iconst 4, 1) := by decide +kernel
theorem dX0_init_16 : decode cX0_init 16 = .ok (.if_icmp .gt 22, 3) := by decide +kernel
theorem dX0_init_19 : decode cX0_init 19 = .ok (.aload_n 0, 1) := by decide +kernel
theorem dX0_init_20 : decode cX0_init 20 = .ok (.getfield 11, 3) := by decide +kernel
theorem dX0_init_23 : decode cX0_init 23 = .ok (.iload_n 1, 1) := by decide +kernel
theorem dX0_init_24 : decode cX0_init 24 = .ok (.new 9, 3) := by decide +kernel
theorem dX0_init_27 : decode cX0_init 27 = .ok (.dup, 1) := by decide +kernel
theorem dX0_init_28 : decode cX0_init 28 = .ok (.invokespecial 15, 3) := by decide +kernel
theorem dX0_init_31 : decode cX0_init 31 = .ok (.aastore, 1) := by decide +kernel
theorem dX0_init_32 : decode cX0_init 32 = .ok (.iinc 1 1, 3) := by decide +kernel
theorem dX0_init_35 : decode cX0_init 35 = .ok (.goto (-21), 3) := by decide +kernel
theorem dX0_init_38 : decode cX0_init 38 = .ok (.return_, 1) := by decide +kernel
set_option maxRecDepth 20000 in
theorem ggX0_prepare_X1_copyFrom : GoodIn wsX0_prepare wsX1_copyFrom := goodIn_r _ [7, 8, 9, 10, 11, 12, 13, 14, 15, 16, 17, 18, 19, 20, 21, 22, 23, 24, 25, 26, 27, 28, 29, 30, 31, 32, 33, 34, 35, 36, 37, 38, 39, 40, 41, 42, 43, 44, 45, 46, 47, 48, 49, 50, 51, 54, 55, 56, 57, 58, 59, 60, 61, 62, 63, 64, 65, 66, 67, 68, 69, 70, 71, 72, 73, 74, 75, 76, 77, 78, 79, 80, 81] (by decide +kernel) (by decide +kernel)
set_option maxRecDepth 20000 in
theorem gX0_prepare_X1_copyFrom : GoodIn wsX0_prepare (wsV RX0 20 RX1 yX1_copyFrom wsX1_copyFrom) := goodIn_app (goodIn_of _ (by decide +kernel)) ggX0_prepare_X1_copyFrom
theorem dX0_prepare_0 : decode cX0_prepare 0 = .ok (.aload_n 0, 1) := by decide +kernel
theorem dX0_prepare_1 : decode cX0_prepare 1 = .ok (.getfield 16, 3) := by decide +kernel
theorem dX0_prepare_4 : decode cX0_prepare 4 = .ok (.ifCond .lt 23, 3) := by decide +kernel
theorem dX0_prepare_7 : decode cX0_prepare 7 = .ok (.aload_n 0, 1) := by decide +kernel
theorem dX0_prepare_8 : decode cX0_prepare 8 = .ok (.getfield 16, 3) := by decide +kernel
theorem dX0_prepare_11 : decode cX0_prepare 11 = .ok (.iconst 4, 1) := by decide +kernel
theorem dX0_prepare_12 : decode cX0_prepare 12 = .ok (.if_icmp .gt 15, 3) := by decide +kernel
theorem dX0_prepare_15 : decode cX0_prepare 15 = .ok (.aload_n 0, 1) := by decide +kernel
theorem dX0_prepare_16 : decode cX0_prepare 16 = .ok (.getfield 11, 3) := by decide +kernel
theorem dX0_prepare_19 : decode cX0_prepare 19 = .ok (.aload_n 0, 1) := by decide +kernel
theorem dX0_prepare_20 : decode cX0_prepare 20 = .ok (.getfield 16, 3) := by decide +kernel
theorem dX0_prepare_23 : decode cX0_prepare 23 = .ok (.aaload, 1) := by decide +kernel
theorem dX0_prepare_24 : decode cX0_prepare 24 = .ok (.goto 4, 3) := by decide +kernel
theorem dX0_prepare_27 : decode cX0_prepare 27 = .ok (.aconst_null, 1) := by decide +kernel
theorem dX0_prepare_28 : decode cX0_prepare 28 = .ok (.astore_n 2, 1) := by decide +kernel
theorem dX0_prepare_29 : decode cX0_prepare 29 = .ok (.aload_n 2, 1) := by decide +kernel
theorem dX0_prepare_30 : decode cX0_prepare 30 = .ok (.ifnull 8, 3) := by decide +kernel
theorem dX0_prepare_33 : decode cX0_prepare 33 = .ok (.aload_n 2, 1) := by decide +kernel
theorem dX0_prepare_34 : decode cX0_prepare 34 = .ok (.aload_n 1, 1) := by decide +kernel
theorem dX0_prepare_35 : decode cX0_prepare 35 = .ok (.invokevirtual 20, 3) := by decide +kernel
theorem dX0_prepare_38 : decode cX0_prepare 38 = .ok (.return_, 1) := by decide +kernel
theorem dX0_commit_0 : decode cX0_commit 0 = .ok (.aload_n 0, 1) := by decide +kernel
theorem dX0_commit_1 : decode cX0_commit 1 = .ok (.dup, 1) := by decide +kernel
theorem dX0_commit_2 : decode cX0_commit 2 = .ok (.getfield 16, 3) := by decide +kernel
theorem dX0_commit_5 : decode cX0_commit 5 = .ok (.iconst 1, 1) := by decide +kernel
theorem dX0_commit_6 : decode cX0_commit 6 = .ok (.iadd, 1) := by decide +kernel
theorem dX0_commit_7 : decode cX0_commit 7 = .ok (.putfield 16, 3) := by decide +kernel
theorem dX0_commit_10 : decode cX0_commit 10 = .ok (.aload_n 0, 1) := by decide +kernel
theorem dX0_commit_11 : decode cX0_commit 11 = .ok (.getfield 16, 3) := by decide +kernel
theorem dX0_commit_14 : decode cX0_commit 14 = .ok (.iconst 4, 1) := by decide +kernel
theorem dX0_commit_15 : decode cX0_commit 15 = .ok (.if_icmp .gt 4, 3) := by decide +kernel
theorem dX0_commit_18 : decode cX0_commit 18 = .ok (.return_, 1) := by decide +kernel
theorem dX0_commit_19 : decode cX0_commit 19 = .ok (.aload_n 0, 1) := by decide +kernel
theorem dX0_commit_20 : decode cX0_commit 20 = .ok (.getfield 11, 3) := by decide +kernel
theorem dX0_commit_23 : decode cX0_commit 23 = .ok (.iconst 0, 1) := by decide +kernel
theorem dX0_commit_24 : decode cX0_commit 24 = .ok (.aaload, 1) := by decide +kernel
theorem dX0_commit_25 : decode cX0_commit 25 = .ok (.astore_n 1, 1) := by decide +kernel
theorem dX0_commit_26 : decode cX0_commit 26 = .ok (.iconst 0, 1) := by decide +kernel
theorem dX0_commit_27 : decode cX0_commit 27 = .ok (.istore_n 2, 1) := by decide +kernel
theorem dX0_commit_28 : decode cX0_commit 28 = .ok (.iload_n 2, 1) := by decide +kernel
theorem dX0_commit_29 : decode cX0_commit 29 = .ok (.iconst 4, 1) := by decide +kernel
theorem dX0_commit_30 : decode cX0_commit 30 = .ok (.if_icmp .ge 23, 3) := by decide +kernel
theorem dX0_commit_33 : decode cX0_commit 33 = .ok (.aload_n 0, 1) := by decide +kernel
theorem dX0_commit_34 : decode cX0_commit 34 = .ok (.getfield 11, 3) := by decide +kernel
theorem dX0_commit_37 : decode cX0_commit 37 = .ok (.iload_n 2, 1) := by decide +kernel
theorem dX0_commit_38 : decode cX0_commit 38 = .ok (.aload_n 0, 1) := by decide +kernel
theorem dX0_commit_39 : decode cX0_commit 39 = .ok (.getfield 11, 3) := by decide +kernel
theorem dX0_commit_42 : decode cX0_commit 42 = .ok (.iload_n 2, 1) := by decide +kernel
theorem dX0_commit_43 : decode cX0_commit 43 = .ok (.iconst 1, 1) := by decide +kernel
theorem dX0_commit_44 : decode cX0_commit 44 = .ok (.iadd, 1) := by decide +kernel
theorem dX0_commit_45 : decode cX0_commit 45 = .ok (.aaload, 1) := by decide +kernel
theorem dX0_commit_46 : decode cX0_commit 46 = .ok (.aastore, 1) := by decide +kernel
theorem dX0_commit_47 : decode cX0_commit 47 = .ok (.iinc 2 1, 3) := by decide +kernel
theorem dX0_commit_50 : decode cX0_commit 50 = .ok (.goto (-22), 3) := by decide +kernel
theorem dX0_commit_53 : decode cX0_commit 53 = .ok (.aload_n 0, 1) := by decide +kernel
theorem dX0_commit_54 : decode cX0_commit 54 = .ok (.getfield 11, 3) := by decide +kernel
theorem dX0_commit_57 : decode cX0_commit 57 = .ok (.iconst 4, 1) := by decide +kernel
theorem dX0_commit_58 : decode cX0_commit 58 = .ok (.aload_n 1, 1) := by decide +kernel
theorem dX0_commit_59 : decode cX0_commit 59 = .ok (.aastore, 1) := by decide +kernel
theorem dX0_commit_60 : decode cX0_commit 60 = .ok (.aload_n 0, 1) := by decide +kernel
theorem dX0_commit_61 : decode cX0_commit 61 = .ok (.iconst 4, 1) := by decide +kernel
theorem dX0_commit_62 : decode cX0_commit 62 = .ok (.putfield 16, 3) := by decide +kernel
theorem dX0_commit_65 : decode cX0_commit 65 = .ok (.return_, 1) := by decide +kernel
set_option maxRecDepth 20000 in
theorem ggX0_takeBack_X1_copyFrom : GoodIn wsX0_takeBack wsX1_copyFrom := goodIn_r _ [7, 8, 9, 10, 11, 12, 13, 14, 15, 16, 17, 18, 19, 20, 21, 22, 23, 24, 25, 26, 27, 28, 29, 30, 31, 32, 33, 34, 35, 36, 37, 38, 39, 40, 41, 42, 43, 44, 45, 46, 47, 48, 49, 50, 51, 54, 55, 56, 57, 58, 59, 60, 61, 62, 63, 64, 65, 66, 67, 68, 69, 70, 71, 72, 73, 74, 75, 76, 77, 78, 79, 80, 81] (by decide +kernel) (by decide +kernel)
set_option maxRecDepth 20000 in
theorem gX0_takeBack_X1_copyFrom : GoodIn wsX0_takeBack (wsV RX0 20 RX1 yX1_copyFrom wsX1_copyFrom) := goodIn_app (goodIn_of _ (by decide +kernel)) ggX0_takeBack_X1_copyFrom
theorem dX0_takeBack_0 : decode cX0_takeBack 0 = .ok (.aload_n 0, 1) := by decide +kernel
theorem dX0_takeBack_1 : decode cX0_takeBack 1 = .ok (.getfield 16, 3) := by decide +kernel
theorem dX0_takeBack_4 : decode cX0_takeBack 4 = .ok (.iconst 1, 1) := by decide +kernel
theorem dX0_takeBack_5 : decode cX0_takeBack 5 = .ok (.if_icmp .lt 25, 3) := by decide +kernel
theorem dX0_takeBack_8 : decode cX0_takeBack 8 = .ok (.aload_n 0, 1) := by decide +kernel
theorem dX0_takeBack_9 : decode cX0_takeBack 9 = .ok (.getfield 16, 3) := by decide +kernel
theorem dX0_takeBack_12 : decode cX0_takeBack 12 = .ok (.iconst 4, 1) := by decide +kernel
theorem dX0_takeBack_13 : decode cX0_takeBack 13 = .ok (.if_icmp .gt 17, 3) := by decide +kernel
theorem dX0_takeBack_16 : decode cX0_takeBack 16 = .ok (.aload_n 0, 1) := by decide +kernel
theorem dX0_takeBack_17 : decode cX0_takeBack 17 = .ok (.getfield 11, 3) := by decide +kernel
theorem dX0_takeBack_20 : decode cX0_takeBack 20 = .ok (.aload_n 0, 1) := by decide +kernel
theorem dX0_takeBack_21 : decode cX0_takeBack 21 = .ok (.getfield 16, 3) := by decide +kernel
theorem dX0_takeBack_24 : decode cX0_takeBack 24 = .ok (.iconst 1, 1) := by decide +kernel
theorem dX0_takeBack_25 : decode cX0_takeBack 25 = .ok (.isub, 1) := by decide +kernel
theorem dX0_takeBack_26 : decode cX0_takeBack 26 = .ok (.aaload, 1) := by decide +kernel
theorem dX0_takeBack_27 : decode cX0_takeBack 27 = .ok (.goto 4, 3) := by decide +kernel
theorem dX0_takeBack_30 : decode cX0_takeBack 30 = .ok (.aconst_null, 1) := by decide +kernel
theorem dX0_takeBack_31 : decode cX0_takeBack 31 = .ok (.astore_n 2, 1) := by decide +kernel
theorem dX0_takeBack_32 : decode cX0_takeBack 32 = .ok (.aload_n 2, 1) := by decide +kernel
theorem dX0_takeBack_33 : decode cX0_takeBack 33 = .ok (.ifnull 18, 3) := by decide +kernel
theorem dX0_takeBack_36 : decode cX0_takeBack 36 = .ok (.aload_n 1, 1) := by decide +kernel
theorem dX0_takeBack_37 : decode cX0_takeBack 37 = .ok (.aload_n 2, 1) := by decide +kernel
theorem dX0_takeBack_38 : decode cX0_takeBack 38 = .ok (.invokevirtual 20, 3) := by decide +kernel
theorem dX0_takeBack_41 : decode cX0_takeBack 41 = .ok (.aload_n 0, 1) := by decide +kernel
theorem dX0_takeBack_42 : decode cX0_takeBack 42 = .ok (.dup, 1) := by decide +kernel
theorem dX0_takeBack_43 : decode cX0_takeBack 43 = .ok (.getfield 16, 3) := by decide +kernel
theorem dX0_takeBack_46 : decode cX0_takeBack 46 = .ok (.iconst 1, 1) := by decide +kernel
theorem dX0_takeBack_47 : decode cX0_takeBack 47 = .ok (.isub, 1) := by decide +kernel
theorem dX0_takeBack_48 : decode cX0_takeBack 48 = .ok (.putfield 16, 3) := by decide +kernel
theorem dX0_takeBack_51 : decode cX0_takeBack 51 = .ok (.return_, 1) := by decide +kernel
set_option maxRecDepth 20000 in
theorem ggX1_init_X4_init : GoodIn wsX1_init wsX4_init := goodIn_r _ [19, 20, 2, 3, 14, 21, 22, 23, 24, 25, 26, 27, 28, 29, 40, 41, 42, 43, 44, 45, 46, 47, 48, 49, 50] (by decide +kernel) (by decide +kernel)
set_option maxRecDepth 20000 in
theorem gX1_init_X4_init : GoodIn wsX1_init (wsX4_init) := ggX1_init_X4_init
set_option maxRecDepth 20000 in
theorem ggX1_init_X2_init : GoodIn wsX1_init wsX2_init := goodIn_r _ [32, 33, 2, 3, 14, 34, 35, 36, 37, 38, 39, 61, 62, 63, 64, 65, 66, 67] (by decide +kernel) (by decide +kernel)
set_option maxRecDepth 20000 in
theorem gX1_init_X2_init : GoodIn wsX1_init (wsX2_init) := ggX1_init_X2_init
theorem dX1_init_0 : decode cX1_init 0 = .ok (.aload_n 0, 1) := by decide +kernel
theorem dX1_init_1 : decode cX1_init 1 = .ok (.invokespecial 3, 3) := by decide +kernel
theorem dX1_init_4 : decode cX1_init 4 = .ok (.aload_n 0, 1) := by decide +kernel
theorem dX1_init_5 : decode cX1_init 5 = .ok (.new 9, 3) := by decide +kernel
theorem dX1_init_8 : decode cX1_init 8 = .ok (.dup, 1) := by decide +kernel
theorem dX1_init_9 : decode cX1_init 9 = .ok (.invokespecial 11, 3) := by decide +kernel
theorem dX1_init_12 : decode cX1_init 12 = .ok (.putfield 12, 3) := by decide +kernel
theorem dX1_init_15 : decode cX1_init 15 = .ok (.aload_n 0, 1) := by decide +kernel
theorem dX1_init_16 : decode cX1_init 16 = .ok (.new 18, 3) := by decide +kernel
theorem dX1_init_19 : decode cX1_init 19 = .ok (.dup, 1) := by decide +kernel
theorem dX1_init_20 : decode cX1_init 20 = .ok (.invokespecial 20, 3) := by decide +kernel
theorem dX1_init_23 : decode cX1_init 23 = .ok (.putfield 21, 3) := by decide +kernel
theorem dX1_init_26 : decode cX1_init 26 = .ok (.aload_n 0, 1) := by decide +kernel
theorem dX1_init_27 : decode cX1_init 27 = .ok (.sipush 396, 3) := by decide +kernel
theorem dX1_init_30 : decode cX1_init 30 = .ok (.newarray .boolean, 2) := by decide +kernel
theorem dX1_init_32 : decode cX1_init 32 = .ok (.putfield 25, 3) := by decide +kernel
theorem dX1_init_35 : decode cX1_init 35 = .ok (.aload_n 0, 1) := by decide +kernel
theorem dX1_init_36 : decode cX1_init 36 = .ok (.iconst 4, 1) := by decide +kernel
theorem dX1_init_37 : decode cX1_init 37 = .ok (.newarray .int, 2) := by decide +kernel
theorem dX1_init_39 : decode cX1_init 39 = .ok (.putfield 29, 3) := by decide +kernel
theorem dX1_init_42 : decode cX1_init 42 = .ok (.iconst 0, 1) := by decide +kernel
theorem dX1_init_43 : decode cX1_init 43 = .ok (.istore_n 1, 1) := by decide +kernel
theorem dX1_init_44 : decode cX1_init 44 = .ok (.iload_n 1, 1) := by decide +kernel
theorem dX1_init_45 : decode cX1_init 45 = .ok (.iconst 4, 1) := by decide +kernel
theorem dX1_init_46 : decode cX1_init 46 = .ok (.if_icmp .ge 20, 3) := by decide +kernel
theorem dX1_init_49 : decode cX1_init 49 = .ok (.aload_n 0, 1) := by decide +kernel
theorem dX1_init_50 : decode cX1_init 50 = .ok (.getfield 29, 3) := by decide +kernel
theorem dX1_init_53 : decode cX1_init 53 = .ok (.iload_n 1, 1) := by decide +kernel
theorem dX1_init_54 : decode cX1_init 54 = .ok (.getstatic 33, 3) := by decide +kernel
theorem dX1_init_57 : decode cX1_init 57 = .ok (.iload_n 1, 1) := by decide +kernel
theorem dX1_init_58 : decode cX1_init 58 = .ok (.iaload, 1) := by decide +kernel
theorem dX1_init_59 : decode cX1_init 59 = .ok (.iastore, 1) := by decide +kernel
theorem dX1_init_60 : decode cX1_init 60 = .ok (.iinc 1 1, 3) := by decide +kernel
theorem dX1_init_63 : decode cX1_init 63 = .ok (.goto (-19), 3) := by decide +kernel
theorem dX1_init_66 : decode cX1_init 66 = .ok (.return_, 1) := by decide +kernel
set_option maxRecDepth 20000 in
theorem ggX1_copyFrom_X4_copyFrom : GoodIn wsX1_copyFrom wsX4_copyFrom := goodIn_r _ [19, 20, 21, 5, 6, 7, 22, 23, 24, 25, 26, 27, 28, 29, 30, 31, 55, 56, 57, 58, 59, 60, 61, 62, 63, 64, 65] (by decide +kernel) (by decide +kernel)
set_option maxRecDepth 20000 in
theorem gX1_copyFrom_X4_copyFrom : GoodIn wsX1_copyFrom (wsV RX1 36 RX4 yX4_copyFrom wsX4_copyFrom) := goodIn_app (goodIn_of _ (by decide +kernel)) ggX1_copyFrom_X4_copyFrom
set_option maxRecDepth 20000 in
theorem ggX1_copyFrom_X2_copyFrom : GoodIn wsX1_copyFrom wsX2_copyFrom := goodIn_r _ [36, 37, 38, 5, 6, 7, 39, 40, 41, 42, 43, 44, 66, 67, 68, 69, 70, 71, 72] (by decide +kernel) (by decide +kernel)
set_option maxRecDepth 20000 in
theorem gX1_copyFrom_X2_copyFrom : GoodIn wsX1_copyFrom (wsV RX1 40 RX2 yX2_copyFrom wsX2_copyFrom) := goodIn_app (goodIn_of _ (by decide +kernel)) ggX1_copyFrom_X2_copyFrom
theorem dX1_copyFrom_0 : decode cX1_copyFrom 0 = .ok (.aload_n 0, 1) := by decide +kernel
theorem dX1_copyFrom_1 : decode cX1_copyFrom 1 = .ok (.getfield 12, 3) := by decide +kernel
theorem dX1_copyFrom_4 : decode cX1_copyFrom 4 = .ok (.aload_n 1, 1) := by decide +kernel
theorem dX1_copyFrom_5 : decode cX1_copyFrom 5 = .ok (.getfield 12, 3) := by decide +kernel
theorem dX1_copyFrom_8 : decode cX1_copyFrom 8 = .ok (.invokevirtual 36, 3) := by decide +kernel
theorem dX1_copyFrom_11 : decode cX1_copyFrom 11 = .ok (.aload_n 0, 1) := by decide +kernel
theorem dX1_copyFrom_12 : decode cX1_copyFrom 12 = .ok (.getfield 21, 3) := by decide +kernel
theorem dX1_copyFrom_15 : decode cX1_copyFrom 15 = .ok (.aload_n 1, 1) := by decide +kernel
theorem dX1_copyFrom_16 : decode cX1_copyFrom 16 = .ok (.getfield 21, 3) := by decide +kernel
theorem dX1_copyFrom_19 : decode cX1_copyFrom 19 = .ok (.invokevirtual 40, 3) := by decide +kernel
theorem dX1_copyFrom_22 : decode cX1_copyFrom 22 = .ok (.aload_n 1, 1) := by decide +kernel
theorem dX1_copyFrom_23 : decode cX1_copyFrom 23 = .ok (.getfield 25, 3) := by decide +kernel
theorem dX1_copyFrom_26 : decode cX1_copyFrom 26 = .ok (.iconst 0, 1) := by decide +kernel
theorem dX1_copyFrom_27 : decode cX1_copyFrom 27 = .ok (.aload_n 0, 1) := by decide +kernel
theorem dX1_copyFrom_28 : decode cX1_copyFrom 28 = .ok (.getfield 25, 3) := by decide +kernel
theorem dX1_copyFrom_31 : decode cX1_copyFrom 31 = .ok (.iconst 0, 1) := by decide +kernel
theorem dX1_copyFrom_32 : decode cX1_copyFrom 32 = .ok (.sipush 396, 3) := by decide +kernel
theorem dX1_copyFrom_35 : decode cX1_copyFrom 35 = .ok (.invokestatic 43, 3) := by decide +kernel
theorem dX1_copyFrom_38 : decode cX1_copyFrom 38 = .ok (.aload_n 1, 1) := by decide +kernel
theorem dX1_copyFrom_39 : decode cX1_copyFrom 39 = .ok (.getfield 29, 3) := by decide +kernel
theorem dX1_copyFrom_42 : decode cX1_copyFrom 42 = .ok (.iconst 0, 1) := by decide +kernel
theorem dX1_copyFrom_43 : decode cX1_copyFrom 43 = .ok (.aload_n 0, 1) := by decide +kernel
theorem dX1_copyFrom_44 : decode cX1_copyFrom 44 = .ok (.getfield 29, 3) := by decide +kernel
theorem dX1_copyFrom_47 : decode cX1_copyFrom 47 = .ok (.iconst 0, 1) := by decide +kernel
theorem dX1_copyFrom_48 : decode cX1_copyFrom 48 = .ok (.iconst 4, 1) := by decide +kernel
theorem dX1_copyFrom_49 : decode cX1_copyFrom 49 = .ok (.invokestatic 43, 3) := by decide +kernel
theorem dX1_copyFrom_52 : decode cX1_copyFrom 52 = .ok (.aload_n 0, 1) := by decide +kernel
theorem dX1_copyFrom_53 : decode cX1_copyFrom 53 = .ok (.aload_n 1, 1) := by decide +kernel
theorem dX1_copyFrom_54 : decode cX1_copyFrom 54 = .ok (.getfield 49, 3) := by decide +kernel
theorem dX1_copyFrom_57 : decode cX1_copyFrom 57 = .ok (.putfield 49, 3) := by decide +kernel
theorem dX1_copyFrom_60 : decode cX1_copyFrom 60 = .ok (.aload_n 0, 1) := by decide +kernel
theorem dX1_copyFrom_61 : decode cX1_copyFrom 61 = .ok (.aload_n 1, 1) := by decide +kernel
theorem dX1_copyFrom_62 : decode cX1_copyFrom 62 = .ok (.getfield 53, 3) := by decide +kernel
theorem dX1_copyFrom_65 : decode cX1_copyFrom 65 = .ok (.putfield 53, 3) := by decide +kernel
theorem dX1_copyFrom_68 : decode cX1_copyFrom 68 = .ok (.aload_n 0, 1) := by decide +kernel
theorem dX1_copyFrom_69 : decode cX1_copyFrom 69 = .ok (.aload_n 1, 1) := by decide +kernel
theorem dX1_copyFrom_70 : decode cX1_copyFrom 70 = .ok (.getfield 56, 3) := by decide +kernel
theorem dX1_copyFrom_73 : decode cX1_copyFrom 73 = .ok (.putfield 56, 3) := by decide +kernel
theorem dX1_copyFrom_76 : decode cX1_copyFrom 76 = .ok (.aload_n 0, 1) := by decide +kernel
theorem dX1_copyFrom_77 : decode cX1_copyFrom 77 = .ok (.aload_n 1, 1) := by decide +kernel
theorem dX1_copyFrom_78 : decode cX1_copyFrom 78 = .ok (.getfield 59, 3) := by decide +kernel
theorem dX1_copyFrom_81 : decode cX1_copyFrom 81 = .ok (.putfield 59, 3) := by decide +kernel
theorem dX1_copyFrom_84 : decode cX1_copyFrom 84 = .ok (.aload_n 0, 1) := by decide +kernel
theorem dX1_copyFrom_85 : decode cX1_copyFrom 85 = .ok (.aload_n 1, 1) := by decide +kernel
theorem dX1_copyFrom_86 : decode cX1_copyFrom 86 = .ok (.getfield 62, 3) := by decide +kernel
theorem dX1_copyFrom_89 : decode cX1_copyFrom 89 = .ok (.putfield 62, 3) := by decide +kernel
theorem dX1_copyFrom_92 : decode cX1_copyFrom 92 = .ok (.aload_n 0, 1) := by decide +kernel
theorem dX1_copyFrom_93 : decode cX1_copyFrom 93 = .ok (.aload_n 1, 1) := by decide +kernel
theorem dX1_copyFrom_94 : decode cX1_copyFrom 94 = .ok (.getfield 65, 3) := by decide +kernel
theorem dX1_copyFrom_97 : decode cX1_copyFrom 97 = .ok (.putfield 65, 3) := by decide +kernel
theorem dX1_copyFrom_100 : decode cX1_copyFrom 100 = .ok (.return_, 1) := by decide +kernel
set_option maxRecDepth 20000 in
theorem ggX1_putOnPallet_X4_isKind : GoodIn wsX1_putOnPallet wsX4_isKind := goodIn_r _ [6] (by decide +kernel) (by decide +kernel)
set_option maxRecDepth 20000 in
theorem gX1_putOnPallet_X4_isKind : GoodIn wsX1_putOnPallet (va_wsS RX1 68 yX4_isKind wsX4_isKind) := goodIn_app (goodIn_of _ (by decide +kernel)) ggX1_putOnPallet_X4_isKind
set_option maxRecDepth 20000 in
theorem ggX1_putOnPallet_X4_addToPallet : GoodIn wsX1_putOnPallet wsX4_addToPallet := goodIn_r _ [10, 11, 12, 13, 14, 25, 26, 27, 28, 29, 30, 31, 32, 33, 34, 35] (by decide +kernel) (by decide +kernel)
set_option maxRecDepth 20000 in
theorem gX1_putOnPallet_X4_addToPallet : GoodIn wsX1_putOnPallet (wsV RX1 75 RX4 yX4_addToPallet wsX4_addToPallet) := goodIn_app (goodIn_of _ (by decide +kernel)) ggX1_putOnPallet_X4_addToPallet
theorem dX1_putOnPallet_0 : decode cX1_putOnPallet 0 = .ok (.iload_n 1, 1) := by decide +kernel
theorem dX1_putOnPallet_1 : decode cX1_putOnPallet 1 = .ok (.invokestatic 68, 3) := by decide +kernel
theorem dX1_putOnPallet_4 : decode cX1_putOnPallet 4 = .ok (.ifCond .eq 26, 3) := by decide +kernel
theorem dX1_putOnPallet_7 : decode cX1_putOnPallet 7 = .ok (.iload_n 2, 1) := by decide +kernel
theorem dX1_putOnPallet_8 : decode cX1_putOnPallet 8 = .ok (.iconst 1, 1) := by decide +kernel
theorem dX1_putOnPallet_9 : decode cX1_putOnPallet 9 = .ok (.if_icmp .lt 21, 3) := by decide +kernel
theorem dX1_putOnPallet_12 : decode cX1_putOnPallet 12 = .ok (.iload_n 2, 1) := by decide +kernel
theorem dX1_putOnPallet_13 : decode cX1_putOnPallet 13 = .ok (.sipush 999, 3) := by decide +kernel
theorem dX1_putOnPallet_16 : decode cX1_putOnPallet 16 = .ok (.if_icmp .gt 14, 3) := by decide +kernel
theorem dX1_putOnPallet_19 : decode cX1_putOnPallet 19 = .ok (.iload_n 3, 1) := by decide +kernel
theorem dX1_putOnPallet_20 : decode cX1_putOnPallet 20 = .ok (.ifCond .lt 10, 3) := by decide +kernel
theorem dX1_putOnPallet_23 : decode cX1_putOnPallet 23 = .ok (.iload_n 3, 1) := by decide +kernel
theorem dX1_putOnPallet_24 : decode cX1_putOnPallet 24 = .ok (.sipush 365, 3) := by decide +kernel
theorem dX1_putOnPallet_27 : decode cX1_putOnPallet 27 = .ok (.if_icmp .le 5, 3) := by decide +kernel
theorem dX1_putOnPallet_30 : decode cX1_putOnPallet 30 = .ok (.iconst (-1), 1) := by decide +kernel
theorem dX1_putOnPallet_31 : decode cX1_putOnPallet 31 = .ok (.ireturn, 1) := by decide +kernel
theorem dX1_putOnPallet_32 : decode cX1_putOnPallet 32 = .ok (.aload_n 0, 1) := by decide +kernel
theorem dX1_putOnPallet_33 : decode cX1_putOnPallet 33 = .ok (.getfield 12, 3) := by decide +kernel
theorem dX1_putOnPallet_36 : decode cX1_putOnPallet 36 = .ok (.getfield 72, 3) := by decide +kernel
theorem dX1_putOnPallet_39 : decode cX1_putOnPallet 39 = .ok (.bipush 6, 2) := by decide +kernel
theorem dX1_putOnPallet_41 : decode cX1_putOnPallet 41 = .ok (.if_icmp .lt 6, 3) := by decide +kernel
theorem dX1_putOnPallet_44 : decode cX1_putOnPallet 44 = .ok (.bipush (-3), 2) := by decide +kernel
theorem dX1_putOnPallet_46 : decode cX1_putOnPallet 46 = .ok (.ireturn, 1) := by decide +kernel
theorem dX1_putOnPallet_47 : decode cX1_putOnPallet 47 = .ok (.aload_n 0, 1) := by decide +kernel
theorem dX1_putOnPallet_48 : decode cX1_putOnPallet 48 = .ok (.getfield 12, 3) := by decide +kernel
theorem dX1_putOnPallet_51 : decode cX1_putOnPallet 51 = .ok (.iload_n 1, 1) := by decide +kernel
theorem dX1_putOnPallet_52 : decode cX1_putOnPallet 52 = .ok (.iload_n 2, 1) := by decide +kernel
theorem dX1_putOnPallet_53 : decode cX1_putOnPallet 53 = .ok (.iload_n 3, 1) := by decide +kernel
theorem dX1_putOnPallet_54 : decode cX1_putOnPallet 54 = .ok (.invokevirtual 75, 3) := by decide +kernel
theorem dX1_putOnPallet_57 : decode cX1_putOnPallet 57 = .ok (.aload_n 0, 1) := by decide +kernel
theorem dX1_putOnPallet_58 : decode cX1_putOnPallet 58 = .ok (.getfield 12, 3) := by decide +kernel
theorem dX1_putOnPallet_61 : decode cX1_putOnPallet 61 = .ok (.getfield 72, 3) := by decide +kernel
theorem dX1_putOnPallet_64 : decode cX1_putOnPallet 64 = .ok (.ireturn, 1) := by decide +kernel
set_option maxRecDepth 20000 in
theorem ggX1_bringPallet_X1_isStorm : GoodIn wsX1_bringPallet wsX1_isStorm := goodIn_r _ [11, 6, 12, 34, 35, 36, 37, 38, 39, 40, 41, 42, 43] (by decide +kernel) (by decide +kernel)
set_option maxRecDepth 20000 in
theorem gX1_bringPallet_X1_isStorm : GoodIn wsX1_bringPallet (wsV RX1 79 RX1 yX1_isStorm wsX1_isStorm) := goodIn_app (goodIn_of _ (by decide +kernel)) ggX1_bringPallet_X1_isStorm
set_option maxRecDepth 20000 in
theorem ggX1_bringPallet_X4_unloadPallet : GoodIn wsX1_bringPallet wsX4_unloadPallet := goodIn_r _ [17, 18, 19, 20, 21, 22, 23, 24, 16, 25, 26, 27, 28, 29, 30, 31, 32, 33, 44, 45, 46, 47, 48, 49, 50, 51, 52, 53, 54] (by decide +kernel) (by decide +kernel)
set_option maxRecDepth 20000 in
theorem gX1_bringPallet_X4_unloadPallet : GoodIn wsX1_bringPallet (wsV RX1 86 RX4 yX4_unloadPallet wsX4_unloadPallet) := goodIn_app (goodIn_of _ (by decide +kernel)) ggX1_bringPallet_X4_unloadPallet
theorem dX1_bringPallet_0 : decode cX1_bringPallet 0 = .ok (.aload_n 0, 1) := by decide +kernel
theorem dX1_bringPallet_1 : decode cX1_bringPallet 1 = .ok (.getfield 12, 3) := by decide +kernel
theorem dX1_bringPallet_4 : decode cX1_bringPallet 4 = .ok (.getfield 72, 3) := by decide +kernel
theorem dX1_bringPallet_7 : decode cX1_bringPallet 7 = .ok (.istore_n 1, 1) := by decide +kernel
theorem dX1_bringPallet_8 : decode cX1_bringPallet 8 = .ok (.iload_n 1, 1) := by decide +kernel
theorem dX1_bringPallet_9 : decode cX1_bringPallet 9 = .ok (.ifCond .eq 23, 3) := by decide +kernel
theorem dX1_bringPallet_12 : decode cX1_bringPallet 12 = .ok (.aload_n 0, 1) := by decide +kernel
theorem dX1_bringPallet_13 : decode cX1_bringPallet 13 = .ok (.invokevirtual 79, 3) := by decide +kernel
theorem dX1_bringPallet_16 : decode cX1_bringPallet 16 = .ok (.ifCond .ne 16, 3) := by decide +kernel
theorem dX1_bringPallet_19 : decode cX1_bringPallet 19 = .ok (.aload_n 0, 1) := by decide +kernel
theorem dX1_bringPallet_20 : decode cX1_bringPallet 20 = .ok (.getfield 53, 3) := by decide +kernel
theorem dX1_bringPallet_23 : decode cX1_bringPallet 23 = .ok (.aload_n 0, 1) := by decide +kernel
theorem dX1_bringPallet_24 : decode cX1_bringPallet 24 = .ok (.getfield 29, 3) := by decide +kernel
theorem dX1_bringPallet_27 : decode cX1_bringPallet 27 = .ok (.iconst 3, 1) := by decide +kernel
theorem dX1_bringPallet_28 : decode cX1_bringPallet 28 = .ok (.iaload, 1) := by decide +kernel
theorem dX1_bringPallet_29 : decode cX1_bringPallet 29 = .ok (.if_icmp .lt 6, 3) := by decide +kernel
theorem dX1_bringPallet_32 : decode cX1_bringPallet 32 = .ok (.bipush (-2), 2) := by decide +kernel
theorem dX1_bringPallet_34 : decode cX1_bringPallet 34 = .ok (.ireturn, 1) := by decide +kernel
theorem dX1_bringPallet_35 : decode cX1_bringPallet 35 = .ok (.aload_n 0, 1) := by decide +kernel
theorem dX1_bringPallet_36 : decode cX1_bringPallet 36 = .ok (.getfield 12, 3) := by decide +kernel
theorem dX1_bringPallet_39 : decode cX1_bringPallet 39 = .ok (.getfield 83, 3) := by decide +kernel
theorem dX1_bringPallet_42 : decode cX1_bringPallet 42 = .ok (.iload_n 1, 1) := by decide +kernel
theorem dX1_bringPallet_43 : decode cX1_bringPallet 43 = .ok (.iadd, 1) := by decide +kernel
theorem dX1_bringPallet_44 : decode cX1_bringPallet 44 = .ok (.bipush 20, 2) := by decide +kernel
theorem dX1_bringPallet_46 : decode cX1_bringPallet 46 = .ok (.if_icmp .le 6, 3) := by decide +kernel
theorem dX1_bringPallet_49 : decode cX1_bringPallet 49 = .ok (.bipush (-3), 2) := by decide +kernel
theorem dX1_bringPallet_51 : decode cX1_bringPallet 51 = .ok (.ireturn, 1) := by decide +kernel
theorem dX1_bringPallet_52 : decode cX1_bringPallet 52 = .ok (.aload_n 0, 1) := by decide +kernel
theorem dX1_bringPallet_53 : decode cX1_bringPallet 53 = .ok (.getfield 12, 3) := by decide +kernel
theorem dX1_bringPallet_56 : decode cX1_bringPallet 56 = .ok (.aload_n 0, 1) := by decide +kernel
theorem dX1_bringPallet_57 : decode cX1_bringPallet 57 = .ok (.getfield 49, 3) := by decide +kernel
theorem dX1_bringPallet_60 : decode cX1_bringPallet 60 = .ok (.invokevirtual 86, 3) := by decide +kernel
theorem dX1_bringPallet_63 : decode cX1_bringPallet 63 = .ok (.aload_n 0, 1) := by decide +kernel
theorem dX1_bringPallet_64 : decode cX1_bringPallet 64 = .ok (.dup, 1) := by decide +kernel
theorem dX1_bringPallet_65 : decode cX1_bringPallet 65 = .ok (.getfield 53, 3) := by decide +kernel
theorem dX1_bringPallet_68 : decode cX1_bringPallet 68 = .ok (.iconst 1, 1) := by decide +kernel
theorem dX1_bringPallet_69 : decode cX1_bringPallet 69 = .ok (.iadd, 1) := by decide +kernel
theorem dX1_bringPallet_70 : decode cX1_bringPallet 70 = .ok (.putfield 53, 3) := by decide +kernel
theorem dX1_bringPallet_73 : decode cX1_bringPallet 73 = .ok (.iload_n 1, 1) := by decide +kernel
theorem dX1_bringPallet_74 : decode cX1_bringPallet 74 = .ok (.ireturn, 1) := by decide +kernel
theorem dX1_mayBeBooked_0 : decode cX1_mayBeBooked 0 = .ok (.iload_n 1, 1) := by decide +kernel
theorem dX1_mayBeBooked_1 : decode cX1_mayBeBooked 1 = .ok (.iconst 1, 1) := by decide +kernel
theorem dX1_mayBeBooked_2 : decode cX1_mayBeBooked 2 = .ok (.if_icmp .lt 39, 3) := by decide +kernel
theorem dX1_mayBeBooked_5 : decode cX1_mayBeBooked 5 = .ok (.iload_n 1, 1) := by decide +kernel
theorem dX1_mayBeBooked_6 : decode cX1_mayBeBooked 6 = .ok (.bipush 6, 2) := by decide +kernel
theorem dX1_mayBeBooked_8 : decode cX1_mayBeBooked 8 = .ok (.if_icmp .gt 33, 3) := by decide +kernel
theorem dX1_mayBeBooked_11 : decode cX1_mayBeBooked 11 = .ok (.iload_n 2, 1) := by decide +kernel
theorem dX1_mayBeBooked_12 : decode cX1_mayBeBooked 12 = .ok (.aload_n 0, 1) := by decide +kernel
theorem dX1_mayBeBooked_13 : decode cX1_mayBeBooked 13 = .ok (.getfield 49, 3) := by decide +kernel
theorem dX1_mayBeBooked_16 : decode cX1_mayBeBooked 16 = .ok (.if_icmp .lt 25, 3) := by decide +kernel
theorem dX1_mayBeBooked_19 : decode cX1_mayBeBooked 19 = .ok (.iload_n 2, 1) := by decide +kernel
theorem dX1_mayBeBooked_20 : decode cX1_mayBeBooked 20 = .ok (.sipush 365, 3) := by decide +kernel
theorem dX1_mayBeBooked_23 : decode cX1_mayBeBooked 23 = .ok (.if_icmp .gt 18, 3) := by decide +kernel
theorem dX1_mayBeBooked_26 : decode cX1_mayBeBooked 26 = .ok (.iload_n 3, 1) := by decide +kernel
theorem dX1_mayBeBooked_27 : decode cX1_mayBeBooked 27 = .ok (.iconst 1, 1) := by decide +kernel
theorem dX1_mayBeBooked_28 : decode cX1_mayBeBooked 28 = .ok (.if_icmp .lt 13, 3) := by decide +kernel
theorem dX1_mayBeBooked_31 : decode cX1_mayBeBooked 31 = .ok (.iload_n 3, 1) := by decide +kernel
theorem dX1_mayBeBooked_32 : decode cX1_mayBeBooked 32 = .ok (.bipush 9, 2) := by decide +kernel
theorem dX1_mayBeBooked_34 : decode cX1_mayBeBooked 34 = .ok (.if_icmp .gt 7, 3) := by decide +kernel
theorem dX1_mayBeBooked_37 : decode cX1_mayBeBooked 37 = .ok (.iconst 1, 1) := by decide +kernel
theorem dX1_mayBeBooked_38 : decode cX1_mayBeBooked 38 = .ok (.goto 4, 3) := by decide +kernel
theorem dX1_mayBeBooked_41 : decode cX1_mayBeBooked 41 = .ok (.iconst 0, 1) := by decide +kernel
theorem dX1_mayBeBooked_42 : decode cX1_mayBeBooked 42 = .ok (.ireturn, 1) := by decide +kernel
set_option maxRecDepth 20000 in
theorem ggX1_takeBooking_X1_mayBeBooked : GoodIn wsX1_takeBooking wsX1_mayBeBooked := goodIn_r _ [7, 8, 119, 120, 121, 122, 123, 124, 125, 126, 127, 128] (by decide +kernel) (by decide +kernel)
set_option maxRecDepth 20000 in
theorem gX1_takeBooking_X1_mayBeBooked : GoodIn wsX1_takeBooking (wsV RX1 90 RX1 yX1_mayBeBooked wsX1_mayBeBooked) := goodIn_app (goodIn_of _ (by decide +kernel)) ggX1_takeBooking_X1_mayBeBooked
set_option maxRecDepth 20000 in
theorem ggX1_takeBooking_X1_wouldSuffice : GoodIn wsX1_takeBooking wsX1_wouldSuffice := goodIn_r _ [12, 1, 13, 14, 15, 6, 16, 17, 18, 19, 20, 21, 22, 23, 8, 24, 25, 26, 27, 28, 29, 30, 31, 32, 33, 34, 35, 36, 37, 38, 39, 40, 41, 42, 43, 44, 45, 46, 47, 48, 49, 50, 51, 52, 53, 54, 55, 56, 57, 58, 59, 60, 61, 62, 63, 64, 65, 66, 67, 68, 69, 70, 71, 72, 73, 74, 75, 76, 77, 78, 79, 80, 81, 82, 83, 84, 85, 86, 87, 88, 89, 90, 91, 92, 93, 94, 95, 96, 97, 98, 99, 100, 101, 102, 103, 104, 105, 106, 107, 108, 109, 110, 111, 112, 113, 114, 115, 116, 117, 118, 119, 120, 121, 122, 123, 124, 125, 126, 127, 128, 136, 137, 138, 139, 140, 141, 142, 143, 144, 145, 146, 129, 130, 131, 132, 133, 134, 135] (by decide +kernel) (by decide +kernel)
set_option maxRecDepth 20000 in
theorem gX1_takeBooking_X1_wouldSuffice : GoodIn wsX1_takeBooking (wsV RX1 94 RX1 yX1_wouldSuffice wsX1_wouldSuffice) := goodIn_app (goodIn_of _ (by decide +kernel)) ggX1_takeBooking_X1_wouldSuffice
set_option maxRecDepth 20000 in
theorem ggX1_takeBooking_X2_add : GoodIn wsX1_takeBooking wsX2_add := goodIn_r _ [62, 58, 51, 53, 54, 55, 56, 57, 129, 130, 131, 132, 133, 134, 135] (by decide +kernel) (by decide +kernel)
set_option maxRecDepth 20000 in
theorem gX1_takeBooking_X2_add : GoodIn wsX1_takeBooking (wsV RX1 101 RX2 yX2_add wsX2_add) := goodIn_app (goodIn_of _ (by decide +kernel)) ggX1_takeBooking_X2_add
theorem dX1_takeBooking_0 : decode cX1_takeBooking 0 = .ok (.aload_n 0, 1) := by decide +kernel
theorem dX1_takeBooking_1 : decode cX1_takeBooking 1 = .ok (.iload_n 1, 1) := by decide +kernel
theorem dX1_takeBooking_2 : decode cX1_takeBooking 2 = .ok (.iload_n 2, 1) := by decide +kernel
theorem dX1_takeBooking_3 : decode cX1_takeBooking 3 = .ok (.iload_n 3, 1) := by decide +kernel
theorem dX1_takeBooking_4 : decode cX1_takeBooking 4 = .ok (.invokevirtual 90, 3) := by decide +kernel
theorem dX1_takeBooking_7 : decode cX1_takeBooking 7 = .ok (.ifCond .ne 5, 3) := by decide +kernel
theorem dX1_takeBooking_10 : decode cX1_takeBooking 10 = .ok (.iconst (-1), 1) := by decide +kernel
theorem dX1_takeBooking_11 : decode cX1_takeBooking 11 = .ok (.ireturn, 1) := by decide +kernel
theorem dX1_takeBooking_12 : decode cX1_takeBooking 12 = .ok (.aload 4, 2) := by decide +kernel
theorem dX1_takeBooking_14 : decode cX1_takeBooking 14 = .ok (.aload_n 0, 1) := by decide +kernel
theorem dX1_takeBooking_15 : decode cX1_takeBooking 15 = .ok (.iload_n 1, 1) := by decide +kernel
theorem dX1_takeBooking_16 : decode cX1_takeBooking 16 = .ok (.iload_n 2, 1) := by decide +kernel
theorem dX1_takeBooking_17 : decode cX1_takeBooking 17 = .ok (.iload_n 3, 1) := by decide +kernel
theorem dX1_takeBooking_18 : decode cX1_takeBooking 18 = .ok (.invokevirtual 94, 3) := by decide +kernel
theorem dX1_takeBooking_21 : decode cX1_takeBooking 21 = .ok (.ifCond .ne 6, 3) := by decide +kernel
theorem dX1_takeBooking_24 : decode cX1_takeBooking 24 = .ok (.bipush (-2), 2) := by decide +kernel
theorem dX1_takeBooking_26 : decode cX1_takeBooking 26 = .ok (.ireturn, 1) := by decide +kernel
theorem dX1_takeBooking_27 : decode cX1_takeBooking 27 = .ok (.aload_n 0, 1) := by decide +kernel
theorem dX1_takeBooking_28 : decode cX1_takeBooking 28 = .ok (.getfield 21, 3) := by decide +kernel
theorem dX1_takeBooking_31 : decode cX1_takeBooking 31 = .ok (.getfield 98, 3) := by decide +kernel
theorem dX1_takeBooking_34 : decode cX1_takeBooking 34 = .ok (.bipush 16, 2) := by decide +kernel
theorem dX1_takeBooking_36 : decode cX1_takeBooking 36 = .ok (.if_icmp .lt 6, 3) := by decide +kernel
theorem dX1_takeBooking_39 : decode cX1_takeBooking 39 = .ok (.bipush (-3), 2) := by decide +kernel
theorem dX1_takeBooking_41 : decode cX1_takeBooking 41 = .ok (.ireturn, 1) := by decide +kernel
theorem dX1_takeBooking_42 : decode cX1_takeBooking 42 = .ok (.aload_n 0, 1) := by decide +kernel
theorem dX1_takeBooking_43 : decode cX1_takeBooking 43 = .ok (.getfield 21, 3) := by decide +kernel
theorem dX1_takeBooking_46 : decode cX1_takeBooking 46 = .ok (.iload_n 1, 1) := by decide +kernel
theorem dX1_takeBooking_47 : decode cX1_takeBooking 47 = .ok (.iload_n 2, 1) := by decide +kernel
theorem dX1_takeBooking_48 : decode cX1_takeBooking 48 = .ok (.iload_n 3, 1) := by decide +kernel
theorem dX1_takeBooking_49 : decode cX1_takeBooking 49 = .ok (.invokevirtual 101, 3) := by decide +kernel
theorem dX1_takeBooking_52 : decode cX1_takeBooking 52 = .ok (.aload_n 0, 1) := by decide +kernel
theorem dX1_takeBooking_53 : decode cX1_takeBooking 53 = .ok (.getfield 21, 3) := by decide +kernel
theorem dX1_takeBooking_56 : decode cX1_takeBooking 56 = .ok (.getfield 98, 3) := by decide +kernel
theorem dX1_takeBooking_59 : decode cX1_takeBooking 59 = .ok (.iconst 1, 1) := by decide +kernel
theorem dX1_takeBooking_60 : decode cX1_takeBooking 60 = .ok (.isub, 1) := by decide +kernel
theorem dX1_takeBooking_61 : decode cX1_takeBooking 61 = .ok (.ireturn, 1) := by decide +kernel
set_option maxRecDepth 20000 in
theorem ggX1_wouldSuffice_X1_copyFrom : GoodIn wsX1_wouldSuffice wsX1_copyFrom := goodIn_r _ [6, 7, 1, 8, 9, 10, 11, 12, 13, 14, 15, 16, 17, 18, 19, 20, 21, 22, 23, 24, 25, 26, 27, 28, 29, 30, 31, 32, 33, 34, 35, 36, 37, 38, 39, 40, 41, 42, 43, 44, 45, 46, 47, 48, 49, 110, 111, 112, 113, 114, 115, 116, 117, 118, 119, 120, 121, 122, 123, 124, 125, 126, 127, 128, 129, 130, 131, 132, 133, 134, 135, 136, 137] (by decide +kernel) (by decide +kernel)
set_option maxRecDepth 20000 in
theorem gX1_wouldSuffice_X1_copyFrom : GoodIn wsX1_wouldSuffice (wsV RX1 104 RX1 yX1_copyFrom wsX1_copyFrom) := goodIn_app (goodIn_of _ (by decide +kernel)) ggX1_wouldSuffice_X1_copyFrom
set_option maxRecDepth 20000 in
theorem ggX1_wouldSuffice_X2_add : GoodIn wsX1_wouldSuffice wsX2_add := goodIn_r _ [53, 49, 42, 44, 45, 46, 47, 48, 131, 132, 133, 134, 135, 136, 137] (by decide +kernel) (by decide +kernel)
set_option maxRecDepth 20000 in
theorem gX1_wouldSuffice_X2_add : GoodIn wsX1_wouldSuffice (wsV RX1 101 RX2 yX2_add wsX2_add) := goodIn_app (goodIn_of _ (by decide +kernel)) ggX1_wouldSuffice_X2_add
set_option maxRecDepth 20000 in
theorem ggX1_wouldSuffice_X2_anyAwaited : GoodIn wsX1_wouldSuffice wsX2_anyAwaited := goodIn_r _ [57, 49, 46, 131, 132, 133, 134, 135, 136, 137] (by decide +kernel) (by decide +kernel)
set_option maxRecDepth 20000 in
theorem gX1_wouldSuffice_X2_anyAwaited : GoodIn wsX1_wouldSuffice (wsV RX1 107 RX2 yX2_anyAwaited wsX2_anyAwaited) := goodIn_app (goodIn_of _ (by decide +kernel)) ggX1_wouldSuffice_X2_anyAwaited
set_option maxRecDepth 20000 in
theorem ggX1_wouldSuffice_X1_passNight : GoodIn wsX1_wouldSuffice wsX1_passNight := goodIn_r _ [61, 1, 14, 13, 7, 19, 62, 63, 64, 65, 16, 17, 18, 66, 67, 68, 5, 69, 8, 70, 71, 72, 40, 73, 49, 46, 47, 45, 74, 75, 76, 77, 42, 78, 79, 80, 81, 44, 48, 82, 83, 84, 23, 85, 35, 25, 27, 86, 87, 88, 89, 90, 91, 92, 93, 33, 94, 95, 96, 97, 98, 99, 100, 101, 102, 103, 104, 105, 28, 34, 106, 107, 108, 109, 110, 111, 112, 113, 114, 115, 116, 117, 118, 119, 131, 132, 133, 134, 135, 136, 137, 120, 121, 122, 123, 124, 125, 126, 127, 128, 129, 130] (by decide +kernel) (by decide +kernel)
set_option maxRecDepth 20000 in
theorem gX1_wouldSuffice_X1_passNight : GoodIn wsX1_wouldSuffice (wsV RX1 110 RX1 yX1_passNight wsX1_passNight) := goodIn_app (goodIn_of _ (by decide +kernel)) ggX1_wouldSuffice_X1_passNight
theorem dX1_wouldSuffice_0 : decode cX1_wouldSuffice 0 = .ok (.aload_n 0, 1) := by decide +kernel
theorem dX1_wouldSuffice_1 : decode cX1_wouldSuffice 1 = .ok (.aload_n 1, 1) := by decide +kernel
theorem dX1_wouldSuffice_2 : decode cX1_wouldSuffice 2 = .ok (.invokevirtual 104, 3) := by decide +kernel
theorem dX1_wouldSuffice_5 : decode cX1_wouldSuffice 5 = .ok (.aload_n 0, 1) := by decide +kernel
theorem dX1_wouldSuffice_6 : decode cX1_wouldSuffice 6 = .ok (.getfield 21, 3) := by decide +kernel
theorem dX1_wouldSuffice_9 : decode cX1_wouldSuffice 9 = .ok (.iload_n 2, 1) := by decide +kernel
theorem dX1_wouldSuffice_10 : decode cX1_wouldSuffice 10 = .ok (.iload_n 3, 1) := by decide +kernel
theorem dX1_wouldSuffice_11 : decode cX1_wouldSuffice 11 = .ok (.iload 4, 2) := by decide +kernel
theorem dX1_wouldSuffice_13 : decode cX1_wouldSuffice 13 = .ok (.invokevirtual 101, 3) := by decide +kernel
theorem dX1_wouldSuffice_16 : decode cX1_wouldSuffice 16 = .ok (.iconst 0, 1) := by decide +kernel
theorem dX1_wouldSuffice_17 : decode cX1_wouldSuffice 17 = .ok (.istore 5, 2) := by decide +kernel
theorem dX1_wouldSuffice_19 : decode cX1_wouldSuffice 19 = .ok (.iload 5, 2) := by decide +kernel
theorem dX1_wouldSuffice_21 : decode cX1_wouldSuffice 21 = .ok (.sipush 1000, 3) := by decide +kernel
theorem dX1_wouldSuffice_24 : decode cX1_wouldSuffice 24 = .ok (.if_icmp .ge 28, 3) := by decide +kernel
theorem dX1_wouldSuffice_27 : decode cX1_wouldSuffice 27 = .ok (.aload_n 0, 1) := by decide +kernel
theorem dX1_wouldSuffice_28 : decode cX1_wouldSuffice 28 = .ok (.getfield 21, 3) := by decide +kernel
theorem dX1_wouldSuffice_31 : decode cX1_wouldSuffice 31 = .ok (.invokevirtual 107, 3) := by decide +kernel
theorem dX1_wouldSuffice_34 : decode cX1_wouldSuffice 34 = .ok (.ifCond .eq 18, 3) := by decide +kernel
theorem dX1_wouldSuffice_37 : decode cX1_wouldSuffice 37 = .ok (.aload_n 0, 1) := by decide +kernel
theorem dX1_wouldSuffice_38 : decode cX1_wouldSuffice 38 = .ok (.invokevirtual 110, 3) := by decide +kernel
theorem dX1_wouldSuffice_41 : decode cX1_wouldSuffice 41 = .ok (.ifCond .ne 5, 3) := by decide +kernel
theorem dX1_wouldSuffice_44 : decode cX1_wouldSuffice 44 = .ok (.iconst 0, 1) := by decide +kernel
theorem dX1_wouldSuffice_45 : decode cX1_wouldSuffice 45 = .ok (.ireturn, 1) := by decide +kernel
theorem dX1_wouldSuffice_46 : decode cX1_wouldSuffice 46 = .ok (.iinc 5 1, 3) := by decide +kernel
theorem dX1_wouldSuffice_49 : decode cX1_wouldSuffice 49 = .ok (.goto (-30), 3) := by decide +kernel
theorem dX1_wouldSuffice_52 : decode cX1_wouldSuffice 52 = .ok (.iconst 1, 1) := by decide +kernel
theorem dX1_wouldSuffice_53 : decode cX1_wouldSuffice 53 = .ok (.ireturn, 1) := by decide +kernel
set_option maxRecDepth 20000 in
theorem ggX1_callOff_X2_has : GoodIn wsX1_callOff wsX2_has := goodIn_r _ [7, 8, 24, 25, 26, 27, 28, 29, 30] (by decide +kernel) (by decide +kernel)
set_option maxRecDepth 20000 in
theorem gX1_callOff_X2_has : GoodIn wsX1_callOff (wsV RX1 113 RX2 yX2_has wsX2_has) := goodIn_app (goodIn_of _ (by decide +kernel)) ggX1_callOff_X2_has
set_option maxRecDepth 20000 in
theorem ggX1_callOff_X2_withStatus : GoodIn wsX1_callOff wsX2_withStatus := goodIn_r _ [12, 8, 13, 24, 25, 26, 27, 28, 29, 30] (by decide +kernel) (by decide +kernel)
set_option maxRecDepth 20000 in
theorem gX1_callOff_X2_withStatus : GoodIn wsX1_callOff (wsV RX1 119 RX2 yX2_withStatus wsX2_withStatus) := goodIn_app (goodIn_of _ (by decide +kernel)) ggX1_callOff_X2_withStatus
theorem dX1_callOff_0 : decode cX1_callOff 0 = .ok (.aload_n 0, 1) := by decide +kernel
theorem dX1_callOff_1 : decode cX1_callOff 1 = .ok (.getfield 21, 3) := by decide +kernel
theorem dX1_callOff_4 : decode cX1_callOff 4 = .ok (.iload_n 1, 1) := by decide +kernel
theorem dX1_callOff_5 : decode cX1_callOff 5 = .ok (.invokevirtual 113, 3) := by decide +kernel
theorem dX1_callOff_8 : decode cX1_callOff 8 = .ok (.ifCond .ne 5, 3) := by decide +kernel
theorem dX1_callOff_11 : decode cX1_callOff 11 = .ok (.iconst (-1), 1) := by decide +kernel
theorem dX1_callOff_12 : decode cX1_callOff 12 = .ok (.ireturn, 1) := by decide +kernel
theorem dX1_callOff_13 : decode cX1_callOff 13 = .ok (.aload_n 0, 1) := by decide +kernel
theorem dX1_callOff_14 : decode cX1_callOff 14 = .ok (.getfield 21, 3) := by decide +kernel
theorem dX1_callOff_17 : decode cX1_callOff 17 = .ok (.getfield 116, 3) := by decide +kernel
theorem dX1_callOff_20 : decode cX1_callOff 20 = .ok (.iload_n 1, 1) := by decide +kernel
theorem dX1_callOff_21 : decode cX1_callOff 21 = .ok (.iaload, 1) := by decide +kernel
theorem dX1_callOff_22 : decode cX1_callOff 22 = .ok (.ifCond .eq 6, 3) := by decide +kernel
theorem dX1_callOff_25 : decode cX1_callOff 25 = .ok (.bipush (-2), 2) := by decide +kernel
theorem dX1_callOff_27 : decode cX1_callOff 27 = .ok (.ireturn, 1) := by decide +kernel
theorem dX1_callOff_28 : decode cX1_callOff 28 = .ok (.aload_n 0, 1) := by decide +kernel
theorem dX1_callOff_29 : decode cX1_callOff 29 = .ok (.getfield 21, 3) := by decide +kernel
theorem dX1_callOff_32 : decode cX1_callOff 32 = .ok (.getfield 116, 3) := by decide +kernel
theorem dX1_callOff_35 : decode cX1_callOff 35 = .ok (.iload_n 1, 1) := by decide +kernel
theorem dX1_callOff_36 : decode cX1_callOff 36 = .ok (.iconst 3, 1) := by decide +kernel
theorem dX1_callOff_37 : decode cX1_callOff 37 = .ok (.iastore, 1) := by decide +kernel
theorem dX1_callOff_38 : decode cX1_callOff 38 = .ok (.aload_n 0, 1) := by decide +kernel
theorem dX1_callOff_39 : decode cX1_callOff 39 = .ok (.getfield 21, 3) := by decide +kernel
theorem dX1_callOff_42 : decode cX1_callOff 42 = .ok (.iconst 0, 1) := by decide +kernel
theorem dX1_callOff_43 : decode cX1_callOff 43 = .ok (.invokevirtual 119, 3) := by decide +kernel
theorem dX1_callOff_46 : decode cX1_callOff 46 = .ok (.ireturn, 1) := by decide +kernel
theorem dX1_tellStorm_0 : decode cX1_tellStorm 0 = .ok (.iload_n 1, 1) := by decide +kernel
theorem dX1_tellStorm_1 : decode cX1_tellStorm 1 = .ok (.aload_n 0, 1) := by decide +kernel
theorem dX1_tellStorm_2 : decode cX1_tellStorm 2 = .ok (.getfield 49, 3) := by decide +kernel
theorem dX1_tellStorm_5 : decode cX1_tellStorm 5 = .ok (.if_icmp .lt 21, 3) := by decide +kernel
theorem dX1_tellStorm_8 : decode cX1_tellStorm 8 = .ok (.iload_n 1, 1) := by decide +kernel
theorem dX1_tellStorm_9 : decode cX1_tellStorm 9 = .ok (.sipush 365, 3) := by decide +kernel
theorem dX1_tellStorm_12 : decode cX1_tellStorm 12 = .ok (.if_icmp .gt 14, 3) := by decide +kernel
theorem dX1_tellStorm_15 : decode cX1_tellStorm 15 = .ok (.iload_n 2, 1) := by decide +kernel
theorem dX1_tellStorm_16 : decode cX1_tellStorm 16 = .ok (.iconst 1, 1) := by decide +kernel
theorem dX1_tellStorm_17 : decode cX1_tellStorm 17 = .ok (.if_icmp .lt 9, 3) := by decide +kernel
theorem dX1_tellStorm_20 : decode cX1_tellStorm 20 = .ok (.iload_n 2, 1) := by decide +kernel
theorem dX1_tellStorm_21 : decode cX1_tellStorm 21 = .ok (.bipush 30, 2) := by decide +kernel
theorem dX1_tellStorm_23 : decode cX1_tellStorm 23 = .ok (.if_icmp .le 5, 3) := by decide +kernel
theorem dX1_tellStorm_26 : decode cX1_tellStorm 26 = .ok (.iconst (-1), 1) := by decide +kernel
theorem dX1_tellStorm_27 : decode cX1_tellStorm 27 = .ok (.ireturn, 1) := by decide +kernel
theorem dX1_tellStorm_28 : decode cX1_tellStorm 28 = .ok (.iload_n 1, 1) := by decide +kernel
theorem dX1_tellStorm_29 : decode cX1_tellStorm 29 = .ok (.iload_n 2, 1) := by decide +kernel
theorem dX1_tellStorm_30 : decode cX1_tellStorm 30 = .ok (.iadd, 1) := by decide +kernel
theorem dX1_tellStorm_31 : decode cX1_tellStorm 31 = .ok (.istore_n 3, 1) := by decide +kernel
theorem dX1_tellStorm_32 : decode cX1_tellStorm 32 = .ok (.iconst 0, 1) := by decide +kernel
theorem dX1_tellStorm_33 : decode cX1_tellStorm 33 = .ok (.istore 4, 2) := by decide +kernel
theorem dX1_tellStorm_35 : decode cX1_tellStorm 35 = .ok (.aload_n 0, 1) := by decide +kernel
theorem dX1_tellStorm_36 : decode cX1_tellStorm 36 = .ok (.getfield 49, 3) := by decide +kernel
theorem dX1_tellStorm_39 : decode cX1_tellStorm 39 = .ok (.istore 5, 2) := by decide +kernel
theorem dX1_tellStorm_41 : decode cX1_tellStorm 41 = .ok (.iload 5, 2) := by decide +kernel
theorem dX1_tellStorm_43 : decode cX1_tellStorm 43 = .ok (.aload_n 0, 1) := by decide +kernel
theorem dX1_tellStorm_44 : decode cX1_tellStorm 44 = .ok (.getfield 25, 3) := by decide +kernel
theorem dX1_tellStorm_47 : decode cX1_tellStorm 47 = .ok (.arraylength, 1) := by decide +kernel
theorem dX1_tellStorm_48 : decode cX1_tellStorm 48 = .ok (.if_icmp .ge 34, 3) := by decide +kernel
theorem dX1_tellStorm_51 : decode cX1_tellStorm 51 = .ok (.aload_n 0, 1) := by decide +kernel
theorem dX1_tellStorm_52 : decode cX1_tellStorm 52 = .ok (.getfield 25, 3) := by decide +kernel
theorem dX1_tellStorm_55 : decode cX1_tellStorm 55 = .ok (.iload 5, 2) := by decide +kernel
theorem dX1_tellStorm_57 : decode cX1_tellStorm 57 = .ok (.baload, 1) := by decide +kernel
theorem dX1_tellStorm_58 : decode cX1_tellStorm 58 = .ok (.ifCond .ne 15, 3) := by decide +kernel
theorem dX1_tellStorm_61 : decode cX1_tellStorm 61 = .ok (.iload 5, 2) := by decide +kernel
theorem dX1_tellStorm_63 : decode cX1_tellStorm 63 = .ok (.iload_n 1, 1) := by decide +kernel
theorem dX1_tellStorm_64 : decode cX1_tellStorm 64 = .ok (.if_icmp .lt 12, 3) := by decide +kernel
theorem dX1_tellStorm_67 : decode cX1_tellStorm 67 = .ok (.iload 5, 2) := by decide +kernel
theorem dX1_tellStorm_69 : decode cX1_tellStorm 69 = .ok (.iload_n 3, 1) := by decide +kernel
theorem dX1_tellStorm_70 : decode cX1_tellStorm 70 = .ok (.if_icmp .ge 6, 3) := by decide +kernel
theorem dX1_tellStorm_73 : decode cX1_tellStorm 73 = .ok (.iinc 4 1, 3) := by decide +kernel
theorem dX1_tellStorm_76 : decode cX1_tellStorm 76 = .ok (.iinc 5 1, 3) := by decide +kernel
theorem dX1_tellStorm_79 : decode cX1_tellStorm 79 = .ok (.goto (-38), 3) := by decide +kernel
theorem dX1_tellStorm_82 : decode cX1_tellStorm 82 = .ok (.iload 4, 2) := by decide +kernel
theorem dX1_tellStorm_84 : decode cX1_tellStorm 84 = .ok (.bipush 40, 2) := by decide +kernel
theorem dX1_tellStorm_86 : decode cX1_tellStorm 86 = .ok (.if_icmp .le 6, 3) := by decide +kernel
theorem dX1_tellStorm_89 : decode cX1_tellStorm 89 = .ok (.bipush (-3), 2) := by decide +kernel
theorem dX1_tellStorm_91 : decode cX1_tellStorm 91 = .ok (.ireturn, 1) := by decide +kernel
theorem dX1_tellStorm_92 : decode cX1_tellStorm 92 = .ok (.iload_n 1, 1) := by decide +kernel
theorem dX1_tellStorm_93 : decode cX1_tellStorm 93 = .ok (.istore 5, 2) := by decide +kernel
theorem dX1_tellStorm_95 : decode cX1_tellStorm 95 = .ok (.iload 5, 2) := by decide +kernel
theorem dX1_tellStorm_97 : decode cX1_tellStorm 97 = .ok (.iload_n 3, 1) := by decide +kernel
theorem dX1_tellStorm_98 : decode cX1_tellStorm 98 = .ok (.if_icmp .ge 27, 3) := by decide +kernel
theorem dX1_tellStorm_101 : decode cX1_tellStorm 101 = .ok (.iload 5, 2) := by decide +kernel
theorem dX1_tellStorm_103 : decode cX1_tellStorm 103 = .ok (.aload_n 0, 1) := by decide +kernel
theorem dX1_tellStorm_104 : decode cX1_tellStorm 104 = .ok (.getfield 25, 3) := by decide +kernel
theorem dX1_tellStorm_107 : decode cX1_tellStorm 107 = .ok (.arraylength, 1) := by decide +kernel
theorem dX1_tellStorm_108 : decode cX1_tellStorm 108 = .ok (.if_icmp .ge 17, 3) := by decide +kernel
theorem dX1_tellStorm_111 : decode cX1_tellStorm 111 = .ok (.aload_n 0, 1) := by decide +kernel
theorem dX1_tellStorm_112 : decode cX1_tellStorm 112 = .ok (.getfield 25, 3) := by decide +kernel
theorem dX1_tellStorm_115 : decode cX1_tellStorm 115 = .ok (.iload 5, 2) := by decide +kernel
theorem dX1_tellStorm_117 : decode cX1_tellStorm 117 = .ok (.iconst 1, 1) := by decide +kernel
theorem dX1_tellStorm_118 : decode cX1_tellStorm 118 = .ok (.bastore, 1) := by decide +kernel
theorem dX1_tellStorm_119 : decode cX1_tellStorm 119 = .ok (.iinc 5 1, 3) := by decide +kernel
theorem dX1_tellStorm_122 : decode cX1_tellStorm 122 = .ok (.goto (-27), 3) := by decide +kernel
theorem dX1_tellStorm_125 : decode cX1_tellStorm 125 = .ok (.iload 4, 2) := by decide +kernel
theorem dX1_tellStorm_127 : decode cX1_tellStorm 127 = .ok (.ireturn, 1) := by decide +kernel
theorem dX1_tellCalm_0 : decode cX1_tellCalm 0 = .ok (.iload_n 1, 1) := by decide +kernel
theorem dX1_tellCalm_1 : decode cX1_tellCalm 1 = .ok (.aload_n 0, 1) := by decide +kernel
theorem dX1_tellCalm_2 : decode cX1_tellCalm 2 = .ok (.getfield 49, 3) := by decide +kernel
theorem dX1_tellCalm_5 : decode cX1_tellCalm 5 = .ok (.if_icmp .lt 10, 3) := by decide +kernel
theorem dX1_tellCalm_8 : decode cX1_tellCalm 8 = .ok (.iload_n 1, 1) := by decide +kernel
theorem dX1_tellCalm_9 : decode cX1_tellCalm 9 = .ok (.sipush 395, 3) := by decide +kernel
theorem dX1_tellCalm_12 : decode cX1_tellCalm 12 = .ok (.if_icmp .le 5, 3) := by decide +kernel
theorem dX1_tellCalm_15 : decode cX1_tellCalm 15 = .ok (.iconst (-1), 1) := by decide +kernel
theorem dX1_tellCalm_16 : decode cX1_tellCalm 16 = .ok (.ireturn, 1) := by decide +kernel
theorem dX1_tellCalm_17 : decode cX1_tellCalm 17 = .ok (.aload_n 0, 1) := by decide +kernel
theorem dX1_tellCalm_18 : decode cX1_tellCalm 18 = .ok (.getfield 25, 3) := by decide +kernel
theorem dX1_tellCalm_21 : decode cX1_tellCalm 21 = .ok (.iload_n 1, 1) := by decide +kernel
theorem dX1_tellCalm_22 : decode cX1_tellCalm 22 = .ok (.baload, 1) := by decide +kernel
theorem dX1_tellCalm_23 : decode cX1_tellCalm 23 = .ok (.istore_n 2, 1) := by decide +kernel
theorem dX1_tellCalm_24 : decode cX1_tellCalm 24 = .ok (.aload_n 0, 1) := by decide +kernel
theorem dX1_tellCalm_25 : decode cX1_tellCalm 25 = .ok (.getfield 25, 3) := by decide +kernel
theorem dX1_tellCalm_28 : decode cX1_tellCalm 28 = .ok (.iload_n 1, 1) := by decide +kernel
theorem dX1_tellCalm_29 : decode cX1_tellCalm 29 = .ok (.iconst 0, 1) := by decide +kernel
theorem dX1_tellCalm_30 : decode cX1_tellCalm 30 = .ok (.bastore, 1) := by decide +kernel
theorem dX1_tellCalm_31 : decode cX1_tellCalm 31 = .ok (.iload_n 2, 1) := by decide +kernel
theorem dX1_tellCalm_32 : decode cX1_tellCalm 32 = .ok (.ifCond .eq 7, 3) := by decide +kernel
theorem dX1_tellCalm_35 : decode cX1_tellCalm 35 = .ok (.iconst 1, 1) := by decide +kernel
theorem dX1_tellCalm_36 : decode cX1_tellCalm 36 = .ok (.goto 4, 3) := by decide +kernel
theorem dX1_tellCalm_39 : decode cX1_tellCalm 39 = .ok (.iconst 0, 1) := by decide +kernel
theorem dX1_tellCalm_40 : decode cX1_tellCalm 40 = .ok (.ireturn, 1) := by decide +kernel
theorem dX1_isStorm_0 : decode cX1_isStorm 0 = .ok (.aload_n 0, 1) := by decide +kernel
theorem dX1_isStorm_1 : decode cX1_isStorm 1 = .ok (.getfield 49, 3) := by decide +kernel
theorem dX1_isStorm_4 : decode cX1_isStorm 4 = .ok (.aload_n 0, 1) := by decide +kernel
theorem dX1_isStorm_5 : decode cX1_isStorm 5 = .ok (.getfield 25, 3) := by decide +kernel
theorem dX1_isStorm_8 : decode cX1_isStorm 8 = .ok (.arraylength, 1) := by decide +kernel
theorem dX1_isStorm_9 : decode cX1_isStorm 9 = .ok (.if_icmp .ge 19, 3) := by decide +kernel
theorem dX1_isStorm_12 : decode cX1_isStorm 12 = .ok (.aload_n 0, 1) := by decide +kernel
theorem dX1_isStorm_13 : decode cX1_isStorm 13 = .ok (.getfield 25, 3) := by decide +kernel
theorem dX1_isStorm_16 : decode cX1_isStorm 16 = .ok (.aload_n 0, 1) := by decide +kernel
theorem dX1_isStorm_17 : decode cX1_isStorm 17 = .ok (.getfield 49, 3) := by decide +kernel
theorem dX1_isStorm_20 : decode cX1_isStorm 20 = .ok (.baload, 1) := by decide +kernel
theorem dX1_isStorm_21 : decode cX1_isStorm 21 = .ok (.ifCond .eq 7, 3) := by decide +kernel
theorem dX1_isStorm_24 : decode cX1_isStorm 24 = .ok (.iconst 1, 1) := by decide +kernel
theorem dX1_isStorm_25 : decode cX1_isStorm 25 = .ok (.goto 4, 3) := by decide +kernel
theorem dX1_isStorm_28 : decode cX1_isStorm 28 = .ok (.iconst 0, 1) := by decide +kernel
theorem dX1_isStorm_29 : decode cX1_isStorm 29 = .ok (.ireturn, 1) := by decide +kernel
set_option maxRecDepth 20000 in
theorem ggX1_passNights_X1_passNight : GoodIn wsX1_passNights wsX1_passNight := goodIn_r _ [7, 8, 1, 9, 10, 11, 12, 13, 14, 15, 2, 16, 17, 18, 19, 20, 6, 21, 22, 23, 24, 25, 26, 27, 28, 29, 30, 31, 32, 33, 34, 35, 36, 37, 38, 39, 40, 41, 42, 43, 44, 45, 46, 47, 48, 49, 50, 51, 52, 53, 54, 55, 56, 57, 58, 59, 60, 61, 62, 63, 64, 65, 66, 67, 68, 69, 70, 71, 72, 73, 74, 75, 76, 77, 78, 79, 80, 81, 82, 83, 84, 85, 86, 87, 88, 89, 90, 91, 92, 93, 94, 95, 96, 97, 98, 99, 100, 101, 102, 103, 104, 105] (by decide +kernel) (by decide +kernel)
set_option maxRecDepth 20000 in
theorem gX1_passNights_X1_passNight : GoodIn wsX1_passNights (wsV RX1 110 RX1 yX1_passNight wsX1_passNight) := goodIn_app (goodIn_of _ (by decide +kernel)) ggX1_passNights_X1_passNight
theorem dX1_passNights_0 : decode cX1_passNights 0 = .ok (.iload_n 1, 1) := by decide +kernel
theorem dX1_passNights_1 : decode cX1_passNights 1 = .ok (.iconst 1, 1) := by decide +kernel
theorem dX1_passNights_2 : decode cX1_passNights 2 = .ok (.if_icmp .lt 9, 3) := by decide +kernel
theorem dX1_passNights_5 : decode cX1_passNights 5 = .ok (.iload_n 1, 1) := by decide +kernel
theorem dX1_passNights_6 : decode cX1_passNights 6 = .ok (.bipush 60, 2) := by decide +kernel
theorem dX1_passNights_8 : decode cX1_passNights 8 = .ok (.if_icmp .le 5, 3) := by decide +kernel
theorem dX1_passNights_11 : decode cX1_passNights 11 = .ok (.iconst (-1), 1) := by decide +kernel
theorem dX1_passNights_12 : decode cX1_passNights 12 = .ok (.ireturn, 1) := by decide +kernel
theorem dX1_passNights_13 : decode cX1_passNights 13 = .ok (.aload_n 0, 1) := by decide +kernel
theorem dX1_passNights_14 : decode cX1_passNights 14 = .ok (.getfield 49, 3) := by decide +kernel
theorem dX1_passNights_17 : decode cX1_passNights 17 = .ok (.iload_n 1, 1) := by decide +kernel
theorem dX1_passNights_18 : decode cX1_passNights 18 = .ok (.iadd, 1) := by decide +kernel
theorem dX1_passNights_19 : decode cX1_passNights 19 = .ok (.sipush 365, 3) := by decide +kernel
theorem dX1_passNights_22 : decode cX1_passNights 22 = .ok (.if_icmp .le 6, 3) := by decide +kernel
theorem dX1_passNights_25 : decode cX1_passNights 25 = .ok (.bipush (-3), 2) := by decide +kernel
theorem dX1_passNights_27 : decode cX1_passNights 27 = .ok (.ireturn, 1) := by decide +kernel
theorem dX1_passNights_28 : decode cX1_passNights 28 = .ok (.aload_n 0, 1) := by decide +kernel
theorem dX1_passNights_29 : decode cX1_passNights 29 = .ok (.getfield 56, 3) := by decide +kernel
theorem dX1_passNights_32 : decode cX1_passNights 32 = .ok (.istore_n 2, 1) := by decide +kernel
theorem dX1_passNights_33 : decode cX1_passNights 33 = .ok (.iconst 0, 1) := by decide +kernel
theorem dX1_passNights_34 : decode cX1_passNights 34 = .ok (.istore_n 3, 1) := by decide +kernel
theorem dX1_passNights_35 : decode cX1_passNights 35 = .ok (.iload_n 3, 1) := by decide +kernel
theorem dX1_passNights_36 : decode cX1_passNights 36 = .ok (.iload_n 1, 1) := by decide +kernel
theorem dX1_passNights_37 : decode cX1_passNights 37 = .ok (.if_icmp .ge 14, 3) := by decide +kernel
theorem dX1_passNights_40 : decode cX1_passNights 40 = .ok (.aload_n 0, 1) := by decide +kernel
theorem dX1_passNights_41 : decode cX1_passNights 41 = .ok (.invokevirtual 110, 3) := by decide +kernel
theorem dX1_passNights_44 : decode cX1_passNights 44 = .ok (.pop, 1) := by decide +kernel
theorem dX1_passNights_45 : decode cX1_passNights 45 = .ok (.iinc 3 1, 3) := by decide +kernel
theorem dX1_passNights_48 : decode cX1_passNights 48 = .ok (.goto (-13), 3) := by decide +kernel
theorem dX1_passNights_51 : decode cX1_passNights 51 = .ok (.aload_n 0, 1) := by decide +kernel
theorem dX1_passNights_52 : decode cX1_passNights 52 = .ok (.getfield 56, 3) := by decide +kernel
theorem dX1_passNights_55 : decode cX1_passNights 55 = .ok (.iload_n 2, 1) := by decide +kernel
theorem dX1_passNights_56 : decode cX1_passNights 56 = .ok (.isub, 1) := by decide +kernel
theorem dX1_passNights_57 : decode cX1_passNights 57 = .ok (.ireturn, 1) := by decide +kernel
set_option maxRecDepth 20000 in
theorem ggX1_passNight_X1_isStorm : GoodIn wsX1_passNight wsX1_isStorm := goodIn_r _ [17, 2, 18, 74, 75, 76, 77, 78, 79, 80, 81, 82, 83] (by decide +kernel) (by decide +kernel)
set_option maxRecDepth 20000 in
theorem gX1_passNight_X1_isStorm : GoodIn wsX1_passNight (wsV RX1 79 RX1 yX1_isStorm wsX1_isStorm) := goodIn_app (goodIn_of _ (by decide +kernel)) ggX1_passNight_X1_isStorm
set_option maxRecDepth 20000 in
theorem ggX1_passNight_X2_leave : GoodIn wsX1_passNight wsX2_leave := goodIn_r _ [23, 24, 25, 26, 27, 84, 85, 86, 87, 88, 89, 90] (by decide +kernel) (by decide +kernel)
set_option maxRecDepth 20000 in
theorem gX1_passNight_X2_leave : GoodIn wsX1_passNight (wsV RX1 123 RX2 yX2_leave wsX2_leave) := goodIn_app (goodIn_of _ (by decide +kernel)) ggX1_passNight_X2_leave
set_option maxRecDepth 20000 in
theorem ggX1_passNight_X2_guests : GoodIn wsX1_passNight wsX2_guests := goodIn_r _ [31, 24, 25, 32, 84, 85, 86, 87, 88, 89, 90] (by decide +kernel) (by decide +kernel)
set_option maxRecDepth 20000 in
theorem gX1_passNight_X2_guests : GoodIn wsX1_passNight (wsV RX1 126 RX2 yX2_guests wsX2_guests) := goodIn_app (goodIn_of _ (by decide +kernel)) ggX1_passNight_X2_guests
set_option maxRecDepth 20000 in
theorem ggX1_passNight_X2_arrive : GoodIn wsX1_passNight wsX2_arrive := goodIn_r _ [36, 24, 25, 37, 27, 32, 38, 84, 85, 86, 87, 88, 89, 90] (by decide +kernel) (by decide +kernel)
set_option maxRecDepth 20000 in
theorem gX1_passNight_X2_arrive : GoodIn wsX1_passNight (wsV RX1 130 RX2 yX2_arrive wsX2_arrive) := goodIn_app (goodIn_of _ (by decide +kernel)) ggX1_passNight_X2_arrive
set_option maxRecDepth 20000 in
theorem ggX1_passNight_X4_stock : GoodIn wsX1_passNight wsX4_stock := goodIn_r _ [43, 44, 45, 46, 91, 92, 93, 94, 95, 96, 97, 98, 99, 100, 101] (by decide +kernel) (by decide +kernel)
set_option maxRecDepth 20000 in
theorem gX1_passNight_X4_stock : GoodIn wsX1_passNight (wsV RX1 134 RX4 yX4_stock wsX4_stock) := goodIn_app (goodIn_of _ (by decide +kernel)) ggX1_passNight_X4_stock
set_option maxRecDepth 20000 in
theorem ggX1_passNight_X1_rationFor : GoodIn wsX1_passNight wsX1_rationFor := goodIn_r _ [50, 3, 74, 75, 76, 77, 78, 79, 80, 81, 82, 83] (by decide +kernel) (by decide +kernel)
set_option maxRecDepth 20000 in
theorem gX1_passNight_X1_rationFor : GoodIn wsX1_passNight (wsV RX1 137 RX1 yX1_rationFor wsX1_rationFor) := goodIn_app (goodIn_of _ (by decide +kernel)) ggX1_passNight_X1_rationFor
set_option maxRecDepth 20000 in
theorem ggX1_passNight_X4_take : GoodIn wsX1_passNight wsX4_take := goodIn_r _ [54, 44, 45, 46, 55, 91, 92, 93, 94, 95, 96, 97, 98, 99, 100, 101] (by decide +kernel) (by decide +kernel)
set_option maxRecDepth 20000 in
theorem gX1_passNight_X4_take : GoodIn wsX1_passNight (wsV RX1 141 RX4 yX4_take wsX4_take) := goodIn_app (goodIn_of _ (by decide +kernel)) ggX1_passNight_X4_take
set_option maxRecDepth 20000 in
theorem ggX1_passNight_X1_gasFor : GoodIn wsX1_passNight wsX1_gasFor := goodIn_r _ [59] (by decide +kernel) (by decide +kernel)
set_option maxRecDepth 20000 in
theorem gX1_passNight_X1_gasFor : GoodIn wsX1_passNight (wsV RX1 149 RX1 yX1_gasFor wsX1_gasFor) := goodIn_app (goodIn_of _ (by decide +kernel)) ggX1_passNight_X1_gasFor
set_option maxRecDepth 20000 in
theorem ggX1_passNight_X2_sleepOnce : GoodIn wsX1_passNight wsX2_sleepOnce := goodIn_r _ [63, 24, 25, 26, 84, 85, 86, 87, 88, 89, 90] (by decide +kernel) (by decide +kernel)
set_option maxRecDepth 20000 in
theorem gX1_passNight_X2_sleepOnce : GoodIn wsX1_passNight (wsV RX1 153 RX2 yX2_sleepOnce wsX2_sleepOnce) := goodIn_app (goodIn_of _ (by decide +kernel)) ggX1_passNight_X2_sleepOnce
set_option maxRecDepth 20000 in
theorem ggX1_passNight_X4_spoil : GoodIn wsX1_passNight wsX4_spoil := goodIn_r _ [67, 44, 45, 68, 69, 46, 91, 92, 93, 94, 95, 96, 97, 98, 99, 100, 101] (by decide +kernel) (by decide +kernel)
set_option maxRecDepth 20000 in
theorem gX1_passNight_X4_spoil : GoodIn wsX1_passNight (wsV RX1 156 RX4 yX4_spoil wsX4_spoil) := goodIn_app (goodIn_of _ (by decide +kernel)) ggX1_passNight_X4_spoil
set_option maxRecDepth 20000 in
theorem ggX1_passNight_X4_dropEmptyLots : GoodIn wsX1_passNight wsX4_dropEmptyLots := goodIn_r _ [73, 44, 46, 45, 68, 91, 92, 93, 94, 95, 96, 97, 98, 99, 100, 101] (by decide +kernel) (by decide +kernel)
set_option maxRecDepth 20000 in
theorem gX1_passNight_X4_dropEmptyLots : GoodIn wsX1_passNight (wsV RX1 159 RX4 yX4_dropEmptyLots wsX4_dropEmptyLots) := goodIn_app (goodIn_of _ (by decide +kernel)) ggX1_passNight_X4_dropEmptyLots
theorem dX1_passNight_0 : decode cX1_passNight 0 = .ok (.aload_n 0, 1) := by decide +kernel
theorem dX1_passNight_1 : decode cX1_passNight 1 = .ok (.invokevirtual 79, 3) := by decide +kernel
theorem dX1_passNight_4 : decode cX1_passNight 4 = .ok (.istore_n 1, 1) := by decide +kernel
theorem dX1_passNight_5 : decode cX1_passNight 5 = .ok (.iload_n 1, 1) := by decide +kernel
theorem dX1_passNight_6 : decode cX1_passNight 6 = .ok (.ifCond .ne 10, 3) := by decide +kernel
theorem dX1_passNight_9 : decode cX1_passNight 9 = .ok (.aload_n 0, 1) := by decide +kernel
theorem dX1_passNight_10 : decode cX1_passNight 10 = .ok (.getfield 21, 3) := by decide +kernel
theorem dX1_passNight_13 : decode cX1_passNight 13 = .ok (.invokevirtual 123, 3) := by decide +kernel
theorem dX1_passNight_16 : decode cX1_passNight 16 = .ok (.aload_n 0, 1) := by decide +kernel
theorem dX1_passNight_17 : decode cX1_passNight 17 = .ok (.getfield 21, 3) := by decide +kernel
theorem dX1_passNight_20 : decode cX1_passNight 20 = .ok (.aload_n 0, 1) := by decide +kernel
theorem dX1_passNight_21 : decode cX1_passNight 21 = .ok (.getfield 49, 3) := by decide +kernel
theorem dX1_passNight_24 : decode cX1_passNight 24 = .ok (.iload_n 1, 1) := by decide +kernel
theorem dX1_passNight_25 : decode cX1_passNight 25 = .ok (.aload_n 0, 1) := by decide +kernel
theorem dX1_passNight_26 : decode cX1_passNight 26 = .ok (.getfield 29, 3) := by decide +kernel
theorem dX1_passNight_29 : decode cX1_passNight 29 = .ok (.iconst 0, 1) := by decide +kernel
theorem dX1_passNight_30 : decode cX1_passNight 30 = .ok (.iaload, 1) := by decide +kernel
theorem dX1_passNight_31 : decode cX1_passNight 31 = .ok (.aload_n 0, 1) := by decide +kernel
theorem dX1_passNight_32 : decode cX1_passNight 32 = .ok (.getfield 21, 3) := by decide +kernel
theorem dX1_passNight_35 : decode cX1_passNight 35 = .ok (.invokevirtual 126, 3) := by decide +kernel
theorem dX1_passNight_38 : decode cX1_passNight 38 = .ok (.isub, 1) := by decide +kernel
theorem dX1_passNight_39 : decode cX1_passNight 39 = .ok (.invokevirtual 130, 3) := by decide +kernel
theorem dX1_passNight_42 : decode cX1_passNight 42 = .ok (.istore_n 2, 1) := by decide +kernel
theorem dX1_passNight_43 : decode cX1_passNight 43 = .ok (.aload_n 0, 1) := by decide +kernel
theorem dX1_passNight_44 : decode cX1_passNight 44 = .ok (.getfield 21, 3) := by decide +kernel
theorem dX1_passNight_47 : decode cX1_passNight 47 = .ok (.invokevirtual 126, 3) := by decide +kernel
theorem dX1_passNight_50 : decode cX1_passNight 50 = .ok (.istore_n 3, 1) := by decide +kernel
theorem dX1_passNight_51 : decode cX1_passNight 51 = .ok (.aload_n 0, 1) := by decide +kernel
theorem dX1_passNight_52 : decode cX1_passNight 52 = .ok (.iload_n 3, 1) := by decide +kernel
theorem dX1_passNight_53 : decode cX1_passNight 53 = .ok (.aload_n 0, 1) := by decide +kernel
theorem dX1_passNight_54 : decode cX1_passNight 54 = .ok (.getfield 12, 3) := by decide +kernel
theorem dX1_passNight_57 : decode cX1_passNight 57 = .ok (.iconst 0, 1) := by decide +kernel
theorem dX1_passNight_58 : decode cX1_passNight 58 = .ok (.invokevirtual 134, 3) := by decide +kernel
theorem dX1_passNight_61 : decode cX1_passNight 61 = .ok (.invokevirtual 137, 3) := by decide +kernel
theorem dX1_passNight_64 : decode cX1_passNight 64 = .ok (.istore 4, 2) := by decide +kernel
theorem dX1_passNight_66 : decode cX1_passNight 66 = .ok (.iload 4, 2) := by decide +kernel
theorem dX1_passNight_68 : decode cX1_passNight 68 = .ok (.aload_n 0, 1) := by decide +kernel
theorem dX1_passNight_69 : decode cX1_passNight 69 = .ok (.getfield 29, 3) := by decide +kernel
theorem dX1_passNight_72 : decode cX1_passNight 72 = .ok (.iconst 1, 1) := by decide +kernel
theorem dX1_passNight_73 : decode cX1_passNight 73 = .ok (.iaload, 1) := by decide +kernel
theorem dX1_passNight_74 : decode cX1_passNight 74 = .ok (.if_icmp .ge 13, 3) := by decide +kernel
theorem dX1_passNight_77 : decode cX1_passNight 77 = .ok (.aload_n 0, 1) := by decide +kernel
theorem dX1_passNight_78 : decode cX1_passNight 78 = .ok (.dup, 1) := by decide +kernel
theorem dX1_passNight_79 : decode cX1_passNight 79 = .ok (.getfield 65, 3) := by decide +kernel
theorem dX1_passNight_82 : decode cX1_passNight 82 = .ok (.iconst 1, 1) := by decide +kernel
theorem dX1_passNight_83 : decode cX1_passNight 83 = .ok (.iadd, 1) := by decide +kernel
theorem dX1_passNight_84 : decode cX1_passNight 84 = .ok (.putfield 65, 3) := by decide +kernel
theorem dX1_passNight_87 : decode cX1_passNight 87 = .ok (.iload_n 3, 1) := by decide +kernel
theorem dX1_passNight_88 : decode cX1_passNight 88 = .ok (.iload 4, 2) := by decide +kernel
theorem dX1_passNight_90 : decode cX1_passNight 90 = .ok (.imul, 1) := by decide +kernel
theorem dX1_passNight_91 : decode cX1_passNight 91 = .ok (.iload_n 3, 1) := by decide +kernel
theorem dX1_passNight_92 : decode cX1_passNight 92 = .ok (.iadd, 1) := by decide +kernel
theorem dX1_passNight_93 : decode cX1_passNight 93 = .ok (.aload_n 0, 1) := by decide +kernel
theorem dX1_passNight_94 : decode cX1_passNight 94 = .ok (.getfield 12, 3) := by decide +kernel
theorem dX1_passNight_97 : decode cX1_passNight 97 = .ok (.iconst 1, 1) := by decide +kernel
theorem dX1_passNight_98 : decode cX1_passNight 98 = .ok (.iload_n 3, 1) := by decide +kernel
theorem dX1_passNight_99 : decode cX1_passNight 99 = .ok (.invokevirtual 141, 3) := by decide +kernel
theorem dX1_passNight_102 : decode cX1_passNight 102 = .ok (.isub, 1) := by decide +kernel
theorem dX1_passNight_103 : decode cX1_passNight 103 = .ok (.istore 5, 2) := by decide +kernel
theorem dX1_passNight_105 : decode cX1_passNight 105 = .ok (.iload_n 3, 1) := by decide +kernel
theorem dX1_passNight_106 : decode cX1_passNight 106 = .ok (.iload 5, 2) := by decide +kernel
theorem dX1_passNight_108 : decode cX1_passNight 108 = .ok (.aload_n 0, 1) := by decide +kernel
theorem dX1_passNight_109 : decode cX1_passNight 109 = .ok (.getfield 12, 3) := by decide +kernel
theorem dX1_passNight_112 : decode cX1_passNight 112 = .ok (.iconst 0, 1) := by decide +kernel
theorem dX1_passNight_113 : decode cX1_passNight 113 = .ok (.iload 5, 2) := by decide +kernel
theorem dX1_passNight_115 : decode cX1_passNight 115 = .ok (.invokevirtual 141, 3) := by decide +kernel
theorem dX1_passNight_118 : decode cX1_passNight 118 = .ok (.isub, 1) := by decide +kernel
theorem dX1_passNight_119 : decode cX1_passNight 119 = .ok (.invokestatic 144, 3) := by decide +kernel
theorem dX1_passNight_122 : decode cX1_passNight 122 = .ok (.istore 6, 2) := by decide +kernel
theorem dX1_passNight_124 : decode cX1_passNight 124 = .ok (.aload_n 0, 1) := by decide +kernel
theorem dX1_passNight_125 : decode cX1_passNight 125 = .ok (.iload_n 3, 1) := by decide +kernel
theorem dX1_passNight_126 : decode cX1_passNight 126 = .ok (.iload_n 1, 1) := by decide +kernel
theorem dX1_passNight_127 : decode cX1_passNight 127 = .ok (.invokevirtual 149, 3) := by decide +kernel
theorem dX1_passNight_130 : decode cX1_passNight 130 = .ok (.istore 7, 2) := by decide +kernel
theorem dX1_passNight_132 : decode cX1_passNight 132 = .ok (.aload_n 0, 1) := by decide +kernel
theorem dX1_passNight_133 : decode cX1_passNight 133 = .ok (.getfield 12, 3) := by decide +kernel
theorem dX1_passNight_136 : decode cX1_passNight 136 = .ok (.iconst 2, 1) := by decide +kernel
theorem dX1_passNight_137 : decode cX1_passNight 137 = .ok (.iload 7, 2) := by decide +kernel
theorem dX1_passNight_139 : decode cX1_passNight 139 = .ok (.invokevirtual 141, 3) := by decide +kernel
theorem dX1_passNight_142 : decode cX1_passNight 142 = .ok (.iload 7, 2) := by decide +kernel
theorem dX1_passNight_144 : decode cX1_passNight 144 = .ok (.if_icmp .ge 7, 3) := by decide +kernel
theorem dX1_passNight_147 : decode cX1_passNight 147 = .ok (.iconst 1, 1) := by decide +kernel
theorem dX1_passNight_148 : decode cX1_passNight 148 = .ok (.goto 4, 3) := by decide +kernel
theorem dX1_passNight_151 : decode cX1_passNight 151 = .ok (.iconst 0, 1) := by decide +kernel
theorem dX1_passNight_152 : decode cX1_passNight 152 = .ok (.istore 8, 2) := by decide +kernel
theorem dX1_passNight_154 : decode cX1_passNight 154 = .ok (.aload_n 0, 1) := by decide +kernel
theorem dX1_passNight_155 : decode cX1_passNight 155 = .ok (.dup, 1) := by decide +kernel
theorem dX1_passNight_156 : decode cX1_passNight 156 = .ok (.getfield 56, 3) := by decide +kernel
theorem dX1_passNight_159 : decode cX1_passNight 159 = .ok (.iload 6, 2) := by decide +kernel
theorem dX1_passNight_161 : decode cX1_passNight 161 = .ok (.iadd, 1) := by decide +kernel
theorem dX1_passNight_162 : decode cX1_passNight 162 = .ok (.putfield 56, 3) := by decide +kernel
theorem dX1_passNight_165 : decode cX1_passNight 165 = .ok (.iload 8, 2) := by decide +kernel
theorem dX1_passNight_167 : decode cX1_passNight 167 = .ok (.ifCond .eq 13, 3) := by decide +kernel
theorem dX1_passNight_170 : decode cX1_passNight 170 = .ok (.aload_n 0, 1) := by decide +kernel
theorem dX1_passNight_171 : decode cX1_passNight 171 = .ok (.dup, 1) := by decide +kernel
theorem dX1_passNight_172 : decode cX1_passNight 172 = .ok (.getfield 59, 3) := by decide +kernel
theorem dX1_passNight_175 : decode cX1_passNight 175 = .ok (.iconst 1, 1) := by decide +kernel
theorem dX1_passNight_176 : decode cX1_passNight 176 = .ok (.iadd, 1) := by decide +kernel
theorem dX1_passNight_177 : decode cX1_passNight 177 = .ok (.putfield 59, 3) := by decide +kernel
theorem dX1_passNight_180 : decode cX1_passNight 180 = .ok (.aload_n 0, 1) := by decide +kernel
theorem dX1_passNight_181 : decode cX1_passNight 181 = .ok (.dup, 1) := by decide +kernel
theorem dX1_passNight_182 : decode cX1_passNight 182 = .ok (.getfield 62, 3) := by decide +kernel
theorem dX1_passNight_185 : decode cX1_passNight 185 = .ok (.iload_n 3, 1) := by decide +kernel
theorem dX1_passNight_186 : decode cX1_passNight 186 = .ok (.iadd, 1) := by decide +kernel
theorem dX1_passNight_187 : decode cX1_passNight 187 = .ok (.putfield 62, 3) := by decide +kernel
theorem dX1_passNight_190 : decode cX1_passNight 190 = .ok (.aload_n 0, 1) := by decide +kernel
theorem dX1_passNight_191 : decode cX1_passNight 191 = .ok (.getfield 21, 3) := by decide +kernel
theorem dX1_passNight_194 : decode cX1_passNight 194 = .ok (.invokevirtual 153, 3) := by decide +kernel
theorem dX1_passNight_197 : decode cX1_passNight 197 = .ok (.aload_n 0, 1) := by decide +kernel
theorem dX1_passNight_198 : decode cX1_passNight 198 = .ok (.getfield 12, 3) := by decide +kernel
theorem dX1_passNight_201 : decode cX1_passNight 201 = .ok (.aload_n 0, 1) := by decide +kernel
theorem dX1_passNight_202 : decode cX1_passNight 202 = .ok (.getfield 49, 3) := by decide +kernel
theorem dX1_passNight_205 : decode cX1_passNight 205 = .ok (.invokevirtual 156, 3) := by decide +kernel
theorem dX1_passNight_208 : decode cX1_passNight 208 = .ok (.aload_n 0, 1) := by decide +kernel
theorem dX1_passNight_209 : decode cX1_passNight 209 = .ok (.getfield 12, 3) := by decide +kernel
theorem dX1_passNight_212 : decode cX1_passNight 212 = .ok (.invokevirtual 159, 3) := by decide +kernel
theorem dX1_passNight_215 : decode cX1_passNight 215 = .ok (.aload_n 0, 1) := by decide +kernel
theorem dX1_passNight_216 : decode cX1_passNight 216 = .ok (.dup, 1) := by decide +kernel
theorem dX1_passNight_217 : decode cX1_passNight 217 = .ok (.getfield 49, 3) := by decide +kernel
theorem dX1_passNight_220 : decode cX1_passNight 220 = .ok (.iconst 1, 1) := by decide +kernel
theorem dX1_passNight_221 : decode cX1_passNight 221 = .ok (.iadd, 1) := by decide +kernel
theorem dX1_passNight_222 : decode cX1_passNight 222 = .ok (.putfield 49, 3) := by decide +kernel
theorem dX1_passNight_225 : decode cX1_passNight 225 = .ok (.iload_n 2, 1) := by decide +kernel
theorem dX1_passNight_226 : decode cX1_passNight 226 = .ok (.ifCond .eq 17, 3) := by decide +kernel
theorem dX1_passNight_229 : decode cX1_passNight 229 = .ok (.iload 6, 2) := by decide +kernel
theorem dX1_passNight_231 : decode cX1_passNight 231 = .ok (.ifCond .ne 12, 3) := by decide +kernel
theorem dX1_passNight_234 : decode cX1_passNight 234 = .ok (.iload 8, 2) := by decide +kernel
theorem dX1_passNight_236 : decode cX1_passNight 236 = .ok (.ifCond .ne 7, 3) := by decide +kernel
theorem dX1_passNight_239 : decode cX1_passNight 239 = .ok (.iconst 1, 1) := by decide +kernel
theorem dX1_passNight_240 : decode cX1_passNight 240 = .ok (.goto 4, 3) := by decide +kernel
theorem dX1_passNight_243 : decode cX1_passNight 243 = .ok (.iconst 0, 1) := by decide +kernel
theorem dX1_passNight_244 : decode cX1_passNight 244 = .ok (.ireturn, 1) := by decide +kernel
theorem dX1_rationFor_0 : decode cX1_rationFor 0 = .ok (.aload_n 0, 1) := by decide +kernel
theorem dX1_rationFor_1 : decode cX1_rationFor 1 = .ok (.getfield 29, 3) := by decide +kernel
theorem dX1_rationFor_4 : decode cX1_rationFor 4 = .ok (.iconst 1, 1) := by decide +kernel
theorem dX1_rationFor_5 : decode cX1_rationFor 5 = .ok (.iaload, 1) := by decide +kernel
theorem dX1_rationFor_6 : decode cX1_rationFor 6 = .ok (.istore_n 3, 1) := by decide +kernel
theorem dX1_rationFor_7 : decode cX1_rationFor 7 = .ok (.iload_n 2, 1) := by decide +kernel
theorem dX1_rationFor_8 : decode cX1_rationFor 8 = .ok (.aload_n 0, 1) := by decide +kernel
theorem dX1_rationFor_9 : decode cX1_rationFor 9 = .ok (.getfield 29, 3) := by decide +kernel
theorem dX1_rationFor_12 : decode cX1_rationFor 12 = .ok (.iconst 2, 1) := by decide +kernel
theorem dX1_rationFor_13 : decode cX1_rationFor 13 = .ok (.iaload, 1) := by decide +kernel
theorem dX1_rationFor_14 : decode cX1_rationFor 14 = .ok (.iload_n 1, 1) := by decide +kernel
theorem dX1_rationFor_15 : decode cX1_rationFor 15 = .ok (.imul, 1) := by decide +kernel
theorem dX1_rationFor_16 : decode cX1_rationFor 16 = .ok (.iload_n 3, 1) := by decide +kernel
theorem dX1_rationFor_17 : decode cX1_rationFor 17 = .ok (.imul, 1) := by decide +kernel
theorem dX1_rationFor_18 : decode cX1_rationFor 18 = .ok (.if_icmp .ge 7, 3) := by decide +kernel
theorem dX1_rationFor_21 : decode cX1_rationFor 21 = .ok (.iconst 1, 1) := by decide +kernel
theorem dX1_rationFor_22 : decode cX1_rationFor 22 = .ok (.goto 4, 3) := by decide +kernel
theorem dX1_rationFor_25 : decode cX1_rationFor 25 = .ok (.iload_n 3, 1) := by decide +kernel
theorem dX1_rationFor_26 : decode cX1_rationFor 26 = .ok (.ireturn, 1) := by decide +kernel
theorem dX1_gasFor_0 : decode cX1_gasFor 0 = .ok (.iload_n 1, 1) := by decide +kernel
theorem dX1_gasFor_1 : decode cX1_gasFor 1 = .ok (.ifCond .ne 5, 3) := by decide +kernel
theorem dX1_gasFor_4 : decode cX1_gasFor 4 = .ok (.iconst 0, 1) := by decide +kernel
theorem dX1_gasFor_5 : decode cX1_gasFor 5 = .ok (.ireturn, 1) := by decide +kernel
theorem dX1_gasFor_6 : decode cX1_gasFor 6 = .ok (.iload_n 1, 1) := by decide +kernel
theorem dX1_gasFor_7 : decode cX1_gasFor 7 = .ok (.iconst 3, 1) := by decide +kernel
theorem dX1_gasFor_8 : decode cX1_gasFor 8 = .ok (.iadd, 1) := by decide +kernel
theorem dX1_gasFor_9 : decode cX1_gasFor 9 = .ok (.iconst 4, 1) := by decide +kernel
theorem dX1_gasFor_10 : decode cX1_gasFor 10 = .ok (.idiv, 1) := by decide +kernel
theorem dX1_gasFor_11 : decode cX1_gasFor 11 = .ok (.iload_n 2, 1) := by decide +kernel
theorem dX1_gasFor_12 : decode cX1_gasFor 12 = .ok (.ifCond .eq 7, 3) := by decide +kernel
theorem dX1_gasFor_15 : decode cX1_gasFor 15 = .ok (.iconst 1, 1) := by decide +kernel
theorem dX1_gasFor_16 : decode cX1_gasFor 16 = .ok (.goto 4, 3) := by decide +kernel
theorem dX1_gasFor_19 : decode cX1_gasFor 19 = .ok (.iconst 0, 1) := by decide +kernel
theorem dX1_gasFor_20 : decode cX1_gasFor 20 = .ok (.iadd, 1) := by decide +kernel
theorem dX1_gasFor_21 : decode cX1_gasFor 21 = .ok (.ireturn, 1) := by decide +kernel
theorem dX1_changeSetting_0 : decode cX1_changeSetting 0 = .ok (.iload_n 1, 1) := by decide +kernel
theorem dX1_changeSetting_1 : decode cX1_changeSetting 1 = .ok (.ifCond .lt 26, 3) := by decide +kernel
theorem dX1_changeSetting_4 : decode cX1_changeSetting 4 = .ok (.iload_n 1, 1) := by decide +kernel
theorem dX1_changeSetting_5 : decode cX1_changeSetting 5 = .ok (.iconst 4, 1) := by decide +kernel
theorem dX1_changeSetting_6 : decode cX1_changeSetting 6 = .ok (.if_icmp .ge 21, 3) := by decide +kernel
theorem dX1_changeSetting_9 : decode cX1_changeSetting 9 = .ok (.iload_n 2, 1) := by decide +kernel
theorem dX1_changeSetting_10 : decode cX1_changeSetting 10 = .ok (.getstatic 162, 3) := by decide +kernel
theorem dX1_changeSetting_13 : decode cX1_changeSetting 13 = .ok (.iload_n 1, 1) := by decide +kernel
theorem dX1_changeSetting_14 : decode cX1_changeSetting 14 = .ok (.iaload, 1) := by decide +kernel
theorem dX1_changeSetting_15 : decode cX1_changeSetting 15 = .ok (.if_icmp .lt 12, 3) := by decide +kernel
theorem dX1_changeSetting_18 : decode cX1_changeSetting 18 = .ok (.iload_n 2, 1) := by decide +kernel
theorem dX1_changeSetting_19 : decode cX1_changeSetting 19 = .ok (.getstatic 165, 3) := by decide +kernel
theorem dX1_changeSetting_22 : decode cX1_changeSetting 22 = .ok (.iload_n 1, 1) := by decide +kernel
theorem dX1_changeSetting_23 : decode cX1_changeSetting 23 = .ok (.iaload, 1) := by decide +kernel
theorem dX1_changeSetting_24 : decode cX1_changeSetting 24 = .ok (.if_icmp .le 5, 3) := by decide +kernel
theorem dX1_changeSetting_27 : decode cX1_changeSetting 27 = .ok (.iconst (-1), 1) := by decide +kernel
theorem dX1_changeSetting_28 : decode cX1_changeSetting 28 = .ok (.ireturn, 1) := by decide +kernel
theorem dX1_changeSetting_29 : decode cX1_changeSetting 29 = .ok (.aload_n 0, 1) := by decide +kernel
theorem dX1_changeSetting_30 : decode cX1_changeSetting 30 = .ok (.getfield 29, 3) := by decide +kernel
theorem dX1_changeSetting_33 : decode cX1_changeSetting 33 = .ok (.iload_n 1, 1) := by decide +kernel
theorem dX1_changeSetting_34 : decode cX1_changeSetting 34 = .ok (.iaload, 1) := by decide +kernel
theorem dX1_changeSetting_35 : decode cX1_changeSetting 35 = .ok (.istore_n 3, 1) := by decide +kernel
theorem dX1_changeSetting_36 : decode cX1_changeSetting 36 = .ok (.aload_n 0, 1) := by decide +kernel
theorem dX1_changeSetting_37 : decode cX1_changeSetting 37 = .ok (.getfield 29, 3) := by decide +kernel
theorem dX1_changeSetting_40 : decode cX1_changeSetting 40 = .ok (.iload_n 1, 1) := by decide +kernel
theorem dX1_changeSetting_41 : decode cX1_changeSetting 41 = .ok (.iload_n 2, 1) := by decide +kernel
theorem dX1_changeSetting_42 : decode cX1_changeSetting 42 = .ok (.iastore, 1) := by decide +kernel
theorem dX1_changeSetting_43 : decode cX1_changeSetting 43 = .ok (.iload_n 3, 1) := by decide +kernel
theorem dX1_changeSetting_44 : decode cX1_changeSetting 44 = .ok (.ireturn, 1) := by decide +kernel
theorem dX1_settingAt_0 : decode cX1_settingAt 0 = .ok (.iload_n 1, 1) := by decide +kernel
theorem dX1_settingAt_1 : decode cX1_settingAt 1 = .ok (.ifCond .lt 17, 3) := by decide +kernel
theorem dX1_settingAt_4 : decode cX1_settingAt 4 = .ok (.iload_n 1, 1) := by decide +kernel
theorem dX1_settingAt_5 : decode cX1_settingAt 5 = .ok (.iconst 4, 1) := by decide +kernel
theorem dX1_settingAt_6 : decode cX1_settingAt 6 = .ok (.if_icmp .ge 12, 3) := by decide +kernel
theorem dX1_settingAt_9 : decode cX1_settingAt 9 = .ok (.aload_n 0, 1) := by decide +kernel
theorem dX1_settingAt_10 : decode cX1_settingAt 10 = .ok (.getfield 29, 3) := by decide +kernel
theorem dX1_settingAt_13 : decode cX1_settingAt 13 = .ok (.iload_n 1, 1) := by decide +kernel
theorem dX1_settingAt_14 : decode cX1_settingAt 14 = .ok (.iaload, 1) := by decide +kernel
theorem dX1_settingAt_15 : decode cX1_settingAt 15 = .ok (.goto 4, 3) := by decide +kernel
theorem dX1_settingAt_18 : decode cX1_settingAt 18 = .ok (.iconst (-1), 1) := by decide +kernel
theorem dX1_settingAt_19 : decode cX1_settingAt 19 = .ok (.ireturn, 1) := by decide +kernel
set_option maxRecDepth 20000 in
theorem ggX1_dayWhenGone_X2_isAwaited : GoodIn wsX1_dayWhenGone wsX2_isAwaited := goodIn_r _ [7, 8, 9, 10, 11, 6, 12, 13, 100, 101, 102, 103, 104, 105, 106] (by decide +kernel) (by decide +kernel)
set_option maxRecDepth 20000 in
theorem gX1_dayWhenGone_X2_isAwaited : GoodIn wsX1_dayWhenGone (wsV RX1 168 RX2 yX2_isAwaited wsX2_isAwaited) := goodIn_app (goodIn_of _ (by decide +kernel)) ggX1_dayWhenGone_X2_isAwaited
set_option maxRecDepth 20000 in
theorem ggX1_dayWhenGone_X1_passNight : GoodIn wsX1_dayWhenGone wsX1_passNight := goodIn_r _ [18, 1, 2, 19, 20, 21, 22, 23, 24, 25, 26, 27, 28, 29, 30, 31, 17, 32, 33, 34, 35, 36, 6, 37, 13, 8, 38, 39, 40, 41, 42, 43, 44, 45, 46, 47, 48, 49, 50, 51, 52, 53, 54, 55, 56, 57, 58, 59, 60, 61, 62, 63, 64, 65, 66, 67, 68, 69, 70, 71, 72, 73, 74, 75, 76, 77, 78, 79, 80, 81, 82, 83, 84, 85, 90, 91, 92, 93, 94, 95, 96, 97, 98, 99, 100, 101, 102, 103, 104, 105, 106, 107, 108, 109, 110, 111, 112, 113, 114, 115, 116, 117] (by decide +kernel) (by decide +kernel)
set_option maxRecDepth 20000 in
theorem gX1_dayWhenGone_X1_passNight : GoodIn wsX1_dayWhenGone (wsV RX1 110 RX1 yX1_passNight wsX1_passNight) := goodIn_app (goodIn_of _ (by decide +kernel)) ggX1_dayWhenGone_X1_passNight
set_option maxRecDepth 20000 in
theorem ggX1_dayWhenGone_X2_hasStatus : GoodIn wsX1_dayWhenGone wsX2_hasStatus := goodIn_r _ [89, 8, 9, 10, 11, 6, 12, 13, 100, 101, 102, 103, 104, 105, 106] (by decide +kernel) (by decide +kernel)
set_option maxRecDepth 20000 in
theorem gX1_dayWhenGone_X2_hasStatus : GoodIn wsX1_dayWhenGone (wsV RX1 171 RX2 yX2_hasStatus wsX2_hasStatus) := goodIn_app (goodIn_of _ (by decide +kernel)) ggX1_dayWhenGone_X2_hasStatus
theorem dX1_dayWhenGone_0 : decode cX1_dayWhenGone 0 = .ok (.iconst 0, 1) := by decide +kernel
theorem dX1_dayWhenGone_1 : decode cX1_dayWhenGone 1 = .ok (.istore_n 2, 1) := by decide +kernel
theorem dX1_dayWhenGone_2 : decode cX1_dayWhenGone 2 = .ok (.iload_n 2, 1) := by decide +kernel
theorem dX1_dayWhenGone_3 : decode cX1_dayWhenGone 3 = .ok (.sipush 1000, 3) := by decide +kernel
theorem dX1_dayWhenGone_6 : decode cX1_dayWhenGone 6 = .ok (.if_icmp .ge 25, 3) := by decide +kernel
theorem dX1_dayWhenGone_9 : decode cX1_dayWhenGone 9 = .ok (.aload_n 0, 1) := by decide +kernel
theorem dX1_dayWhenGone_10 : decode cX1_dayWhenGone 10 = .ok (.getfield 21, 3) := by decide +kernel
theorem dX1_dayWhenGone_13 : decode cX1_dayWhenGone 13 = .ok (.iload_n 1, 1) := by decide +kernel
theorem dX1_dayWhenGone_14 : decode cX1_dayWhenGone 14 = .ok (.invokevirtual 168, 3) := by decide +kernel
theorem dX1_dayWhenGone_17 : decode cX1_dayWhenGone 17 = .ok (.ifCond .eq 14, 3) := by decide +kernel
theorem dX1_dayWhenGone_20 : decode cX1_dayWhenGone 20 = .ok (.aload_n 0, 1) := by decide +kernel
theorem dX1_dayWhenGone_21 : decode cX1_dayWhenGone 21 = .ok (.invokevirtual 110, 3) := by decide +kernel
theorem dX1_dayWhenGone_24 : decode cX1_dayWhenGone 24 = .ok (.pop, 1) := by decide +kernel
theorem dX1_dayWhenGone_25 : decode cX1_dayWhenGone 25 = .ok (.iinc 2 1, 3) := by decide +kernel
theorem dX1_dayWhenGone_28 : decode cX1_dayWhenGone 28 = .ok (.goto (-26), 3) := by decide +kernel
theorem dX1_dayWhenGone_31 : decode cX1_dayWhenGone 31 = .ok (.aload_n 0, 1) := by decide +kernel
theorem dX1_dayWhenGone_32 : decode cX1_dayWhenGone 32 = .ok (.getfield 21, 3) := by decide +kernel
theorem dX1_dayWhenGone_35 : decode cX1_dayWhenGone 35 = .ok (.iload_n 1, 1) := by decide +kernel
theorem dX1_dayWhenGone_36 : decode cX1_dayWhenGone 36 = .ok (.iconst 2, 1) := by decide +kernel
theorem dX1_dayWhenGone_37 : decode cX1_dayWhenGone 37 = .ok (.invokevirtual 171, 3) := by decide +kernel
theorem dX1_dayWhenGone_40 : decode cX1_dayWhenGone 40 = .ok (.ifCond .eq 12, 3) := by decide +kernel
theorem dX1_dayWhenGone_43 : decode cX1_dayWhenGone 43 = .ok (.aload_n 0, 1) := by decide +kernel
theorem dX1_dayWhenGone_44 : decode cX1_dayWhenGone 44 = .ok (.getfield 49, 3) := by decide +kernel
theorem dX1_dayWhenGone_47 : decode cX1_dayWhenGone 47 = .ok (.iconst 1, 1) := by decide +kernel
theorem dX1_dayWhenGone_48 : decode cX1_dayWhenGone 48 = .ok (.isub, 1) := by decide +kernel
theorem dX1_dayWhenGone_49 : decode cX1_dayWhenGone 49 = .ok (.goto 5, 3) := by decide +kernel
theorem dX1_dayWhenGone_52 : decode cX1_dayWhenGone 52 = .ok (.bipush (-4), 2) := by decide +kernel
theorem dX1_dayWhenGone_54 : decode cX1_dayWhenGone 54 = .ok (.ireturn, 1) := by decide +kernel
set_option maxRecDepth 20000 in
theorem ggX1_dayWhenOut_X2_anyAwaited : GoodIn wsX1_dayWhenOut wsX2_anyAwaited := goodIn_r _ [8, 9, 10, 92, 93, 94, 95, 96, 97, 98] (by decide +kernel) (by decide +kernel)
set_option maxRecDepth 20000 in
theorem gX1_dayWhenOut_X2_anyAwaited : GoodIn wsX1_dayWhenOut (wsV RX1 107 RX2 yX2_anyAwaited wsX2_anyAwaited) := goodIn_app (goodIn_of _ (by decide +kernel)) ggX1_dayWhenOut_X2_anyAwaited
set_option maxRecDepth 20000 in
theorem ggX1_dayWhenOut_X1_passNight : GoodIn wsX1_dayWhenOut wsX1_passNight := goodIn_r _ [15, 1, 3, 16, 2, 17, 18, 19, 20, 21, 22, 23, 24, 25, 26, 27, 14, 28, 29, 30, 31, 32, 7, 33, 9, 10, 34, 35, 36, 37, 38, 39, 40, 41, 42, 43, 44, 45, 46, 47, 48, 49, 50, 51, 52, 53, 54, 55, 56, 57, 58, 59, 60, 61, 62, 63, 64, 65, 66, 67, 68, 69, 70, 71, 72, 73, 74, 75, 76, 77, 78, 79, 80, 81, 82, 83, 84, 85, 86, 87, 88, 89, 90, 91, 92, 93, 94, 95, 96, 97, 98, 99, 100, 101, 102, 103, 104, 105, 106, 107, 108, 109] (by decide +kernel) (by decide +kernel)
set_option maxRecDepth 20000 in
theorem gX1_dayWhenOut_X1_passNight : GoodIn wsX1_dayWhenOut (wsV RX1 110 RX1 yX1_passNight wsX1_passNight) := goodIn_app (goodIn_of _ (by decide +kernel)) ggX1_dayWhenOut_X1_passNight
set_option maxRecDepth 20000 in
theorem ggX1_dayWhenOut_X4_stock : GoodIn wsX1_dayWhenOut wsX4_stock := goodIn_r _ [51, 52, 53, 54, 99, 100, 101, 102, 103, 104, 105, 106, 107, 108, 109] (by decide +kernel) (by decide +kernel)
set_option maxRecDepth 20000 in
theorem gX1_dayWhenOut_X4_stock : GoodIn wsX1_dayWhenOut (wsV RX1 134 RX4 yX4_stock wsX4_stock) := goodIn_app (goodIn_of _ (by decide +kernel)) ggX1_dayWhenOut_X4_stock
theorem dX1_dayWhenOut_0 : decode cX1_dayWhenOut 0 = .ok (.iconst 0, 1) := by decide +kernel
theorem dX1_dayWhenOut_1 : decode cX1_dayWhenOut 1 = .ok (.istore_n 2, 1) := by decide +kernel
theorem dX1_dayWhenOut_2 : decode cX1_dayWhenOut 2 = .ok (.iload_n 2, 1) := by decide +kernel
theorem dX1_dayWhenOut_3 : decode cX1_dayWhenOut 3 = .ok (.sipush 1000, 3) := by decide +kernel
theorem dX1_dayWhenOut_6 : decode cX1_dayWhenOut 6 = .ok (.if_icmp .ge 42, 3) := by decide +kernel
theorem dX1_dayWhenOut_9 : decode cX1_dayWhenOut 9 = .ok (.aload_n 0, 1) := by decide +kernel
theorem dX1_dayWhenOut_10 : decode cX1_dayWhenOut 10 = .ok (.getfield 21, 3) := by decide +kernel
theorem dX1_dayWhenOut_13 : decode cX1_dayWhenOut 13 = .ok (.invokevirtual 107, 3) := by decide +kernel
theorem dX1_dayWhenOut_16 : decode cX1_dayWhenOut 16 = .ok (.ifCond .eq 32, 3) := by decide +kernel
theorem dX1_dayWhenOut_19 : decode cX1_dayWhenOut 19 = .ok (.aload_n 0, 1) := by decide +kernel
theorem dX1_dayWhenOut_20 : decode cX1_dayWhenOut 20 = .ok (.invokevirtual 110, 3) := by decide +kernel
theorem dX1_dayWhenOut_23 : decode cX1_dayWhenOut 23 = .ok (.pop, 1) := by decide +kernel
theorem dX1_dayWhenOut_24 : decode cX1_dayWhenOut 24 = .ok (.aload_n 0, 1) := by decide +kernel
theorem dX1_dayWhenOut_25 : decode cX1_dayWhenOut 25 = .ok (.getfield 12, 3) := by decide +kernel
theorem dX1_dayWhenOut_28 : decode cX1_dayWhenOut 28 = .ok (.iload_n 1, 1) := by decide +kernel
theorem dX1_dayWhenOut_29 : decode cX1_dayWhenOut 29 = .ok (.invokevirtual 134, 3) := by decide +kernel
theorem dX1_dayWhenOut_32 : decode cX1_dayWhenOut 32 = .ok (.ifCond .ne 10, 3) := by decide +kernel
theorem dX1_dayWhenOut_35 : decode cX1_dayWhenOut 35 = .ok (.aload_n 0, 1) := by decide +kernel
theorem dX1_dayWhenOut_36 : decode cX1_dayWhenOut 36 = .ok (.getfield 49, 3) := by decide +kernel
theorem dX1_dayWhenOut_39 : decode cX1_dayWhenOut 39 = .ok (.iconst 1, 1) := by decide +kernel
theorem dX1_dayWhenOut_40 : decode cX1_dayWhenOut 40 = .ok (.isub, 1) := by decide +kernel
theorem dX1_dayWhenOut_41 : decode cX1_dayWhenOut 41 = .ok (.ireturn, 1) := by decide +kernel
theorem dX1_dayWhenOut_42 : decode cX1_dayWhenOut 42 = .ok (.iinc 2 1, 3) := by decide +kernel
theorem dX1_dayWhenOut_45 : decode cX1_dayWhenOut 45 = .ok (.goto (-43), 3) := by decide +kernel
theorem dX1_dayWhenOut_48 : decode cX1_dayWhenOut 48 = .ok (.bipush (-4), 2) := by decide +kernel
theorem dX1_dayWhenOut_50 : decode cX1_dayWhenOut 50 = .ok (.ireturn, 1) := by decide +kernel
theorem dX2_init_0 : decode cX2_init 0 = .ok (.aload_n 0, 1) := by decide +kernel
theorem dX2_init_1 : decode cX2_init 1 = .ok (.invokespecial 3, 3) := by decide +kernel
theorem dX2_init_4 : decode cX2_init 4 = .ok (.aload_n 0, 1) := by decide +kernel
theorem dX2_init_5 : decode cX2_init 5 = .ok (.bipush 17, 2) := by decide +kernel
theorem dX2_init_7 : decode cX2_init 7 = .ok (.newarray .int, 2) := by decide +kernel
theorem dX2_init_9 : decode cX2_init 9 = .ok (.putfield 9, 3) := by decide +kernel
theorem dX2_init_12 : decode cX2_init 12 = .ok (.aload_n 0, 1) := by decide +kernel
theorem dX2_init_13 : decode cX2_init 13 = .ok (.bipush 17, 2) := by decide +kernel
theorem dX2_init_15 : decode cX2_init 15 = .ok (.newarray .int, 2) := by decide +kernel
theorem dX2_init_17 : decode cX2_init 17 = .ok (.putfield 13, 3) := by decide +kernel
theorem dX2_init_20 : decode cX2_init 20 = .ok (.aload_n 0, 1) := by decide +kernel
theorem dX2_init_21 : decode cX2_init 21 = .ok (.bipush 17, 2) := by decide +kernel
theorem dX2_init_23 : decode cX2_init 23 = .ok (.newarray .int, 2) := by decide +kernel
theorem dX2_init_25 : decode cX2_init 25 = .ok (.putfield 16, 3) := by decide +kernel
theorem dX2_init_28 : decode cX2_init 28 = .ok (.aload_n 0, 1) := by decide +kernel
theorem dX2_init_29 : decode cX2_init 29 = .ok (.bipush 17, 2) := by decide +kernel
theorem dX2_init_31 : decode cX2_init 31 = .ok (.newarray .int, 2) := by decide +kernel
theorem dX2_init_33 : decode cX2_init 33 = .ok (.putfield 19, 3) := by decide +kernel
theorem dX2_init_36 : decode cX2_init 36 = .ok (.aload_n 0, 1) := by decide +kernel
theorem dX2_init_37 : decode cX2_init 37 = .ok (.bipush 17, 2) := by decide +kernel
theorem dX2_init_39 : decode cX2_init 39 = .ok (.newarray .int, 2) := by decide +kernel
theorem dX2_init_41 : decode cX2_init 41 = .ok (.putfield 22, 3) := by decide +kernel
theorem dX2_init_44 : decode cX2_init 44 = .ok (.aload_n 0, 1) := by decide +kernel
theorem dX2_init_45 : decode cX2_init 45 = .ok (.bipush 17, 2) := by decide +kernel
theorem dX2_init_47 : decode cX2_init 47 = .ok (.newarray .int, 2) := by decide +kernel
theorem dX2_init_49 : decode cX2_init 49 = .ok (.putfield 25, 3) := by decide +kernel
theorem dX2_init_52 : decode cX2_init 52 = .ok (.return_, 1) := by decide +kernel
theorem dX2_copyFrom_0 : decode cX2_copyFrom 0 = .ok (.aload_n 1, 1) := by decide +kernel
theorem dX2_copyFrom_1 : decode cX2_copyFrom 1 = .ok (.getfield 9, 3) := by decide +kernel
theorem dX2_copyFrom_4 : decode cX2_copyFrom 4 = .ok (.iconst 0, 1) := by decide +kernel
theorem dX2_copyFrom_5 : decode cX2_copyFrom 5 = .ok (.aload_n 0, 1) := by decide +kernel
theorem dX2_copyFrom_6 : decode cX2_copyFrom 6 = .ok (.getfield 9, 3) := by decide +kernel
theorem dX2_copyFrom_9 : decode cX2_copyFrom 9 = .ok (.iconst 0, 1) := by decide +kernel
theorem dX2_copyFrom_10 : decode cX2_copyFrom 10 = .ok (.bipush 17, 2) := by decide +kernel
theorem dX2_copyFrom_12 : decode cX2_copyFrom 12 = .ok (.invokestatic 28, 3) := by decide +kernel
theorem dX2_copyFrom_15 : decode cX2_copyFrom 15 = .ok (.aload_n 1, 1) := by decide +kernel
theorem dX2_copyFrom_16 : decode cX2_copyFrom 16 = .ok (.getfield 13, 3) := by decide +kernel
theorem dX2_copyFrom_19 : decode cX2_copyFrom 19 = .ok (.iconst 0, 1) := by decide +kernel
theorem dX2_copyFrom_20 : decode cX2_copyFrom 20 = .ok (.aload_n 0, 1) := by decide +kernel
theorem dX2_copyFrom_21 : decode cX2_copyFrom 21 = .ok (.getfield 13, 3) := by decide +kernel
theorem dX2_copyFrom_24 : decode cX2_copyFrom 24 = .ok (.iconst 0, 1) := by decide +kernel
theorem dX2_copyFrom_25 : decode cX2_copyFrom 25 = .ok (.bipush 17, 2) := by decide +kernel
theorem dX2_copyFrom_27 : decode cX2_copyFrom 27 = .ok (.invokestatic 28, 3) := by decide +kernel
theorem dX2_copyFrom_30 : decode cX2_copyFrom 30 = .ok (.aload_n 1, 1) := by decide +kernel
theorem dX2_copyFrom_31 : decode cX2_copyFrom 31 = .ok (.getfield 16, 3) := by decide +kernel
theorem dX2_copyFrom_34 : decode cX2_copyFrom 34 = .ok (.iconst 0, 1) := by decide +kernel
theorem dX2_copyFrom_35 : decode cX2_copyFrom 35 = .ok (.aload_n 0, 1) := by decide +kernel
theorem dX2_copyFrom_36 : decode cX2_copyFrom 36 = .ok (.getfield 16, 3) := by decide +kernel
theorem dX2_copyFrom_39 : decode cX2_copyFrom 39 = .ok (.iconst 0, 1) := by decide +kernel
theorem dX2_copyFrom_40 : decode cX2_copyFrom 40 = .ok (.bipush 17, 2) := by decide +kernel
theorem dX2_copyFrom_42 : decode cX2_copyFrom 42 = .ok (.invokestatic 28, 3) := by decide +kernel
theorem dX2_copyFrom_45 : decode cX2_copyFrom 45 = .ok (.aload_n 1, 1) := by decide +kernel
theorem dX2_copyFrom_46 : decode cX2_copyFrom 46 = .ok (.getfield 19, 3) := by decide +kernel
theorem dX2_copyFrom_49 : decode cX2_copyFrom 49 = .ok (.iconst 0, 1) := by decide +kernel
theorem dX2_copyFrom_50 : decode cX2_copyFrom 50 = .ok (.aload_n 0, 1) := by decide +kernel
theorem dX2_copyFrom_51 : decode cX2_copyFrom 51 = .ok (.getfield 19, 3) := by decide +kernel
theorem dX2_copyFrom_54 : decode cX2_copyFrom 54 = .ok (.iconst 0, 1) := by decide +kernel
theorem dX2_copyFrom_55 : decode cX2_copyFrom 55 = .ok (.bipush 17, 2) := by decide +kernel
theorem dX2_copyFrom_57 : decode cX2_copyFrom 57 = .ok (.invokestatic 28, 3) := by decide +kernel
theorem dX2_copyFrom_60 : decode cX2_copyFrom 60 = .ok (.aload_n 1, 1) := by decide +kernel
theorem dX2_copyFrom_61 : decode cX2_copyFrom 61 = .ok (.getfield 22, 3) := by decide +kernel
theorem dX2_copyFrom_64 : decode cX2_copyFrom 64 = .ok (.iconst 0, 1) := by decide +kernel
theorem dX2_copyFrom_65 : decode cX2_copyFrom 65 = .ok (.aload_n 0, 1) := by decide +kernel
theorem dX2_copyFrom_66 : decode cX2_copyFrom 66 = .ok (.getfield 22, 3) := by decide +kernel
theorem dX2_copyFrom_69 : decode cX2_copyFrom 69 = .ok (.iconst 0, 1) := by decide +kernel
theorem dX2_copyFrom_70 : decode cX2_copyFrom 70 = .ok (.bipush 17, 2) := by decide +kernel
theorem dX2_copyFrom_72 : decode cX2_copyFrom 72 = .ok (.invokestatic 28, 3) := by decide +kernel
theorem dX2_copyFrom_75 : decode cX2_copyFrom 75 = .ok (.aload_n 1, 1) := by decide +kernel
theorem dX2_copyFrom_76 : decode cX2_copyFrom 76 = .ok (.getfield 25, 3) := by decide +kernel
theorem dX2_copyFrom_79 : decode cX2_copyFrom 79 = .ok (.iconst 0, 1) := by decide +kernel
theorem dX2_copyFrom_80 : decode cX2_copyFrom 80 = .ok (.aload_n 0, 1) := by decide +kernel
theorem dX2_copyFrom_81 : decode cX2_copyFrom 81 = .ok (.getfield 25, 3) := by decide +kernel
theorem dX2_copyFrom_84 : decode cX2_copyFrom 84 = .ok (.iconst 0, 1) := by decide +kernel
theorem dX2_copyFrom_85 : decode cX2_copyFrom 85 = .ok (.bipush 17, 2) := by decide +kernel
theorem dX2_copyFrom_87 : decode cX2_copyFrom 87 = .ok (.invokestatic 28, 3) := by decide +kernel
theorem dX2_copyFrom_90 : decode cX2_copyFrom 90 = .ok (.aload_n 0, 1) := by decide +kernel
theorem dX2_copyFrom_91 : decode cX2_copyFrom 91 = .ok (.aload_n 1, 1) := by decide +kernel
theorem dX2_copyFrom_92 : decode cX2_copyFrom 92 = .ok (.getfield 34, 3) := by decide +kernel
theorem dX2_copyFrom_95 : decode cX2_copyFrom 95 = .ok (.putfield 34, 3) := by decide +kernel
theorem dX2_copyFrom_98 : decode cX2_copyFrom 98 = .ok (.return_, 1) := by decide +kernel
theorem dX2_has_0 : decode cX2_has 0 = .ok (.iload_n 1, 1) := by decide +kernel
theorem dX2_has_1 : decode cX2_has 1 = .ok (.ifCond .lt 15, 3) := by decide +kernel
theorem dX2_has_4 : decode cX2_has 4 = .ok (.iload_n 1, 1) := by decide +kernel
theorem dX2_has_5 : decode cX2_has 5 = .ok (.aload_n 0, 1) := by decide +kernel
theorem dX2_has_6 : decode cX2_has 6 = .ok (.getfield 34, 3) := by decide +kernel
theorem dX2_has_9 : decode cX2_has 9 = .ok (.if_icmp .ge 7, 3) := by decide +kernel
theorem dX2_has_12 : decode cX2_has 12 = .ok (.iconst 1, 1) := by decide +kernel
theorem dX2_has_13 : decode cX2_has 13 = .ok (.goto 4, 3) := by decide +kernel
theorem dX2_has_16 : decode cX2_has 16 = .ok (.iconst 0, 1) := by decide +kernel
theorem dX2_has_17 : decode cX2_has 17 = .ok (.ireturn, 1) := by decide +kernel
set_option maxRecDepth 20000 in
theorem ggX2_hasStatus_X2_has : GoodIn wsX2_hasStatus wsX2_has := goodIn_r _ [6, 7, 8, 9, 10, 11, 12, 13, 14] (by decide +kernel) (by decide +kernel)
set_option maxRecDepth 20000 in
theorem gX2_hasStatus_X2_has : GoodIn wsX2_hasStatus (wsV RX2 38 RX2 yX2_has wsX2_has) := goodIn_app (goodIn_of _ (by decide +kernel)) ggX2_hasStatus_X2_has
theorem dX2_hasStatus_0 : decode cX2_hasStatus 0 = .ok (.aload_n 0, 1) := by decide +kernel
theorem dX2_hasStatus_1 : decode cX2_hasStatus 1 = .ok (.iload_n 1, 1) := by decide +kernel
theorem dX2_hasStatus_2 : decode cX2_hasStatus 2 = .ok (.invokevirtual 38, 3) := by decide +kernel
theorem dX2_hasStatus_5 : decode cX2_hasStatus 5 = .ok (.ifCond .eq 17, 3) := by decide +kernel
theorem dX2_hasStatus_8 : decode cX2_hasStatus 8 = .ok (.aload_n 0, 1) := by decide +kernel
theorem dX2_hasStatus_9 : decode cX2_hasStatus 9 = .ok (.getfield 19, 3) := by decide +kernel
theorem dX2_hasStatus_12 : decode cX2_hasStatus 12 = .ok (.iload_n 1, 1) := by decide +kernel
theorem dX2_hasStatus_13 : decode cX2_hasStatus 13 = .ok (.iaload, 1) := by decide +kernel
theorem dX2_hasStatus_14 : decode cX2_hasStatus 14 = .ok (.iload_n 2, 1) := by decide +kernel
theorem dX2_hasStatus_15 : decode cX2_hasStatus 15 = .ok (.if_icmp .ne 7, 3) := by decide +kernel
theorem dX2_hasStatus_18 : decode cX2_hasStatus 18 = .ok (.iconst 1, 1) := by decide +kernel
theorem dX2_hasStatus_19 : decode cX2_hasStatus 19 = .ok (.goto 4, 3) := by decide +kernel
theorem dX2_hasStatus_22 : decode cX2_hasStatus 22 = .ok (.iconst 0, 1) := by decide +kernel
theorem dX2_hasStatus_23 : decode cX2_hasStatus 23 = .ok (.ireturn, 1) := by decide +kernel
set_option maxRecDepth 20000 in
theorem ggX2_isAwaited_X2_has : GoodIn wsX2_isAwaited wsX2_has := goodIn_r _ [6, 7, 8, 9, 10, 11, 12, 13, 14] (by decide +kernel) (by decide +kernel)
set_option maxRecDepth 20000 in
theorem gX2_isAwaited_X2_has : GoodIn wsX2_isAwaited (wsV RX2 38 RX2 yX2_has wsX2_has) := goodIn_app (goodIn_of _ (by decide +kernel)) ggX2_isAwaited_X2_has
theorem dX2_isAwaited_0 : decode cX2_isAwaited 0 = .ok (.aload_n 0, 1) := by decide +kernel
theorem dX2_isAwaited_1 : decode cX2_isAwaited 1 = .ok (.iload_n 1, 1) := by decide +kernel
theorem dX2_isAwaited_2 : decode cX2_isAwaited 2 = .ok (.invokevirtual 38, 3) := by decide +kernel
theorem dX2_isAwaited_5 : decode cX2_isAwaited 5 = .ok (.ifCond .eq 26, 3) := by decide +kernel
theorem dX2_isAwaited_8 : decode cX2_isAwaited 8 = .ok (.aload_n 0, 1) := by decide +kernel
theorem dX2_isAwaited_9 : decode cX2_isAwaited 9 = .ok (.getfield 19, 3) := by decide +kernel
theorem dX2_isAwaited_12 : decode cX2_isAwaited 12 = .ok (.iload_n 1, 1) := by decide +kernel
theorem dX2_isAwaited_13 : decode cX2_isAwaited 13 = .ok (.iaload, 1) := by decide +kernel
theorem dX2_isAwaited_14 : decode cX2_isAwaited 14 = .ok (.ifCond .eq 13, 3) := by decide +kernel
theorem dX2_isAwaited_17 : decode cX2_isAwaited 17 = .ok (.aload_n 0, 1) := by decide +kernel
theorem dX2_isAwaited_18 : decode cX2_isAwaited 18 = .ok (.getfield 19, 3) := by decide +kernel
theorem dX2_isAwaited_21 : decode cX2_isAwaited 21 = .ok (.iload_n 1, 1) := by decide +kernel
theorem dX2_isAwaited_22 : decode cX2_isAwaited 22 = .ok (.iaload, 1) := by decide +kernel
theorem dX2_isAwaited_23 : decode cX2_isAwaited 23 = .ok (.iconst 1, 1) := by decide +kernel
theorem dX2_isAwaited_24 : decode cX2_isAwaited 24 = .ok (.if_icmp .ne 7, 3) := by decide +kernel
theorem dX2_isAwaited_27 : decode cX2_isAwaited 27 = .ok (.iconst 1, 1) := by decide +kernel
theorem dX2_isAwaited_28 : decode cX2_isAwaited 28 = .ok (.goto 4, 3) := by decide +kernel
theorem dX2_isAwaited_31 : decode cX2_isAwaited 31 = .ok (.iconst 0, 1) := by decide +kernel
theorem dX2_isAwaited_32 : decode cX2_isAwaited 32 = .ok (.ireturn, 1) := by decide +kernel
theorem dX2_anyAwaited_0 : decode cX2_anyAwaited 0 = .ok (.iconst 0, 1) := by decide +kernel
theorem dX2_anyAwaited_1 : decode cX2_anyAwaited 1 = .ok (.istore_n 1, 1) := by decide +kernel
theorem dX2_anyAwaited_2 : decode cX2_anyAwaited 2 = .ok (.iload_n 1, 1) := by decide +kernel
theorem dX2_anyAwaited_3 : decode cX2_anyAwaited 3 = .ok (.aload_n 0, 1) := by decide +kernel
theorem dX2_anyAwaited_4 : decode cX2_anyAwaited 4 = .ok (.getfield 34, 3) := by decide +kernel
theorem dX2_anyAwaited_7 : decode cX2_anyAwaited 7 = .ok (.if_icmp .ge 30, 3) := by decide +kernel
theorem dX2_anyAwaited_10 : decode cX2_anyAwaited 10 = .ok (.aload_n 0, 1) := by decide +kernel
theorem dX2_anyAwaited_11 : decode cX2_anyAwaited 11 = .ok (.getfield 19, 3) := by decide +kernel
theorem dX2_anyAwaited_14 : decode cX2_anyAwaited 14 = .ok (.iload_n 1, 1) := by decide +kernel
theorem dX2_anyAwaited_15 : decode cX2_anyAwaited 15 = .ok (.iaload, 1) := by decide +kernel
theorem dX2_anyAwaited_16 : decode cX2_anyAwaited 16 = .ok (.ifCond .eq 13, 3) := by decide +kernel
theorem dX2_anyAwaited_19 : decode cX2_anyAwaited 19 = .ok (.aload_n 0, 1) := by decide +kernel
theorem dX2_anyAwaited_20 : decode cX2_anyAwaited 20 = .ok (.getfield 19, 3) := by decide +kernel
theorem dX2_anyAwaited_23 : decode cX2_anyAwaited 23 = .ok (.iload_n 1, 1) := by decide +kernel
theorem dX2_anyAwaited_24 : decode cX2_anyAwaited 24 = .ok (.iaload, 1) := by decide +kernel
theorem dX2_anyAwaited_25 : decode cX2_anyAwaited 25 = .ok (.iconst 1, 1) := by decide +kernel
theorem dX2_anyAwaited_26 : decode cX2_anyAwaited 26 = .ok (.if_icmp .ne 5, 3) := by decide +kernel
theorem dX2_anyAwaited_29 : decode cX2_anyAwaited 29 = .ok (.iconst 1, 1) := by decide +kernel
theorem dX2_anyAwaited_30 : decode cX2_anyAwaited 30 = .ok (.ireturn, 1) := by decide +kernel
theorem dX2_anyAwaited_31 : decode cX2_anyAwaited 31 = .ok (.iinc 1 1, 3) := by decide +kernel
theorem dX2_anyAwaited_34 : decode cX2_anyAwaited 34 = .ok (.goto (-32), 3) := by decide +kernel
theorem dX2_anyAwaited_37 : decode cX2_anyAwaited 37 = .ok (.iconst 0, 1) := by decide +kernel
theorem dX2_anyAwaited_38 : decode cX2_anyAwaited 38 = .ok (.ireturn, 1) := by decide +kernel
theorem dX2_withStatus_0 : decode cX2_withStatus 0 = .ok (.iconst 0, 1) := by decide +kernel
theorem dX2_withStatus_1 : decode cX2_withStatus 1 = .ok (.istore_n 2, 1) := by decide +kernel
theorem dX2_withStatus_2 : decode cX2_withStatus 2 = .ok (.iconst 0, 1) := by decide +kernel
theorem dX2_withStatus_3 : decode cX2_withStatus 3 = .ok (.istore_n 3, 1) := by decide +kernel
theorem dX2_withStatus_4 : decode cX2_withStatus 4 = .ok (.iload_n 3, 1) := by decide +kernel
theorem dX2_withStatus_5 : decode cX2_withStatus 5 = .ok (.aload_n 0, 1) := by decide +kernel
theorem dX2_withStatus_6 : decode cX2_withStatus 6 = .ok (.getfield 34, 3) := by decide +kernel
theorem dX2_withStatus_9 : decode cX2_withStatus 9 = .ok (.if_icmp .ge 22, 3) := by decide +kernel
theorem dX2_withStatus_12 : decode cX2_withStatus 12 = .ok (.aload_n 0, 1) := by decide +kernel
theorem dX2_withStatus_13 : decode cX2_withStatus 13 = .ok (.getfield 19, 3) := by decide +kernel
theorem dX2_withStatus_16 : decode cX2_withStatus 16 = .ok (.iload_n 3, 1) := by decide +kernel
theorem dX2_withStatus_17 : decode cX2_withStatus 17 = .ok (.iaload, 1) := by decide +kernel
theorem dX2_withStatus_18 : decode cX2_withStatus 18 = .ok (.iload_n 1, 1) := by decide +kernel
theorem dX2_withStatus_19 : decode cX2_withStatus 19 = .ok (.if_icmp .ne 6, 3) := by decide +kernel
theorem dX2_withStatus_22 : decode cX2_withStatus 22 = .ok (.iinc 2 1, 3) := by decide +kernel
theorem dX2_withStatus_25 : decode cX2_withStatus 25 = .ok (.iinc 3 1, 3) := by decide +kernel
theorem dX2_withStatus_28 : decode cX2_withStatus 28 = .ok (.goto (-24), 3) := by decide +kernel
theorem dX2_withStatus_31 : decode cX2_withStatus 31 = .ok (.iload_n 2, 1) := by decide +kernel
theorem dX2_withStatus_32 : decode cX2_withStatus 32 = .ok (.ireturn, 1) := by decide +kernel
theorem dX2_guests_0 : decode cX2_guests 0 = .ok (.iconst 0, 1) := by decide +kernel
theorem dX2_guests_1 : decode cX2_guests 1 = .ok (.istore_n 1, 1) := by decide +kernel
theorem dX2_guests_2 : decode cX2_guests 2 = .ok (.iconst 0, 1) := by decide +kernel
theorem dX2_guests_3 : decode cX2_guests 3 = .ok (.istore_n 2, 1) := by decide +kernel
theorem dX2_guests_4 : decode cX2_guests 4 = .ok (.iload_n 2, 1) := by decide +kernel
theorem dX2_guests_5 : decode cX2_guests 5 = .ok (.aload_n 0, 1) := by decide +kernel
theorem dX2_guests_6 : decode cX2_guests 6 = .ok (.getfield 34, 3) := by decide +kernel
theorem dX2_guests_9 : decode cX2_guests 9 = .ok (.if_icmp .ge 28, 3) := by decide +kernel
theorem dX2_guests_12 : decode cX2_guests 12 = .ok (.aload_n 0, 1) := by decide +kernel
theorem dX2_guests_13 : decode cX2_guests 13 = .ok (.getfield 19, 3) := by decide +kernel
theorem dX2_guests_16 : decode cX2_guests 16 = .ok (.iload_n 2, 1) := by decide +kernel
theorem dX2_guests_17 : decode cX2_guests 17 = .ok (.iaload, 1) := by decide +kernel
theorem dX2_guests_18 : decode cX2_guests 18 = .ok (.iconst 1, 1) := by decide +kernel
theorem dX2_guests_19 : decode cX2_guests 19 = .ok (.if_icmp .ne 12, 3) := by decide +kernel
theorem dX2_guests_22 : decode cX2_guests 22 = .ok (.iload_n 1, 1) := by decide +kernel
theorem dX2_guests_23 : decode cX2_guests 23 = .ok (.aload_n 0, 1) := by decide +kernel
theorem dX2_guests_24 : decode cX2_guests 24 = .ok (.getfield 9, 3) := by decide +kernel
theorem dX2_guests_27 : decode cX2_guests 27 = .ok (.iload_n 2, 1) := by decide +kernel
theorem dX2_guests_28 : decode cX2_guests 28 = .ok (.iaload, 1) := by decide +kernel
theorem dX2_guests_29 : decode cX2_guests 29 = .ok (.iadd, 1) := by decide +kernel
theorem dX2_guests_30 : decode cX2_guests 30 = .ok (.istore_n 1, 1) := by decide +kernel
theorem dX2_guests_31 : decode cX2_guests 31 = .ok (.iinc 2 1, 3) := by decide +kernel
theorem dX2_guests_34 : decode cX2_guests 34 = .ok (.goto (-30), 3) := by decide +kernel
theorem dX2_guests_37 : decode cX2_guests 37 = .ok (.iload_n 1, 1) := by decide +kernel
theorem dX2_guests_38 : decode cX2_guests 38 = .ok (.ireturn, 1) := by decide +kernel
theorem dX2_add_0 : decode cX2_add 0 = .ok (.aload_n 0, 1) := by decide +kernel
theorem dX2_add_1 : decode cX2_add 1 = .ok (.getfield 34, 3) := by decide +kernel
theorem dX2_add_4 : decode cX2_add 4 = .ok (.bipush 17, 2) := by decide +kernel
theorem dX2_add_6 : decode cX2_add 6 = .ok (.if_icmp .lt 4, 3) := by decide +kernel
theorem dX2_add_9 : decode cX2_add 9 = .ok (.return_, 1) := by decide +kernel
theorem dX2_add_10 : decode cX2_add 10 = .ok (.aload_n 0, 1) := by decide +kernel
theorem dX2_add_11 : decode cX2_add 11 = .ok (.getfield 9, 3) := by decide +kernel
theorem dX2_add_14 : decode cX2_add 14 = .ok (.aload_n 0, 1) := by decide +kernel
theorem dX2_add_15 : decode cX2_add 15 = .ok (.getfield 34, 3) := by decide +kernel
theorem dX2_add_18 : decode cX2_add 18 = .ok (.iload_n 1, 1) := by decide +kernel
theorem dX2_add_19 : decode cX2_add 19 = .ok (.iastore, 1) := by decide +kernel
theorem dX2_add_20 : decode cX2_add 20 = .ok (.aload_n 0, 1) := by decide +kernel
theorem dX2_add_21 : decode cX2_add 21 = .ok (.getfield 13, 3) := by decide +kernel
theorem dX2_add_24 : decode cX2_add 24 = .ok (.aload_n 0, 1) := by decide +kernel
theorem dX2_add_25 : decode cX2_add 25 = .ok (.getfield 34, 3) := by decide +kernel
theorem dX2_add_28 : decode cX2_add 28 = .ok (.iload_n 2, 1) := by decide +kernel
theorem dX2_add_29 : decode cX2_add 29 = .ok (.iastore, 1) := by decide +kernel
theorem dX2_add_30 : decode cX2_add 30 = .ok (.aload_n 0, 1) := by decide +kernel
theorem dX2_add_31 : decode cX2_add 31 = .ok (.getfield 16, 3) := by decide +kernel
theorem dX2_add_34 : decode cX2_add 34 = .ok (.aload_n 0, 1) := by decide +kernel
theorem dX2_add_35 : decode cX2_add 35 = .ok (.getfield 34, 3) := by decide +kernel
theorem dX2_add_38 : decode cX2_add 38 = .ok (.iload_n 3, 1) := by decide +kernel
theorem dX2_add_39 : decode cX2_add 39 = .ok (.iastore, 1) := by decide +kernel
theorem dX2_add_40 : decode cX2_add 40 = .ok (.aload_n 0, 1) := by decide +kernel
theorem dX2_add_41 : decode cX2_add 41 = .ok (.getfield 19, 3) := by decide +kernel
theorem dX2_add_44 : decode cX2_add 44 = .ok (.aload_n 0, 1) := by decide +kernel
theorem dX2_add_45 : decode cX2_add 45 = .ok (.getfield 34, 3) := by decide +kernel
theorem dX2_add_48 : decode cX2_add 48 = .ok (.iconst 0, 1) := by decide +kernel
theorem dX2_add_49 : decode cX2_add 49 = .ok (.iastore, 1) := by decide +kernel
theorem dX2_add_50 : decode cX2_add 50 = .ok (.aload_n 0, 1) := by decide +kernel
theorem dX2_add_51 : decode cX2_add 51 = .ok (.getfield 22, 3) := by decide +kernel
theorem dX2_add_54 : decode cX2_add 54 = .ok (.aload_n 0, 1) := by decide +kernel
theorem dX2_add_55 : decode cX2_add 55 = .ok (.getfield 34, 3) := by decide +kernel
theorem dX2_add_58 : decode cX2_add 58 = .ok (.iconst 0, 1) := by decide +kernel
theorem dX2_add_59 : decode cX2_add 59 = .ok (.iastore, 1) := by decide +kernel
theorem dX2_add_60 : decode cX2_add 60 = .ok (.aload_n 0, 1) := by decide +kernel
theorem dX2_add_61 : decode cX2_add 61 = .ok (.getfield 25, 3) := by decide +kernel
theorem dX2_add_64 : decode cX2_add 64 = .ok (.aload_n 0, 1) := by decide +kernel
theorem dX2_add_65 : decode cX2_add 65 = .ok (.getfield 34, 3) := by decide +kernel
theorem dX2_add_68 : decode cX2_add 68 = .ok (.iconst (-1), 1) := by decide +kernel
theorem dX2_add_69 : decode cX2_add 69 = .ok (.iastore, 1) := by decide +kernel
theorem dX2_add_70 : decode cX2_add 70 = .ok (.aload_n 0, 1) := by decide +kernel
theorem dX2_add_71 : decode cX2_add 71 = .ok (.dup, 1) := by decide +kernel
theorem dX2_add_72 : decode cX2_add 72 = .ok (.getfield 34, 3) := by decide +kernel
theorem dX2_add_75 : decode cX2_add 75 = .ok (.iconst 1, 1) := by decide +kernel
theorem dX2_add_76 : decode cX2_add 76 = .ok (.iadd, 1) := by decide +kernel
theorem dX2_add_77 : decode cX2_add 77 = .ok (.putfield 34, 3) := by decide +kernel
theorem dX2_add_80 : decode cX2_add 80 = .ok (.return_, 1) := by decide +kernel
theorem dX2_leave_0 : decode cX2_leave 0 = .ok (.iconst 0, 1) := by decide +kernel
theorem dX2_leave_1 : decode cX2_leave 1 = .ok (.istore_n 1, 1) := by decide +kernel
theorem dX2_leave_2 : decode cX2_leave 2 = .ok (.iload_n 1, 1) := by decide +kernel
theorem dX2_leave_3 : decode cX2_leave 3 = .ok (.aload_n 0, 1) := by decide +kernel
theorem dX2_leave_4 : decode cX2_leave 4 = .ok (.getfield 34, 3) := by decide +kernel
theorem dX2_leave_7 : decode cX2_leave 7 = .ok (.if_icmp .ge 41, 3) := by decide +kernel
theorem dX2_leave_10 : decode cX2_leave 10 = .ok (.aload_n 0, 1) := by decide +kernel
theorem dX2_leave_11 : decode cX2_leave 11 = .ok (.getfield 19, 3) := by decide +kernel
theorem dX2_leave_14 : decode cX2_leave 14 = .ok (.iload_n 1, 1) := by decide +kernel
theorem dX2_leave_15 : decode cX2_leave 15 = .ok (.iaload, 1) := by decide +kernel
theorem dX2_leave_16 : decode cX2_leave 16 = .ok (.iconst 1, 1) := by decide +kernel
theorem dX2_leave_17 : decode cX2_leave 17 = .ok (.if_icmp .ne 25, 3) := by decide +kernel
theorem dX2_leave_20 : decode cX2_leave 20 = .ok (.aload_n 0, 1) := by decide +kernel
theorem dX2_leave_21 : decode cX2_leave 21 = .ok (.getfield 22, 3) := by decide +kernel
theorem dX2_leave_24 : decode cX2_leave 24 = .ok (.iload_n 1, 1) := by decide +kernel
theorem dX2_leave_25 : decode cX2_leave 25 = .ok (.iaload, 1) := by decide +kernel
theorem dX2_leave_26 : decode cX2_leave 26 = .ok (.aload_n 0, 1) := by decide +kernel
theorem dX2_leave_27 : decode cX2_leave 27 = .ok (.getfield 16, 3) := by decide +kernel
theorem dX2_leave_30 : decode cX2_leave 30 = .ok (.iload_n 1, 1) := by decide +kernel
theorem dX2_leave_31 : decode cX2_leave 31 = .ok (.iaload, 1) := by decide +kernel
theorem dX2_leave_32 : decode cX2_leave 32 = .ok (.if_icmp .lt 10, 3) := by decide +kernel
theorem dX2_leave_35 : decode cX2_leave 35 = .ok (.aload_n 0, 1) := by decide +kernel
theorem dX2_leave_36 : decode cX2_leave 36 = .ok (.getfield 19, 3) := by decide +kernel
theorem dX2_leave_39 : decode cX2_leave 39 = .ok (.iload_n 1, 1) := by decide +kernel
theorem dX2_leave_40 : decode cX2_leave 40 = .ok (.iconst 2, 1) := by decide +kernel
theorem dX2_leave_41 : decode cX2_leave 41 = .ok (.iastore, 1) := by decide +kernel
theorem dX2_leave_42 : decode cX2_leave 42 = .ok (.iinc 1 1, 3) := by decide +kernel
theorem dX2_leave_45 : decode cX2_leave 45 = .ok (.goto (-43), 3) := by decide +kernel
theorem dX2_leave_48 : decode cX2_leave 48 = .ok (.return_, 1) := by decide +kernel
theorem dX2_arrive_0 : decode cX2_arrive 0 = .ok (.iconst 1, 1) := by decide +kernel
theorem dX2_arrive_1 : decode cX2_arrive 1 = .ok (.istore 4, 2) := by decide +kernel
theorem dX2_arrive_3 : decode cX2_arrive 3 = .ok (.iload_n 3, 1) := by decide +kernel
theorem dX2_arrive_4 : decode cX2_arrive 4 = .ok (.istore 5, 2) := by decide +kernel
theorem dX2_arrive_6 : decode cX2_arrive 6 = .ok (.iconst 0, 1) := by decide +kernel
theorem dX2_arrive_7 : decode cX2_arrive 7 = .ok (.istore 6, 2) := by decide +kernel
theorem dX2_arrive_9 : decode cX2_arrive 9 = .ok (.iload 6, 2) := by decide +kernel
theorem dX2_arrive_11 : decode cX2_arrive 11 = .ok (.aload_n 0, 1) := by decide +kernel
theorem dX2_arrive_12 : decode cX2_arrive 12 = .ok (.getfield 34, 3) := by decide +kernel
theorem dX2_arrive_15 : decode cX2_arrive 15 = .ok (.if_icmp .ge 125, 3) := by decide +kernel
theorem dX2_arrive_18 : decode cX2_arrive 18 = .ok (.aload_n 0, 1) := by decide +kernel
theorem dX2_arrive_19 : decode cX2_arrive 19 = .ok (.getfield 19, 3) := by decide +kernel
theorem dX2_arrive_22 : decode cX2_arrive 22 = .ok (.iload 6, 2) := by decide +kernel
theorem dX2_arrive_24 : decode cX2_arrive 24 = .ok (.iaload, 1) := by decide +kernel
theorem dX2_arrive_25 : decode cX2_arrive 25 = .ok (.ifCond .ne 109, 3) := by decide +kernel
theorem dX2_arrive_28 : decode cX2_arrive 28 = .ok (.aload_n 0, 1) := by decide +kernel
theorem dX2_arrive_29 : decode cX2_arrive 29 = .ok (.getfield 13, 3) := by decide +kernel
theorem dX2_arrive_32 : decode cX2_arrive 32 = .ok (.iload 6, 2) := by decide +kernel
theorem dX2_arrive_34 : decode cX2_arrive 34 = .ok (.iaload, 1) := by decide +kernel
theorem dX2_arrive_35 : decode cX2_arrive 35 = .ok (.iload_n 1, 1) := by decide +kernel
theorem dX2_arrive_36 : decode cX2_arrive 36 = .ok (.if_icmp .le 6, 3) := by decide +kernel
theorem dX2_arrive_39 : decode cX2_arrive 39 = .ok (.goto 95, 3) := by decide +kernel
theorem dX2_arrive_42 : decode cX2_arrive 42 = .ok (.aload_n 0, 1) := by decide +kernel
theorem dX2_arrive_43 : decode cX2_arrive 43 = .ok (.getfield 13, 3) := by decide +kernel
theorem dX2_arrive_46 : decode cX2_arrive 46 = .ok (.iload 6, 2) := by decide +kernel
theorem dX2_arrive_48 : decode cX2_arrive 48 = .ok (.iaload, 1) := by decide +kernel
theorem dX2_arrive_49 : decode cX2_arrive 49 = .ok (.aload_n 0, 1) := by decide +kernel
theorem dX2_arrive_50 : decode cX2_arrive 50 = .ok (.getfield 16, 3) := by decide +kernel
theorem dX2_arrive_53 : decode cX2_arrive 53 = .ok (.iload 6, 2) := by decide +kernel
theorem dX2_arrive_55 : decode cX2_arrive 55 = .ok (.iaload, 1) := by decide +kernel
theorem dX2_arrive_56 : decode cX2_arrive 56 = .ok (.iadd, 1) := by decide +kernel
theorem dX2_arrive_57 : decode cX2_arrive 57 = .ok (.iload_n 1, 1) := by decide +kernel
theorem dX2_arrive_58 : decode cX2_arrive 58 = .ok (.if_icmp .gt 14, 3) := by decide +kernel
theorem dX2_arrive_61 : decode cX2_arrive 61 = .ok (.aload_n 0, 1) := by decide +kernel
theorem dX2_arrive_62 : decode cX2_arrive 62 = .ok (.getfield 19, 3) := by decide +kernel
theorem dX2_arrive_65 : decode cX2_arrive 65 = .ok (.iload 6, 2) := by decide +kernel
theorem dX2_arrive_67 : decode cX2_arrive 67 = .ok (.iconst 3, 1) := by decide +kernel
theorem dX2_arrive_68 : decode cX2_arrive 68 = .ok (.iastore, 1) := by decide +kernel
theorem dX2_arrive_69 : decode cX2_arrive 69 = .ok (.goto 65, 3) := by decide +kernel
theorem dX2_arrive_72 : decode cX2_arrive 72 = .ok (.iload_n 2, 1) := by decide +kernel
theorem dX2_arrive_73 : decode cX2_arrive 73 = .ok (.ifCond .ne 46, 3) := by decide +kernel
theorem dX2_arrive_76 : decode cX2_arrive 76 = .ok (.aload_n 0, 1) := by decide +kernel
theorem dX2_arrive_77 : decode cX2_arrive 77 = .ok (.getfield 9, 3) := by decide +kernel
theorem dX2_arrive_80 : decode cX2_arrive 80 = .ok (.iload 6, 2) := by decide +kernel
theorem dX2_arrive_82 : decode cX2_arrive 82 = .ok (.iaload, 1) := by decide +kernel
theorem dX2_arrive_83 : decode cX2_arrive 83 = .ok (.iload 5, 2) := by decide +kernel
theorem dX2_arrive_85 : decode cX2_arrive 85 = .ok (.if_icmp .gt 34, 3) := by decide +kernel
theorem dX2_arrive_88 : decode cX2_arrive 88 = .ok (.aload_n 0, 1) := by decide +kernel
theorem dX2_arrive_89 : decode cX2_arrive 89 = .ok (.getfield 19, 3) := by decide +kernel
theorem dX2_arrive_92 : decode cX2_arrive 92 = .ok (.iload 6, 2) := by decide +kernel
theorem dX2_arrive_94 : decode cX2_arrive 94 = .ok (.iconst 1, 1) := by decide +kernel
theorem dX2_arrive_95 : decode cX2_arrive 95 = .ok (.iastore, 1) := by decide +kernel
theorem dX2_arrive_96 : decode cX2_arrive 96 = .ok (.aload_n 0, 1) := by decide +kernel
theorem dX2_arrive_97 : decode cX2_arrive 97 = .ok (.getfield 25, 3) := by decide +kernel
theorem dX2_arrive_100 : decode cX2_arrive 100 = .ok (.iload 6, 2) := by decide +kernel
theorem dX2_arrive_102 : decode cX2_arrive 102 = .ok (.iload_n 1, 1) := by decide +kernel
theorem dX2_arrive_103 : decode cX2_arrive 103 = .ok (.iastore, 1) := by decide +kernel
theorem dX2_arrive_104 : decode cX2_arrive 104 = .ok (.iload 5, 2) := by decide +kernel
theorem dX2_arrive_106 : decode cX2_arrive 106 = .ok (.aload_n 0, 1) := by decide +kernel
theorem dX2_arrive_107 : decode cX2_arrive 107 = .ok (.getfield 9, 3) := by decide +kernel
theorem dX2_arrive_110 : decode cX2_arrive 110 = .ok (.iload 6, 2) := by decide +kernel
theorem dX2_arrive_112 : decode cX2_arrive 112 = .ok (.iaload, 1) := by decide +kernel
theorem dX2_arrive_113 : decode cX2_arrive 113 = .ok (.isub, 1) := by decide +kernel
theorem dX2_arrive_114 : decode cX2_arrive 114 = .ok (.istore 5, 2) := by decide +kernel
theorem dX2_arrive_116 : decode cX2_arrive 116 = .ok (.goto 18, 3) := by decide +kernel
theorem dX2_arrive_119 : decode cX2_arrive 119 = .ok (.iload_n 2, 1) := by decide +kernel
theorem dX2_arrive_120 : decode cX2_arrive 120 = .ok (.ifCond .ne 14, 3) := by decide +kernel
theorem dX2_arrive_123 : decode cX2_arrive 123 = .ok (.aload_n 0, 1) := by decide +kernel
theorem dX2_arrive_124 : decode cX2_arrive 124 = .ok (.getfield 19, 3) := by decide +kernel
theorem dX2_arrive_127 : decode cX2_arrive 127 = .ok (.iload 6, 2) := by decide +kernel
theorem dX2_arrive_129 : decode cX2_arrive 129 = .ok (.iconst 3, 1) := by decide +kernel
theorem dX2_arrive_130 : decode cX2_arrive 130 = .ok (.iastore, 1) := by decide +kernel
theorem dX2_arrive_131 : decode cX2_arrive 131 = .ok (.iconst 0, 1) := by decide +kernel
theorem dX2_arrive_132 : decode cX2_arrive 132 = .ok (.istore 4, 2) := by decide +kernel
theorem dX2_arrive_134 : decode cX2_arrive 134 = .ok (.iinc 6 1, 3) := by decide +kernel
theorem dX2_arrive_137 : decode cX2_arrive 137 = .ok (.goto (-128), 3) := by decide +kernel
theorem dX2_arrive_140 : decode cX2_arrive 140 = .ok (.iload 4, 2) := by decide +kernel
theorem dX2_arrive_142 : decode cX2_arrive 142 = .ok (.ireturn, 1) := by decide +kernel
theorem dX2_sleepOnce_0 : decode cX2_sleepOnce 0 = .ok (.iconst 0, 1) := by decide +kernel
theorem dX2_sleepOnce_1 : decode cX2_sleepOnce 1 = .ok (.istore_n 1, 1) := by decide +kernel
theorem dX2_sleepOnce_2 : decode cX2_sleepOnce 2 = .ok (.iload_n 1, 1) := by decide +kernel
theorem dX2_sleepOnce_3 : decode cX2_sleepOnce 3 = .ok (.aload_n 0, 1) := by decide +kernel
theorem dX2_sleepOnce_4 : decode cX2_sleepOnce 4 = .ok (.getfield 34, 3) := by decide +kernel
theorem dX2_sleepOnce_7 : decode cX2_sleepOnce 7 = .ok (.if_icmp .ge 29, 3) := by decide +kernel
theorem dX2_sleepOnce_10 : decode cX2_sleepOnce 10 = .ok (.aload_n 0, 1) := by decide +kernel
theorem dX2_sleepOnce_11 : decode cX2_sleepOnce 11 = .ok (.getfield 19, 3) := by decide +kernel
theorem dX2_sleepOnce_14 : decode cX2_sleepOnce 14 = .ok (.iload_n 1, 1) := by decide +kernel
theorem dX2_sleepOnce_15 : decode cX2_sleepOnce 15 = .ok (.iaload, 1) := by decide +kernel
theorem dX2_sleepOnce_16 : decode cX2_sleepOnce 16 = .ok (.iconst 1, 1) := by decide +kernel
theorem dX2_sleepOnce_17 : decode cX2_sleepOnce 17 = .ok (.if_icmp .ne 13, 3) := by decide +kernel
theorem dX2_sleepOnce_20 : decode cX2_sleepOnce 20 = .ok (.aload_n 0, 1) := by decide +kernel
theorem dX2_sleepOnce_21 : decode cX2_sleepOnce 21 = .ok (.getfield 22, 3) := by decide +kernel
theorem dX2_sleepOnce_24 : decode cX2_sleepOnce 24 = .ok (.iload_n 1, 1) := by decide +kernel
theorem dX2_sleepOnce_25 : decode cX2_sleepOnce 25 = .ok (.dup2, 1) := by decide +kernel
theorem dX2_sleepOnce_26 : decode cX2_sleepOnce 26 = .ok (.iaload, 1) := by decide +kernel
theorem dX2_sleepOnce_27 : decode cX2_sleepOnce 27 = .ok (.iconst 1, 1) := by decide +kernel
theorem dX2_sleepOnce_28 : decode cX2_sleepOnce 28 = .ok (.iadd, 1) := by decide +kernel
theorem dX2_sleepOnce_29 : decode cX2_sleepOnce 29 = .ok (.iastore, 1) := by decide +kernel
theorem dX2_sleepOnce_30 : decode cX2_sleepOnce 30 = .ok (.iinc 1 1, 3) := by decide +kernel
theorem dX2_sleepOnce_33 : decode cX2_sleepOnce 33 = .ok (.goto (-31), 3) := by decide +kernel
theorem dX2_sleepOnce_36 : decode cX2_sleepOnce 36 = .ok (.return_, 1) := by decide +kernel
set_option maxRecDepth 20000 in
theorem ggX3_init_X1_init : GoodIn wsX3_init wsX1_init := goodIn_r _ [11, 12, 2, 3, 13, 14, 15, 16, 17, 18, 19, 20, 21, 22, 23, 24, 25, 26, 27, 28, 29, 30, 31, 32, 33, 34, 35, 36, 37, 38, 39, 40, 41, 42, 43, 44, 45, 46, 47, 48, 65, 66, 67, 68, 69, 70, 71, 72, 73, 74, 75, 49, 50, 51, 52, 53, 54, 55, 56, 57, 58, 76, 77, 78, 79, 80, 81, 82] (by decide +kernel) (by decide +kernel)
set_option maxRecDepth 20000 in
theorem gX3_init_X1_init : GoodIn wsX3_init (wsX1_init) := ggX3_init_X1_init
theorem dX3_init_0 : decode cX3_init 0 = .ok (.aload_n 0, 1) := by decide +kernel
theorem dX3_init_1 : decode cX3_init 1 = .ok (.invokespecial 3, 3) := by decide +kernel
theorem dX3_init_4 : decode cX3_init 4 = .ok (.aload_n 0, 1) := by decide +kernel
theorem dX3_init_5 : decode cX3_init 5 = .ok (.new 9, 3) := by decide +kernel
theorem dX3_init_8 : decode cX3_init 8 = .ok (.dup, 1) := by decide +kernel
theorem dX3_init_9 : decode cX3_init 9 = .ok (.invokespecial 11, 3) := by decide +kernel
theorem dX3_init_12 : decode cX3_init 12 = .ok (.putfield 12, 3) := by decide +kernel
theorem dX3_init_15 : decode cX3_init 15 = .ok (.aload_n 0, 1) := by decide +kernel
theorem dX3_init_16 : decode cX3_init 16 = .ok (.aload_n 1, 1) := by decide +kernel
theorem dX3_init_17 : decode cX3_init 17 = .ok (.putfield 18, 3) := by decide +kernel
theorem dX3_init_20 : decode cX3_init 20 = .ok (.return_, 1) := by decide +kernel
set_option maxRecDepth 20000 in
theorem ggX3_run_X1_copyFrom : GoodIn wsX3_run wsX1_copyFrom := goodIn_r _ [14, 15, 16, 17, 18, 19, 20, 21, 22, 23, 24, 25, 26, 27, 28, 29, 30, 31, 32, 33, 34, 35, 36, 37, 38, 39, 40, 41, 42, 43, 44, 45, 46, 47, 48, 49, 50, 51, 52, 53, 54, 55, 56, 57, 58, 226, 227, 228, 229, 230, 231, 232, 233, 234, 235, 236, 237, 238, 239, 240, 241, 242, 243, 244, 245, 246, 247, 248, 249, 250, 251, 252, 253] (by decide +kernel) (by decide +kernel)
set_option maxRecDepth 20000 in
theorem gX3_run_X1_copyFrom : GoodIn wsX3_run (wsV RX3 21 RX1 yX1_copyFrom wsX1_copyFrom) := goodIn_app (goodIn_of _ (by decide +kernel)) ggX3_run_X1_copyFrom
set_option maxRecDepth 20000 in
theorem ggX3_run_X5_readCommand : GoodIn wsX3_run wsX5_readCommand := goodIn_r _ [63, 64, 65, 66, 67, 68, 69, 62, 70, 71, 72, 73, 74, 75, 76, 77, 78, 79, 80, 81, 82, 83, 84, 85, 86, 87, 88, 221, 222, 223, 224, 225] (by decide +kernel) (by decide +kernel)
set_option maxRecDepth 20000 in
theorem gX3_run_X5_readCommand : GoodIn wsX3_run (wsV RX3 43 RX5 yX5_readCommand wsX5_readCommand) := goodIn_app (goodIn_of _ (by decide +kernel)) ggX3_run_X5_readCommand
set_option maxRecDepth 20000 in
theorem ggX3_run_X3_obey : GoodIn wsX3_run wsX3_obey := goodIn_r _ [93, 1, 94, 95, 96, 97, 13, 98, 15, 99, 100, 101, 32, 102, 103, 104, 105, 106, 45, 38, 39, 40, 107, 108, 109, 110, 24, 22, 111, 23, 112, 113, 114, 115, 17, 116, 117, 118, 119, 120, 121, 122, 123, 44, 37, 34, 36, 41, 124, 125, 126, 127, 128, 16, 129, 130, 131, 132, 133, 134, 135, 136, 137, 138, 11, 12, 14, 18, 19, 20, 21, 25, 26, 27, 28, 29, 30, 31, 33, 35, 42, 43, 46, 47, 48, 49, 50, 51, 52, 53, 54, 55, 56, 57, 58, 139, 140, 141, 142, 143, 144, 145, 146, 147, 148, 149, 150, 151, 152, 87, 153, 154, 155, 156, 157, 158, 159, 160, 161, 162, 163, 164, 165, 166, 167, 168, 169, 170, 171, 172, 173, 174, 175, 176, 177, 178, 179, 180, 181, 182, 183, 184, 185, 186, 187, 188, 189, 190, 191, 192, 193, 194, 195, 196, 197, 198, 199, 200, 201, 202, 203, 204, 205, 206, 207, 208, 209, 210, 211, 212, 213, 214, 215, 216, 217, 218, 219, 220, 226, 227, 228, 229, 230, 231, 232, 233, 234, 235, 236, 237, 238, 239, 240, 241, 242, 243, 244, 245, 246, 247, 248, 249, 250, 251, 252, 253] (by decide +kernel) (by decide +kernel)
set_option maxRecDepth 20000 in
theorem gX3_run_X3_obey : GoodIn wsX3_run (wsV RX3 55 RX3 yX3_obey wsX3_obey) := goodIn_app (goodIn_of _ (by decide +kernel)) ggX3_run_X3_obey
theorem dX3_run_0 : decode cX3_run 0 = .ok (.aload_n 0, 1) := by decide +kernel
theorem dX3_run_1 : decode cX3_run 1 = .ok (.getfield 12, 3) := by decide +kernel
theorem dX3_run_4 : decode cX3_run 4 = .ok (.aload_n 2, 1) := by decide +kernel
theorem dX3_run_5 : decode cX3_run 5 = .ok (.invokevirtual 21, 3) := by decide +kernel
theorem dX3_run_8 : decode cX3_run 8 = .ok (.aload_n 0, 1) := by decide +kernel
theorem dX3_run_9 : decode cX3_run 9 = .ok (.iconst 0, 1) := by decide +kernel
theorem dX3_run_10 : decode cX3_run 10 = .ok (.putfield 25, 3) := by decide +kernel
theorem dX3_run_13 : decode cX3_run 13 = .ok (.aload_n 0, 1) := by decide +kernel
theorem dX3_run_14 : decode cX3_run 14 = .ok (.iconst 0, 1) := by decide +kernel
theorem dX3_run_15 : decode cX3_run 15 = .ok (.putfield 29, 3) := by decide +kernel
theorem dX3_run_18 : decode cX3_run 18 = .ok (.aload_n 0, 1) := by decide +kernel
theorem dX3_run_19 : decode cX3_run 19 = .ok (.iconst 0, 1) := by decide +kernel
theorem dX3_run_20 : decode cX3_run 20 = .ok (.putfield 32, 3) := by decide +kernel
theorem dX3_run_23 : decode cX3_run 23 = .ok (.aload_n 0, 1) := by decide +kernel
theorem dX3_run_24 : decode cX3_run 24 = .ok (.iconst 0, 1) := by decide +kernel
theorem dX3_run_25 : decode cX3_run 25 = .ok (.putfield 35, 3) := by decide +kernel
theorem dX3_run_28 : decode cX3_run 28 = .ok (.iconst 0, 1) := by decide +kernel
theorem dX3_run_29 : decode cX3_run 29 = .ok (.istore_n 3, 1) := by decide +kernel
theorem dX3_run_30 : decode cX3_run 30 = .ok (.iload_n 3, 1) := by decide +kernel
theorem dX3_run_31 : decode cX3_run 31 = .ok (.bipush 60, 2) := by decide +kernel
theorem dX3_run_33 : decode cX3_run 33 = .ok (.if_icmp .ge 86, 3) := by decide +kernel
theorem dX3_run_36 : decode cX3_run 36 = .ok (.aload_n 0, 1) := by decide +kernel
theorem dX3_run_37 : decode cX3_run 37 = .ok (.getfield 29, 3) := by decide +kernel
theorem dX3_run_40 : decode cX3_run 40 = .ok (.aload_n 1, 1) := by decide +kernel
theorem dX3_run_41 : decode cX3_run 41 = .ok (.getfield 40, 3) := by decide +kernel
theorem dX3_run_44 : decode cX3_run 44 = .ok (.if_icmp .ge 75, 3) := by decide +kernel
theorem dX3_run_47 : decode cX3_run 47 = .ok (.aload_n 1, 1) := by decide +kernel
theorem dX3_run_48 : decode cX3_run 48 = .ok (.aload_n 0, 1) := by decide +kernel
theorem dX3_run_49 : decode cX3_run 49 = .ok (.getfield 29, 3) := by decide +kernel
theorem dX3_run_52 : decode cX3_run 52 = .ok (.invokevirtual 43, 3) := by decide +kernel
theorem dX3_run_55 : decode cX3_run 55 = .ok (.ifCond .ne 9, 3) := by decide +kernel
theorem dX3_run_58 : decode cX3_run 58 = .ok (.aload_n 0, 1) := by decide +kernel
theorem dX3_run_59 : decode cX3_run 59 = .ok (.iconst 1, 1) := by decide +kernel
theorem dX3_run_60 : decode cX3_run 60 = .ok (.putfield 32, 3) := by decide +kernel
theorem dX3_run_63 : decode cX3_run 63 = .ok (.return_, 1) := by decide +kernel
theorem dX3_run_64 : decode cX3_run 64 = .ok (.aload_n 0, 1) := by decide +kernel
theorem dX3_run_65 : decode cX3_run 65 = .ok (.aload_n 1, 1) := by decide +kernel
theorem dX3_run_66 : decode cX3_run 66 = .ok (.getfield 47, 3) := by decide +kernel
theorem dX3_run_69 : decode cX3_run 69 = .ok (.aload_n 1, 1) := by decide +kernel
theorem dX3_run_70 : decode cX3_run 70 = .ok (.getfield 51, 3) := by decide +kernel
theorem dX3_run_73 : decode cX3_run 73 = .ok (.invokevirtual 55, 3) := by decide +kernel
theorem dX3_run_76 : decode cX3_run 76 = .ok (.istore 4, 2) := by decide +kernel
theorem dX3_run_78 : decode cX3_run 78 = .ok (.iload 4, 2) := by decide +kernel
theorem dX3_run_80 : decode cX3_run 80 = .ok (.ifCond .ge 15, 3) := by decide +kernel
theorem dX3_run_83 : decode cX3_run 83 = .ok (.aload_n 0, 1) := by decide +kernel
theorem dX3_run_84 : decode cX3_run 84 = .ok (.iconst 2, 1) := by decide +kernel
theorem dX3_run_85 : decode cX3_run 85 = .ok (.putfield 32, 3) := by decide +kernel
theorem dX3_run_88 : decode cX3_run 88 = .ok (.aload_n 0, 1) := by decide +kernel
theorem dX3_run_89 : decode cX3_run 89 = .ok (.iload 4, 2) := by decide +kernel
theorem dX3_run_91 : decode cX3_run 91 = .ok (.putfield 35, 3) := by decide +kernel
theorem dX3_run_94 : decode cX3_run 94 = .ok (.return_, 1) := by decide +kernel
theorem dX3_run_95 : decode cX3_run 95 = .ok (.aload_n 0, 1) := by decide +kernel
theorem dX3_run_96 : decode cX3_run 96 = .ok (.dup, 1) := by decide +kernel
theorem dX3_run_97 : decode cX3_run 97 = .ok (.getfield 25, 3) := by decide +kernel
theorem dX3_run_100 : decode cX3_run 100 = .ok (.iconst 1, 1) := by decide +kernel
theorem dX3_run_101 : decode cX3_run 101 = .ok (.iadd, 1) := by decide +kernel
theorem dX3_run_102 : decode cX3_run 102 = .ok (.putfield 25, 3) := by decide +kernel
theorem dX3_run_105 : decode cX3_run 105 = .ok (.aload_n 0, 1) := by decide +kernel
theorem dX3_run_106 : decode cX3_run 106 = .ok (.aload_n 1, 1) := by decide +kernel
theorem dX3_run_107 : decode cX3_run 107 = .ok (.getfield 59, 3) := by decide +kernel
theorem dX3_run_110 : decode cX3_run 110 = .ok (.putfield 29, 3) := by decide +kernel
theorem dX3_run_113 : decode cX3_run 113 = .ok (.iinc 3 1, 3) := by decide +kernel
theorem dX3_run_116 : decode cX3_run 116 = .ok (.goto (-86), 3) := by decide +kernel
theorem dX3_run_119 : decode cX3_run 119 = .ok (.return_, 1) := by decide +kernel
set_option maxRecDepth 20000 in
theorem ggX3_obey_X1_putOnPallet : GoodIn wsX3_obey wsX1_putOnPallet := goodIn_r _ [7, 8, 9, 10, 11, 12, 13, 14, 15, 16, 17, 18, 19, 20, 21, 178, 179, 180, 181, 182, 183, 184, 185, 186, 187, 188, 189, 190, 191, 192, 193, 194, 195, 196, 197, 198] (by decide +kernel) (by decide +kernel)
set_option maxRecDepth 20000 in
theorem gX3_obey_X1_putOnPallet : GoodIn wsX3_obey (wsV RX3 62 RX1 yX1_putOnPallet wsX1_putOnPallet) := goodIn_app (goodIn_of _ (by decide +kernel)) ggX3_obey_X1_putOnPallet
set_option maxRecDepth 20000 in
theorem ggX3_obey_X1_bringPallet : GoodIn wsX3_obey wsX1_bringPallet := goodIn_r _ [25, 8, 9, 26, 27, 28, 29, 30, 31, 32, 6, 33, 34, 35, 36, 37, 12, 38, 18, 19, 20, 21, 39, 40, 41, 42, 43, 44, 45, 46, 47, 48, 11, 13, 178, 179, 180, 181, 182, 183, 184, 185, 186, 187, 188, 189, 190, 191, 192, 193, 194, 195, 196, 197, 198] (by decide +kernel) (by decide +kernel)
set_option maxRecDepth 20000 in
theorem gX3_obey_X1_bringPallet : GoodIn wsX3_obey (wsV RX3 66 RX1 yX1_bringPallet wsX1_bringPallet) := goodIn_app (goodIn_of _ (by decide +kernel)) ggX3_obey_X1_bringPallet
set_option maxRecDepth 20000 in
theorem ggX3_obey_X1_takeBooking : GoodIn wsX3_obey wsX1_takeBooking := goodIn_r _ [52, 53, 54, 55, 56, 57, 6, 58, 29, 59, 60, 61, 62, 63, 64, 65, 66, 8, 34, 67, 68, 69, 70, 27, 26, 71, 72, 73, 74, 75, 76, 77, 12, 78, 45, 79, 46, 44, 19, 20, 21, 47, 80, 81, 43, 18, 82, 83, 84, 85, 86, 87, 88, 89, 90, 91, 92, 93, 94, 95, 96, 97, 98, 99, 100, 101, 102, 103, 104, 105, 106, 107, 108, 109, 110, 30, 31, 32, 33, 111, 112, 113, 114, 115, 116, 117, 118, 119, 120, 121, 122, 123, 124, 125, 126, 127, 128, 129, 130, 131, 132, 133, 134, 135, 136, 137, 138, 139, 140, 141, 142, 143, 144, 145, 146, 147, 148, 149, 150, 178, 179, 180, 181, 182, 183, 184, 185, 186, 187, 199, 200, 201, 202, 203, 204, 205, 188, 189, 190, 191, 192, 193, 194, 195, 196, 197, 198] (by decide +kernel) (by decide +kernel)
set_option maxRecDepth 20000 in
theorem gX3_obey_X1_takeBooking : GoodIn wsX3_obey (wsV RX3 70 RX1 yX1_takeBooking wsX1_takeBooking) := goodIn_app (goodIn_of _ (by decide +kernel)) ggX3_obey_X1_takeBooking
set_option maxRecDepth 20000 in
theorem ggX3_obey_X1_callOff : GoodIn wsX3_obey wsX1_callOff := goodIn_r _ [154, 53, 155, 156, 157, 158, 85, 159, 94, 160, 161, 162, 163, 91, 178, 179, 180, 181, 182, 183, 184, 185, 186, 187, 199, 200, 201, 202, 203, 204, 205] (by decide +kernel) (by decide +kernel)
set_option maxRecDepth 20000 in
theorem gX3_obey_X1_callOff : GoodIn wsX3_obey (wsV RX3 74 RX1 yX1_callOff wsX1_callOff) := goodIn_app (goodIn_of _ (by decide +kernel)) ggX3_obey_X1_callOff
set_option maxRecDepth 20000 in
theorem ggX3_obey_X1_tellStorm : GoodIn wsX3_obey wsX1_tellStorm := goodIn_r _ [167, 29, 34, 178, 179, 180, 181, 182, 183, 184, 185, 186, 187] (by decide +kernel) (by decide +kernel)
set_option maxRecDepth 20000 in
theorem gX3_obey_X1_tellStorm : GoodIn wsX3_obey (wsV RX3 78 RX1 yX1_tellStorm wsX1_tellStorm) := goodIn_app (goodIn_of _ (by decide +kernel)) ggX3_obey_X1_tellStorm
set_option maxRecDepth 20000 in
theorem ggX3_obey_X1_passNights : GoodIn wsX3_obey wsX1_passNights := goodIn_r _ [171, 29, 71, 103, 104, 105, 6, 106, 53, 27, 8, 74, 107, 108, 109, 110, 72, 73, 30, 31, 32, 33, 34, 111, 112, 113, 85, 114, 94, 91, 92, 90, 115, 116, 117, 118, 87, 119, 120, 121, 122, 89, 93, 123, 124, 125, 12, 126, 43, 45, 46, 127, 128, 129, 130, 131, 132, 133, 134, 80, 135, 136, 137, 138, 139, 140, 141, 142, 143, 144, 145, 146, 44, 81, 147, 148, 149, 150, 178, 179, 180, 181, 182, 183, 184, 185, 186, 187, 199, 200, 201, 202, 203, 204, 205, 188, 189, 190, 191, 192, 193, 194, 195, 196, 197, 198] (by decide +kernel) (by decide +kernel)
set_option maxRecDepth 20000 in
theorem gX3_obey_X1_passNights : GoodIn wsX3_obey (wsV RX3 82 RX1 yX1_passNights wsX1_passNights) := goodIn_app (goodIn_of _ (by decide +kernel)) ggX3_obey_X1_passNights
theorem dX3_obey_0 : decode cX3_obey 0 = .ok (.iload_n 1, 1) := by decide +kernel
theorem dX3_obey_1 : decode cX3_obey 1 = .ok (.lookupswitch 141 #[(98, 84), (102, 76), (108, 59), (110, 130), (115, 116), (120, 105)], 59) := by decide +kernel
theorem dX3_obey_60 : decode cX3_obey 60 = .ok (.aload_n 0, 1) := by decide +kernel
theorem dX3_obey_61 : decode cX3_obey 61 = .ok (.getfield 12, 3) := by decide +kernel
theorem dX3_obey_64 : decode cX3_obey 64 = .ok (.aload_n 2, 1) := by decide +kernel
theorem dX3_obey_65 : decode cX3_obey 65 = .ok (.iconst 0, 1) := by decide +kernel
theorem dX3_obey_66 : decode cX3_obey 66 = .ok (.iaload, 1) := by decide +kernel
theorem dX3_obey_67 : decode cX3_obey 67 = .ok (.aload_n 2, 1) := by decide +kernel
theorem dX3_obey_68 : decode cX3_obey 68 = .ok (.iconst 1, 1) := by decide +kernel
theorem dX3_obey_69 : decode cX3_obey 69 = .ok (.iaload, 1) := by decide +kernel
theorem dX3_obey_70 : decode cX3_obey 70 = .ok (.aload_n 2, 1) := by decide +kernel
theorem dX3_obey_71 : decode cX3_obey 71 = .ok (.iconst 2, 1) := by decide +kernel
theorem dX3_obey_72 : decode cX3_obey 72 = .ok (.iaload, 1) := by decide +kernel
theorem dX3_obey_73 : decode cX3_obey 73 = .ok (.invokevirtual 62, 3) := by decide +kernel
theorem dX3_obey_76 : decode cX3_obey 76 = .ok (.ireturn, 1) := by decide +kernel
theorem dX3_obey_77 : decode cX3_obey 77 = .ok (.aload_n 0, 1) := by decide +kernel
theorem dX3_obey_78 : decode cX3_obey 78 = .ok (.getfield 12, 3) := by decide +kernel
theorem dX3_obey_81 : decode cX3_obey 81 = .ok (.invokevirtual 66, 3) := by decide +kernel
theorem dX3_obey_84 : decode cX3_obey 84 = .ok (.ireturn, 1) := by decide +kernel
theorem dX3_obey_85 : decode cX3_obey 85 = .ok (.aload_n 0, 1) := by decide +kernel
theorem dX3_obey_86 : decode cX3_obey 86 = .ok (.getfield 12, 3) := by decide +kernel
theorem dX3_obey_89 : decode cX3_obey 89 = .ok (.aload_n 2, 1) := by decide +kernel
theorem dX3_obey_90 : decode cX3_obey 90 = .ok (.iconst 0, 1) := by decide +kernel
theorem dX3_obey_91 : decode cX3_obey 91 = .ok (.iaload, 1) := by decide +kernel
theorem dX3_obey_92 : decode cX3_obey 92 = .ok (.aload_n 2, 1) := by decide +kernel
theorem dX3_obey_93 : decode cX3_obey 93 = .ok (.iconst 1, 1) := by decide +kernel
theorem dX3_obey_94 : decode cX3_obey 94 = .ok (.iaload, 1) := by decide +kernel
theorem dX3_obey_95 : decode cX3_obey 95 = .ok (.aload_n 2, 1) := by decide +kernel
theorem dX3_obey_96 : decode cX3_obey 96 = .ok (.iconst 2, 1) := by decide +kernel
theorem dX3_obey_97 : decode cX3_obey 97 = .ok (.iaload, 1) := by decide +kernel
theorem dX3_obey_98 : decode cX3_obey 98 = .ok (.aload_n 0, 1) := by decide +kernel
theorem dX3_obey_99 : decode cX3_obey 99 = .ok (.getfield 18, 3) := by decide +kernel
theorem dX3_obey_102 : decode cX3_obey 102 = .ok (.invokevirtual 70, 3) := by decide +kernel
theorem dX3_obey_105 : decode cX3_obey 105 = .ok (.ireturn, 1) := by decide +kernel
theorem dX3_obey_106 : decode cX3_obey 106 = .ok (.aload_n 0, 1) := by decide +kernel
theorem dX3_obey_107 : decode cX3_obey 107 = .ok (.getfield 12, 3) := by decide +kernel
theorem dX3_obey_110 : decode cX3_obey 110 = .ok (.aload_n 2, 1) := by decide +kernel
theorem dX3_obey_111 : decode cX3_obey 111 = .ok (.iconst 0, 1) := by decide +kernel
theorem dX3_obey_112 : decode cX3_obey 112 = .ok (.iaload, 1) := by decide +kernel
theorem dX3_obey_113 : decode cX3_obey 113 = .ok (.invokevirtual 74, 3) := by decide +kernel
theorem dX3_obey_116 : decode cX3_obey 116 = .ok (.ireturn, 1) := by decide +kernel
theorem dX3_obey_117 : decode cX3_obey 117 = .ok (.aload_n 0, 1) := by decide +kernel
theorem dX3_obey_118 : decode cX3_obey 118 = .ok (.getfield 12, 3) := by decide +kernel
theorem dX3_obey_121 : decode cX3_obey 121 = .ok (.aload_n 2, 1) := by decide +kernel
theorem dX3_obey_122 : decode cX3_obey 122 = .ok (.iconst 0, 1) := by decide +kernel
theorem dX3_obey_123 : decode cX3_obey 123 = .ok (.iaload, 1) := by decide +kernel
theorem dX3_obey_124 : decode cX3_obey 124 = .ok (.aload_n 2, 1) := by decide +kernel
theorem dX3_obey_125 : decode cX3_obey 125 = .ok (.iconst 1, 1) := by decide +kernel
theorem dX3_obey_126 : decode cX3_obey 126 = .ok (.iaload, 1) := by decide +kernel
theorem dX3_obey_127 : decode cX3_obey 127 = .ok (.invokevirtual 78, 3) := by decide +kernel
theorem dX3_obey_130 : decode cX3_obey 130 = .ok (.ireturn, 1) := by decide +kernel
theorem dX3_obey_131 : decode cX3_obey 131 = .ok (.aload_n 0, 1) := by decide +kernel
theorem dX3_obey_132 : decode cX3_obey 132 = .ok (.getfield 12, 3) := by decide +kernel
theorem dX3_obey_135 : decode cX3_obey 135 = .ok (.aload_n 2, 1) := by decide +kernel
theorem dX3_obey_136 : decode cX3_obey 136 = .ok (.iconst 0, 1) := by decide +kernel
theorem dX3_obey_137 : decode cX3_obey 137 = .ok (.iaload, 1) := by decide +kernel
theorem dX3_obey_138 : decode cX3_obey 138 = .ok (.invokevirtual 82, 3) := by decide +kernel
theorem dX3_obey_141 : decode cX3_obey 141 = .ok (.ireturn, 1) := by decide +kernel
theorem dX3_obey_142 : decode cX3_obey 142 = .ok (.iconst (-1), 1) := by decide +kernel
theorem dX3_obey_143 : decode cX3_obey 143 = .ok (.ireturn, 1) := by decide +kernel
