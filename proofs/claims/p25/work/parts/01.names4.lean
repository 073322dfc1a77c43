theorem dX4_take_52 : decode cX4_take 52 = .ok (.iload 5, 2) := by decide +kernel
theorem dX4_take_54 : decode cX4_take 54 = .ok (.istore 6, 2) := by decide +kernel
theorem dX4_take_56 : decode cX4_take 56 = .ok (.aload_n 0, 1) := by decide +kernel
theorem dX4_take_57 : decode cX4_take 57 = .ok (.getfield 13, 3) := by decide +kernel
theorem dX4_take_60 : decode cX4_take 60 = .ok (.iload 4, 2) := by decide +kernel
theorem dX4_take_62 : decode cX4_take 62 = .ok (.dup2, 1) := by decide +kernel
theorem dX4_take_63 : decode cX4_take 63 = .ok (.iaload, 1) := by decide +kernel
theorem dX4_take_64 : decode cX4_take 64 = .ok (.iload 6, 2) := by decide +kernel
theorem dX4_take_66 : decode cX4_take 66 = .ok (.isub, 1) := by decide +kernel
theorem dX4_take_67 : decode cX4_take 67 = .ok (.iastore, 1) := by decide +kernel
theorem dX4_take_68 : decode cX4_take 68 = .ok (.iload_n 3, 1) := by decide +kernel
theorem dX4_take_69 : decode cX4_take 69 = .ok (.iload 6, 2) := by decide +kernel
theorem dX4_take_71 : decode cX4_take 71 = .ok (.iadd, 1) := by decide +kernel
theorem dX4_take_72 : decode cX4_take 72 = .ok (.istore_n 3, 1) := by decide +kernel
theorem dX4_take_73 : decode cX4_take 73 = .ok (.iinc 4 1, 3) := by decide +kernel
theorem dX4_take_76 : decode cX4_take 76 = .ok (.goto (-71), 3) := by decide +kernel
theorem dX4_take_79 : decode cX4_take 79 = .ok (.aload_n 0, 1) := by decide +kernel
theorem dX4_take_80 : decode cX4_take 80 = .ok (.getfield 31, 3) := by decide +kernel
theorem dX4_take_83 : decode cX4_take 83 = .ok (.iload_n 1, 1) := by decide +kernel
theorem dX4_take_84 : decode cX4_take 84 = .ok (.dup2, 1) := by decide +kernel
theorem dX4_take_85 : decode cX4_take 85 = .ok (.iaload, 1) := by decide +kernel
theorem dX4_take_86 : decode cX4_take 86 = .ok (.iload_n 3, 1) := by decide +kernel
theorem dX4_take_87 : decode cX4_take 87 = .ok (.iadd, 1) := by decide +kernel
theorem dX4_take_88 : decode cX4_take 88 = .ok (.iastore, 1) := by decide +kernel
theorem dX4_take_89 : decode cX4_take 89 = .ok (.iload_n 3, 1) := by decide +kernel
theorem dX4_take_90 : decode cX4_take 90 = .ok (.ireturn, 1) := by decide +kernel
theorem dX4_spoil_0 : decode cX4_spoil 0 = .ok (.iconst 0, 1) := by decide +kernel
theorem dX4_spoil_1 : decode cX4_spoil 1 = .ok (.istore_n 2, 1) := by decide +kernel
theorem dX4_spoil_2 : decode cX4_spoil 2 = .ok (.iload_n 2, 1) := by decide +kernel
theorem dX4_spoil_3 : decode cX4_spoil 3 = .ok (.iconst 3, 1) := by decide +kernel
theorem dX4_spoil_4 : decode cX4_spoil 4 = .ok (.if_icmp .ge 67, 3) := by decide +kernel
theorem dX4_spoil_7 : decode cX4_spoil 7 = .ok (.iconst 0, 1) := by decide +kernel
theorem dX4_spoil_8 : decode cX4_spoil 8 = .ok (.istore_n 3, 1) := by decide +kernel
theorem dX4_spoil_9 : decode cX4_spoil 9 = .ok (.iload_n 3, 1) := by decide +kernel
theorem dX4_spoil_10 : decode cX4_spoil 10 = .ok (.aload_n 0, 1) := by decide +kernel
theorem dX4_spoil_11 : decode cX4_spoil 11 = .ok (.getfield 43, 3) := by decide +kernel
theorem dX4_spoil_14 : decode cX4_spoil 14 = .ok (.if_icmp .ge 51, 3) := by decide +kernel
theorem dX4_spoil_17 : decode cX4_spoil 17 = .ok (.aload_n 0, 1) := by decide +kernel
theorem dX4_spoil_18 : decode cX4_spoil 18 = .ok (.getfield 9, 3) := by decide +kernel
theorem dX4_spoil_21 : decode cX4_spoil 21 = .ok (.iload_n 3, 1) := by decide +kernel
theorem dX4_spoil_22 : decode cX4_spoil 22 = .ok (.iaload, 1) := by decide +kernel
theorem dX4_spoil_23 : decode cX4_spoil 23 = .ok (.iload_n 2, 1) := by decide +kernel
theorem dX4_spoil_24 : decode cX4_spoil 24 = .ok (.if_icmp .ne 35, 3) := by decide +kernel
theorem dX4_spoil_27 : decode cX4_spoil 27 = .ok (.aload_n 0, 1) := by decide +kernel
theorem dX4_spoil_28 : decode cX4_spoil 28 = .ok (.getfield 16, 3) := by decide +kernel
theorem dX4_spoil_31 : decode cX4_spoil 31 = .ok (.iload_n 3, 1) := by decide +kernel
theorem dX4_spoil_32 : decode cX4_spoil 32 = .ok (.iaload, 1) := by decide +kernel
theorem dX4_spoil_33 : decode cX4_spoil 33 = .ok (.iload_n 1, 1) := by decide +kernel
theorem dX4_spoil_34 : decode cX4_spoil 34 = .ok (.if_icmp .ne 25, 3) := by decide +kernel
theorem dX4_spoil_37 : decode cX4_spoil 37 = .ok (.aload_n 0, 1) := by decide +kernel
theorem dX4_spoil_38 : decode cX4_spoil 38 = .ok (.getfield 34, 3) := by decide +kernel
theorem dX4_spoil_41 : decode cX4_spoil 41 = .ok (.iload_n 2, 1) := by decide +kernel
theorem dX4_spoil_42 : decode cX4_spoil 42 = .ok (.dup2, 1) := by decide +kernel
theorem dX4_spoil_43 : decode cX4_spoil 43 = .ok (.iaload, 1) := by decide +kernel
theorem dX4_spoil_44 : decode cX4_spoil 44 = .ok (.aload_n 0, 1) := by decide +kernel
theorem dX4_spoil_45 : decode cX4_spoil 45 = .ok (.getfield 13, 3) := by decide +kernel
theorem dX4_spoil_48 : decode cX4_spoil 48 = .ok (.iload_n 3, 1) := by decide +kernel
theorem dX4_spoil_49 : decode cX4_spoil 49 = .ok (.iaload, 1) := by decide +kernel
theorem dX4_spoil_50 : decode cX4_spoil 50 = .ok (.iadd, 1) := by decide +kernel
theorem dX4_spoil_51 : decode cX4_spoil 51 = .ok (.iastore, 1) := by decide +kernel
theorem dX4_spoil_52 : decode cX4_spoil 52 = .ok (.aload_n 0, 1) := by decide +kernel
theorem dX4_spoil_53 : decode cX4_spoil 53 = .ok (.getfield 13, 3) := by decide +kernel
theorem dX4_spoil_56 : decode cX4_spoil 56 = .ok (.iload_n 3, 1) := by decide +kernel
theorem dX4_spoil_57 : decode cX4_spoil 57 = .ok (.iconst 0, 1) := by decide +kernel
theorem dX4_spoil_58 : decode cX4_spoil 58 = .ok (.iastore, 1) := by decide +kernel
theorem dX4_spoil_59 : decode cX4_spoil 59 = .ok (.iinc 3 1, 3) := by decide +kernel
theorem dX4_spoil_62 : decode cX4_spoil 62 = .ok (.goto (-53), 3) := by decide +kernel
theorem dX4_spoil_65 : decode cX4_spoil 65 = .ok (.iinc 2 1, 3) := by decide +kernel
theorem dX4_spoil_68 : decode cX4_spoil 68 = .ok (.goto (-66), 3) := by decide +kernel
theorem dX4_spoil_71 : decode cX4_spoil 71 = .ok (.return_, 1) := by decide +kernel
theorem dX4_dropEmptyLots_0 : decode cX4_dropEmptyLots 0 = .ok (.iconst 0, 1) := by decide +kernel
theorem dX4_dropEmptyLots_1 : decode cX4_dropEmptyLots 1 = .ok (.istore_n 1, 1) := by decide +kernel
theorem dX4_dropEmptyLots_2 : decode cX4_dropEmptyLots 2 = .ok (.iconst 0, 1) := by decide +kernel
theorem dX4_dropEmptyLots_3 : decode cX4_dropEmptyLots 3 = .ok (.istore_n 2, 1) := by decide +kernel
theorem dX4_dropEmptyLots_4 : decode cX4_dropEmptyLots 4 = .ok (.iload_n 2, 1) := by decide +kernel
theorem dX4_dropEmptyLots_5 : decode cX4_dropEmptyLots 5 = .ok (.aload_n 0, 1) := by decide +kernel
theorem dX4_dropEmptyLots_6 : decode cX4_dropEmptyLots 6 = .ok (.getfield 43, 3) := by decide +kernel
theorem dX4_dropEmptyLots_9 : decode cX4_dropEmptyLots 9 = .ok (.if_icmp .ge 57, 3) := by decide +kernel
theorem dX4_dropEmptyLots_12 : decode cX4_dropEmptyLots 12 = .ok (.aload_n 0, 1) := by decide +kernel
theorem dX4_dropEmptyLots_13 : decode cX4_dropEmptyLots 13 = .ok (.getfield 13, 3) := by decide +kernel
theorem dX4_dropEmptyLots_16 : decode cX4_dropEmptyLots 16 = .ok (.iload_n 2, 1) := by decide +kernel
theorem dX4_dropEmptyLots_17 : decode cX4_dropEmptyLots 17 = .ok (.iaload, 1) := by decide +kernel
theorem dX4_dropEmptyLots_18 : decode cX4_dropEmptyLots 18 = .ok (.ifCond .le 42, 3) := by decide +kernel
theorem dX4_dropEmptyLots_21 : decode cX4_dropEmptyLots 21 = .ok (.aload_n 0, 1) := by decide +kernel
theorem dX4_dropEmptyLots_22 : decode cX4_dropEmptyLots 22 = .ok (.getfield 9, 3) := by decide +kernel
theorem dX4_dropEmptyLots_25 : decode cX4_dropEmptyLots 25 = .ok (.iload_n 1, 1) := by decide +kernel
theorem dX4_dropEmptyLots_26 : decode cX4_dropEmptyLots 26 = .ok (.aload_n 0, 1) := by decide +kernel
theorem dX4_dropEmptyLots_27 : decode cX4_dropEmptyLots 27 = .ok (.getfield 9, 3) := by decide +kernel
theorem dX4_dropEmptyLots_30 : decode cX4_dropEmptyLots 30 = .ok (.iload_n 2, 1) := by decide +kernel
theorem dX4_dropEmptyLots_31 : decode cX4_dropEmptyLots 31 = .ok (.iaload, 1) := by decide +kernel
theorem dX4_dropEmptyLots_32 : decode cX4_dropEmptyLots 32 = .ok (.iastore, 1) := by decide +kernel
theorem dX4_dropEmptyLots_33 : decode cX4_dropEmptyLots 33 = .ok (.aload_n 0, 1) := by decide +kernel
theorem dX4_dropEmptyLots_34 : decode cX4_dropEmptyLots 34 = .ok (.getfield 13, 3) := by decide +kernel
theorem dX4_dropEmptyLots_37 : decode cX4_dropEmptyLots 37 = .ok (.iload_n 1, 1) := by decide +kernel
theorem dX4_dropEmptyLots_38 : decode cX4_dropEmptyLots 38 = .ok (.aload_n 0, 1) := by decide +kernel
theorem dX4_dropEmptyLots_39 : decode cX4_dropEmptyLots 39 = .ok (.getfield 13, 3) := by decide +kernel
theorem dX4_dropEmptyLots_42 : decode cX4_dropEmptyLots 42 = .ok (.iload_n 2, 1) := by decide +kernel
theorem dX4_dropEmptyLots_43 : decode cX4_dropEmptyLots 43 = .ok (.iaload, 1) := by decide +kernel
theorem dX4_dropEmptyLots_44 : decode cX4_dropEmptyLots 44 = .ok (.iastore, 1) := by decide +kernel
theorem dX4_dropEmptyLots_45 : decode cX4_dropEmptyLots 45 = .ok (.aload_n 0, 1) := by decide +kernel
theorem dX4_dropEmptyLots_46 : decode cX4_dropEmptyLots 46 = .ok (.getfield 16, 3) := by decide +kernel
theorem dX4_dropEmptyLots_49 : decode cX4_dropEmptyLots 49 = .ok (.iload_n 1, 1) := by decide +kernel
theorem dX4_dropEmptyLots_50 : decode cX4_dropEmptyLots 50 = .ok (.aload_n 0, 1) := by decide +kernel
theorem dX4_dropEmptyLots_51 : decode cX4_dropEmptyLots 51 = .ok (.getfield 16, 3) := by decide +kernel
theorem dX4_dropEmptyLots_54 : decode cX4_dropEmptyLots 54 = .ok (.iload_n 2, 1) := by decide +kernel
theorem dX4_dropEmptyLots_55 : decode cX4_dropEmptyLots 55 = .ok (.iaload, 1) := by decide +kernel
theorem dX4_dropEmptyLots_56 : decode cX4_dropEmptyLots 56 = .ok (.iastore, 1) := by decide +kernel
theorem dX4_dropEmptyLots_57 : decode cX4_dropEmptyLots 57 = .ok (.iinc 1 1, 3) := by decide +kernel
theorem dX4_dropEmptyLots_60 : decode cX4_dropEmptyLots 60 = .ok (.iinc 2 1, 3) := by decide +kernel
theorem dX4_dropEmptyLots_63 : decode cX4_dropEmptyLots 63 = .ok (.goto (-59), 3) := by decide +kernel
theorem dX4_dropEmptyLots_66 : decode cX4_dropEmptyLots 66 = .ok (.aload_n 0, 1) := by decide +kernel
theorem dX4_dropEmptyLots_67 : decode cX4_dropEmptyLots 67 = .ok (.iload_n 1, 1) := by decide +kernel
theorem dX4_dropEmptyLots_68 : decode cX4_dropEmptyLots 68 = .ok (.putfield 43, 3) := by decide +kernel
theorem dX4_dropEmptyLots_71 : decode cX4_dropEmptyLots 71 = .ok (.return_, 1) := by decide +kernel
theorem dX4_find_0 : decode cX4_find 0 = .ok (.iconst 0, 1) := by decide +kernel
theorem dX4_find_1 : decode cX4_find 1 = .ok (.istore_n 3, 1) := by decide +kernel
theorem dX4_find_2 : decode cX4_find 2 = .ok (.iconst 0, 1) := by decide +kernel
theorem dX4_find_3 : decode cX4_find 3 = .ok (.istore 4, 2) := by decide +kernel
theorem dX4_find_5 : decode cX4_find 5 = .ok (.iload 4, 2) := by decide +kernel
theorem dX4_find_7 : decode cX4_find 7 = .ok (.aload_n 0, 1) := by decide +kernel
theorem dX4_find_8 : decode cX4_find 8 = .ok (.getfield 43, 3) := by decide +kernel
theorem dX4_find_11 : decode cX4_find 11 = .ok (.if_icmp .ge 31, 3) := by decide +kernel
theorem dX4_find_14 : decode cX4_find 14 = .ok (.aload_n 0, 1) := by decide +kernel
theorem dX4_find_15 : decode cX4_find 15 = .ok (.getfield 9, 3) := by decide +kernel
theorem dX4_find_18 : decode cX4_find 18 = .ok (.iload 4, 2) := by decide +kernel
theorem dX4_find_20 : decode cX4_find 20 = .ok (.iaload, 1) := by decide +kernel
theorem dX4_find_21 : decode cX4_find 21 = .ok (.iload_n 1, 1) := by decide +kernel
theorem dX4_find_22 : decode cX4_find 22 = .ok (.if_icmp .ne 14, 3) := by decide +kernel
theorem dX4_find_25 : decode cX4_find 25 = .ok (.iload_n 3, 1) := by decide +kernel
theorem dX4_find_26 : decode cX4_find 26 = .ok (.iload_n 2, 1) := by decide +kernel
theorem dX4_find_27 : decode cX4_find 27 = .ok (.if_icmp .ne 6, 3) := by decide +kernel
theorem dX4_find_30 : decode cX4_find 30 = .ok (.iload 4, 2) := by decide +kernel
theorem dX4_find_32 : decode cX4_find 32 = .ok (.ireturn, 1) := by decide +kernel
theorem dX4_find_33 : decode cX4_find 33 = .ok (.iinc 3 1, 3) := by decide +kernel
theorem dX4_find_36 : decode cX4_find 36 = .ok (.iinc 4 1, 3) := by decide +kernel
theorem dX4_find_39 : decode cX4_find 39 = .ok (.goto (-34), 3) := by decide +kernel
theorem dX4_find_42 : decode cX4_find 42 = .ok (.iconst (-1), 1) := by decide +kernel
theorem dX4_find_43 : decode cX4_find 43 = .ok (.ireturn, 1) := by decide +kernel
theorem dX4_stock_0 : decode cX4_stock 0 = .ok (.iconst 0, 1) := by decide +kernel
theorem dX4_stock_1 : decode cX4_stock 1 = .ok (.istore_n 2, 1) := by decide +kernel
theorem dX4_stock_2 : decode cX4_stock 2 = .ok (.iconst 0, 1) := by decide +kernel
theorem dX4_stock_3 : decode cX4_stock 3 = .ok (.istore_n 3, 1) := by decide +kernel
theorem dX4_stock_4 : decode cX4_stock 4 = .ok (.iload_n 3, 1) := by decide +kernel
theorem dX4_stock_5 : decode cX4_stock 5 = .ok (.aload_n 0, 1) := by decide +kernel
theorem dX4_stock_6 : decode cX4_stock 6 = .ok (.getfield 43, 3) := by decide +kernel
theorem dX4_stock_9 : decode cX4_stock 9 = .ok (.if_icmp .ge 28, 3) := by decide +kernel
theorem dX4_stock_12 : decode cX4_stock 12 = .ok (.aload_n 0, 1) := by decide +kernel
theorem dX4_stock_13 : decode cX4_stock 13 = .ok (.getfield 9, 3) := by decide +kernel
theorem dX4_stock_16 : decode cX4_stock 16 = .ok (.iload_n 3, 1) := by decide +kernel
theorem dX4_stock_17 : decode cX4_stock 17 = .ok (.iaload, 1) := by decide +kernel
theorem dX4_stock_18 : decode cX4_stock 18 = .ok (.iload_n 1, 1) := by decide +kernel
theorem dX4_stock_19 : decode cX4_stock 19 = .ok (.if_icmp .ne 12, 3) := by decide +kernel
theorem dX4_stock_22 : decode cX4_stock 22 = .ok (.iload_n 2, 1) := by decide +kernel
theorem dX4_stock_23 : decode cX4_stock 23 = .ok (.aload_n 0, 1) := by decide +kernel
theorem dX4_stock_24 : decode cX4_stock 24 = .ok (.getfield 13, 3) := by decide +kernel
theorem dX4_stock_27 : decode cX4_stock 27 = .ok (.iload_n 3, 1) := by decide +kernel
theorem dX4_stock_28 : decode cX4_stock 28 = .ok (.iaload, 1) := by decide +kernel
theorem dX4_stock_29 : decode cX4_stock 29 = .ok (.iadd, 1) := by decide +kernel
theorem dX4_stock_30 : decode cX4_stock 30 = .ok (.istore_n 2, 1) := by decide +kernel
theorem dX4_stock_31 : decode cX4_stock 31 = .ok (.iinc 3 1, 3) := by decide +kernel
theorem dX4_stock_34 : decode cX4_stock 34 = .ok (.goto (-30), 3) := by decide +kernel
theorem dX4_stock_37 : decode cX4_stock 37 = .ok (.iload_n 2, 1) := by decide +kernel
theorem dX4_stock_38 : decode cX4_stock 38 = .ok (.ireturn, 1) := by decide +kernel
theorem dX4_lotsOfKind_0 : decode cX4_lotsOfKind 0 = .ok (.iconst 0, 1) := by decide +kernel
theorem dX4_lotsOfKind_1 : decode cX4_lotsOfKind 1 = .ok (.istore_n 2, 1) := by decide +kernel
theorem dX4_lotsOfKind_2 : decode cX4_lotsOfKind 2 = .ok (.iconst 0, 1) := by decide +kernel
theorem dX4_lotsOfKind_3 : decode cX4_lotsOfKind 3 = .ok (.istore_n 3, 1) := by decide +kernel
theorem dX4_lotsOfKind_4 : decode cX4_lotsOfKind 4 = .ok (.iload_n 3, 1) := by decide +kernel
theorem dX4_lotsOfKind_5 : decode cX4_lotsOfKind 5 = .ok (.aload_n 0, 1) := by decide +kernel
theorem dX4_lotsOfKind_6 : decode cX4_lotsOfKind 6 = .ok (.getfield 43, 3) := by decide +kernel
theorem dX4_lotsOfKind_9 : decode cX4_lotsOfKind 9 = .ok (.if_icmp .ge 22, 3) := by decide +kernel
theorem dX4_lotsOfKind_12 : decode cX4_lotsOfKind 12 = .ok (.aload_n 0, 1) := by decide +kernel
theorem dX4_lotsOfKind_13 : decode cX4_lotsOfKind 13 = .ok (.getfield 9, 3) := by decide +kernel
theorem dX4_lotsOfKind_16 : decode cX4_lotsOfKind 16 = .ok (.iload_n 3, 1) := by decide +kernel
theorem dX4_lotsOfKind_17 : decode cX4_lotsOfKind 17 = .ok (.iaload, 1) := by decide +kernel
theorem dX4_lotsOfKind_18 : decode cX4_lotsOfKind 18 = .ok (.iload_n 1, 1) := by decide +kernel
theorem dX4_lotsOfKind_19 : decode cX4_lotsOfKind 19 = .ok (.if_icmp .ne 6, 3) := by decide +kernel
theorem dX4_lotsOfKind_22 : decode cX4_lotsOfKind 22 = .ok (.iinc 2 1, 3) := by decide +kernel
theorem dX4_lotsOfKind_25 : decode cX4_lotsOfKind 25 = .ok (.iinc 3 1, 3) := by decide +kernel
theorem dX4_lotsOfKind_28 : decode cX4_lotsOfKind 28 = .ok (.goto (-24), 3) := by decide +kernel
theorem dX4_lotsOfKind_31 : decode cX4_lotsOfKind 31 = .ok (.iload_n 2, 1) := by decide +kernel
theorem dX4_lotsOfKind_32 : decode cX4_lotsOfKind 32 = .ok (.ireturn, 1) := by decide +kernel
theorem dX4_amountOnPallet_0 : decode cX4_amountOnPallet 0 = .ok (.iconst 0, 1) := by decide +kernel
theorem dX4_amountOnPallet_1 : decode cX4_amountOnPallet 1 = .ok (.istore_n 2, 1) := by decide +kernel
theorem dX4_amountOnPallet_2 : decode cX4_amountOnPallet 2 = .ok (.iconst 0, 1) := by decide +kernel
theorem dX4_amountOnPallet_3 : decode cX4_amountOnPallet 3 = .ok (.istore_n 3, 1) := by decide +kernel
theorem dX4_amountOnPallet_4 : decode cX4_amountOnPallet 4 = .ok (.iload_n 3, 1) := by decide +kernel
theorem dX4_amountOnPallet_5 : decode cX4_amountOnPallet 5 = .ok (.aload_n 0, 1) := by decide +kernel
theorem dX4_amountOnPallet_6 : decode cX4_amountOnPallet 6 = .ok (.getfield 47, 3) := by decide +kernel
theorem dX4_amountOnPallet_9 : decode cX4_amountOnPallet 9 = .ok (.if_icmp .ge 28, 3) := by decide +kernel
theorem dX4_amountOnPallet_12 : decode cX4_amountOnPallet 12 = .ok (.aload_n 0, 1) := by decide +kernel
theorem dX4_amountOnPallet_13 : decode cX4_amountOnPallet 13 = .ok (.getfield 19, 3) := by decide +kernel
theorem dX4_amountOnPallet_16 : decode cX4_amountOnPallet 16 = .ok (.iload_n 3, 1) := by decide +kernel
theorem dX4_amountOnPallet_17 : decode cX4_amountOnPallet 17 = .ok (.iaload, 1) := by decide +kernel
theorem dX4_amountOnPallet_18 : decode cX4_amountOnPallet 18 = .ok (.iload_n 1, 1) := by decide +kernel
theorem dX4_amountOnPallet_19 : decode cX4_amountOnPallet 19 = .ok (.if_icmp .ne 12, 3) := by decide +kernel
theorem dX4_amountOnPallet_22 : decode cX4_amountOnPallet 22 = .ok (.iload_n 2, 1) := by decide +kernel
theorem dX4_amountOnPallet_23 : decode cX4_amountOnPallet 23 = .ok (.aload_n 0, 1) := by decide +kernel
theorem dX4_amountOnPallet_24 : decode cX4_amountOnPallet 24 = .ok (.getfield 22, 3) := by decide +kernel
theorem dX4_amountOnPallet_27 : decode cX4_amountOnPallet 27 = .ok (.iload_n 3, 1) := by decide +kernel
theorem dX4_amountOnPallet_28 : decode cX4_amountOnPallet 28 = .ok (.iaload, 1) := by decide +kernel
theorem dX4_amountOnPallet_29 : decode cX4_amountOnPallet 29 = .ok (.iadd, 1) := by decide +kernel
theorem dX4_amountOnPallet_30 : decode cX4_amountOnPallet 30 = .ok (.istore_n 2, 1) := by decide +kernel
theorem dX4_amountOnPallet_31 : decode cX4_amountOnPallet 31 = .ok (.iinc 3 1, 3) := by decide +kernel
theorem dX4_amountOnPallet_34 : decode cX4_amountOnPallet 34 = .ok (.goto (-30), 3) := by decide +kernel
theorem dX4_amountOnPallet_37 : decode cX4_amountOnPallet 37 = .ok (.iload_n 2, 1) := by decide +kernel
theorem dX4_amountOnPallet_38 : decode cX4_amountOnPallet 38 = .ok (.ireturn, 1) := by decide +kernel
theorem dX5_init_0 : decode cX5_init 0 = .ok (.aload_n 0, 1) := by decide +kernel
theorem dX5_init_1 : decode cX5_init 1 = .ok (.invokespecial 1, 3) := by decide +kernel
theorem dX5_init_4 : decode cX5_init 4 = .ok (.aload_n 0, 1) := by decide +kernel
theorem dX5_init_5 : decode cX5_init 5 = .ok (.bipush 60, 2) := by decide +kernel
theorem dX5_init_7 : decode cX5_init 7 = .ok (.newarray .char, 2) := by decide +kernel
theorem dX5_init_9 : decode cX5_init 9 = .ok (.putfield 9, 3) := by decide +kernel
theorem dX5_init_12 : decode cX5_init 12 = .ok (.aload_n 0, 1) := by decide +kernel
theorem dX5_init_13 : decode cX5_init 13 = .ok (.iconst 3, 1) := by decide +kernel
theorem dX5_init_14 : decode cX5_init 14 = .ok (.newarray .int, 2) := by decide +kernel
theorem dX5_init_16 : decode cX5_init 16 = .ok (.putfield 13, 3) := by decide +kernel
theorem dX5_init_19 : decode cX5_init 19 = .ok (.return_, 1) := by decide +kernel
theorem dX5_append_0 : decode cX5_append 0 = .ok (.aload_n 0, 1) := by decide +kernel
theorem dX5_append_1 : decode cX5_append 1 = .ok (.getfield 17, 3) := by decide +kernel
theorem dX5_append_4 : decode cX5_append 4 = .ok (.bipush 60, 2) := by decide +kernel
theorem dX5_append_6 : decode cX5_append 6 = .ok (.if_icmp .ge 24, 3) := by decide +kernel
theorem dX5_append_9 : decode cX5_append 9 = .ok (.aload_n 0, 1) := by decide +kernel
theorem dX5_append_10 : decode cX5_append 10 = .ok (.getfield 9, 3) := by decide +kernel
theorem dX5_append_13 : decode cX5_append 13 = .ok (.aload_n 0, 1) := by decide +kernel
theorem dX5_append_14 : decode cX5_append 14 = .ok (.getfield 17, 3) := by decide +kernel
theorem dX5_append_17 : decode cX5_append 17 = .ok (.iload_n 1, 1) := by decide +kernel
theorem dX5_append_18 : decode cX5_append 18 = .ok (.i2c, 1) := by decide +kernel
theorem dX5_append_19 : decode cX5_append 19 = .ok (.castore, 1) := by decide +kernel
theorem dX5_append_20 : decode cX5_append 20 = .ok (.aload_n 0, 1) := by decide +kernel
theorem dX5_append_21 : decode cX5_append 21 = .ok (.dup, 1) := by decide +kernel
theorem dX5_append_22 : decode cX5_append 22 = .ok (.getfield 17, 3) := by decide +kernel
theorem dX5_append_25 : decode cX5_append 25 = .ok (.iconst 1, 1) := by decide +kernel
theorem dX5_append_26 : decode cX5_append 26 = .ok (.iadd, 1) := by decide +kernel
theorem dX5_append_27 : decode cX5_append 27 = .ok (.putfield 17, 3) := by decide +kernel
theorem dX5_append_30 : decode cX5_append 30 = .ok (.return_, 1) := by decide +kernel
set_option maxRecDepth 20000 in
theorem ggX5_readCommand_X5_at : GoodIn wsX5_readCommand wsX5_at := goodIn_r _ [8, 9, 10, 27, 28, 29, 30, 31] (by decide +kernel) (by decide +kernel)
set_option maxRecDepth 20000 in
theorem gX5_readCommand_X5_at : GoodIn wsX5_readCommand (wsV RX5 21 RX5 yX5_at wsX5_at) := goodIn_app (goodIn_of _ (by decide +kernel)) ggX5_readCommand_X5_at
set_option maxRecDepth 20000 in
theorem ggX5_readCommand_X5_numbersOf : GoodIn wsX5_readCommand wsX5_numbersOf := goodIn_r _ [14] (by decide +kernel) (by decide +kernel)
set_option maxRecDepth 20000 in
theorem gX5_readCommand_X5_numbersOf : GoodIn wsX5_readCommand (wsV RX5 32 RX5 yX5_numbersOf wsX5_numbersOf) := goodIn_app (goodIn_of _ (by decide +kernel)) ggX5_readCommand_X5_numbersOf
set_option maxRecDepth 20000 in
theorem ggX5_readCommand_X5_passes : GoodIn wsX5_readCommand wsX5_passes := goodIn_r _ [18, 2, 4, 5, 6, 7, 8, 9, 10, 27, 28, 29, 30, 31] (by decide +kernel) (by decide +kernel)
set_option maxRecDepth 20000 in
theorem gX5_readCommand_X5_passes : GoodIn wsX5_readCommand (wsV RX5 36 RX5 yX5_passes wsX5_passes) := goodIn_app (goodIn_of _ (by decide +kernel)) ggX5_readCommand_X5_passes
set_option maxRecDepth 20000 in
theorem ggX5_readCommand_X5_readNumber : GoodIn wsX5_readCommand wsX5_readNumber := goodIn_r _ [22, 2, 23, 24, 25, 26, 4, 5, 6, 7, 8, 9, 10, 27, 28, 29, 30, 31] (by decide +kernel) (by decide +kernel)
set_option maxRecDepth 20000 in
theorem gX5_readCommand_X5_readNumber : GoodIn wsX5_readCommand (wsV RX5 40 RX5 yX5_readNumber wsX5_readNumber) := goodIn_app (goodIn_of _ (by decide +kernel)) ggX5_readCommand_X5_readNumber
theorem dX5_readCommand_0 : decode cX5_readCommand 0 = .ok (.aload_n 0, 1) := by decide +kernel
theorem dX5_readCommand_1 : decode cX5_readCommand 1 = .ok (.aload_n 0, 1) := by decide +kernel
theorem dX5_readCommand_2 : decode cX5_readCommand 2 = .ok (.iload_n 1, 1) := by decide +kernel
theorem dX5_readCommand_3 : decode cX5_readCommand 3 = .ok (.invokevirtual 21, 3) := by decide +kernel
theorem dX5_readCommand_6 : decode cX5_readCommand 6 = .ok (.putfield 25, 3) := by decide +kernel
theorem dX5_readCommand_9 : decode cX5_readCommand 9 = .ok (.aload_n 0, 1) := by decide +kernel
theorem dX5_readCommand_10 : decode cX5_readCommand 10 = .ok (.iload_n 1, 1) := by decide +kernel
theorem dX5_readCommand_11 : decode cX5_readCommand 11 = .ok (.iconst 1, 1) := by decide +kernel
theorem dX5_readCommand_12 : decode cX5_readCommand 12 = .ok (.iadd, 1) := by decide +kernel
theorem dX5_readCommand_13 : decode cX5_readCommand 13 = .ok (.putfield 29, 3) := by decide +kernel
theorem dX5_readCommand_16 : decode cX5_readCommand 16 = .ok (.aload_n 0, 1) := by decide +kernel
theorem dX5_readCommand_17 : decode cX5_readCommand 17 = .ok (.aload_n 0, 1) := by decide +kernel
theorem dX5_readCommand_18 : decode cX5_readCommand 18 = .ok (.getfield 25, 3) := by decide +kernel
theorem dX5_readCommand_21 : decode cX5_readCommand 21 = .ok (.invokevirtual 32, 3) := by decide +kernel
theorem dX5_readCommand_24 : decode cX5_readCommand 24 = .ok (.istore_n 2, 1) := by decide +kernel
theorem dX5_readCommand_25 : decode cX5_readCommand 25 = .ok (.iload_n 2, 1) := by decide +kernel
theorem dX5_readCommand_26 : decode cX5_readCommand 26 = .ok (.ifCond .ge 5, 3) := by decide +kernel
theorem dX5_readCommand_29 : decode cX5_readCommand 29 = .ok (.iconst 0, 1) := by decide +kernel
theorem dX5_readCommand_30 : decode cX5_readCommand 30 = .ok (.ireturn, 1) := by decide +kernel
theorem dX5_readCommand_31 : decode cX5_readCommand 31 = .ok (.iconst 0, 1) := by decide +kernel
theorem dX5_readCommand_32 : decode cX5_readCommand 32 = .ok (.istore_n 3, 1) := by decide +kernel
theorem dX5_readCommand_33 : decode cX5_readCommand 33 = .ok (.iload_n 3, 1) := by decide +kernel
theorem dX5_readCommand_34 : decode cX5_readCommand 34 = .ok (.iload_n 2, 1) := by decide +kernel
theorem dX5_readCommand_35 : decode cX5_readCommand 35 = .ok (.if_icmp .ge 50, 3) := by decide +kernel
theorem dX5_readCommand_38 : decode cX5_readCommand 38 = .ok (.iload_n 3, 1) := by decide +kernel
theorem dX5_readCommand_39 : decode cX5_readCommand 39 = .ok (.iconst 3, 1) := by decide +kernel
theorem dX5_readCommand_40 : decode cX5_readCommand 40 = .ok (.if_icmp .ge 45, 3) := by decide +kernel
theorem dX5_readCommand_43 : decode cX5_readCommand 43 = .ok (.iload_n 3, 1) := by decide +kernel
theorem dX5_readCommand_44 : decode cX5_readCommand 44 = .ok (.ifCond .le 14, 3) := by decide +kernel
theorem dX5_readCommand_47 : decode cX5_readCommand 47 = .ok (.aload_n 0, 1) := by decide +kernel
theorem dX5_readCommand_48 : decode cX5_readCommand 48 = .ok (.bipush 44, 2) := by decide +kernel
theorem dX5_readCommand_50 : decode cX5_readCommand 50 = .ok (.invokevirtual 36, 3) := by decide +kernel
theorem dX5_readCommand_53 : decode cX5_readCommand 53 = .ok (.ifCond .ne 5, 3) := by decide +kernel
theorem dX5_readCommand_56 : decode cX5_readCommand 56 = .ok (.iconst 0, 1) := by decide +kernel
theorem dX5_readCommand_57 : decode cX5_readCommand 57 = .ok (.ireturn, 1) := by decide +kernel
theorem dX5_readCommand_58 : decode cX5_readCommand 58 = .ok (.aload_n 0, 1) := by decide +kernel
theorem dX5_readCommand_59 : decode cX5_readCommand 59 = .ok (.getfield 13, 3) := by decide +kernel
theorem dX5_readCommand_62 : decode cX5_readCommand 62 = .ok (.iload_n 3, 1) := by decide +kernel
theorem dX5_readCommand_63 : decode cX5_readCommand 63 = .ok (.aload_n 0, 1) := by decide +kernel
theorem dX5_readCommand_64 : decode cX5_readCommand 64 = .ok (.invokevirtual 40, 3) := by decide +kernel
theorem dX5_readCommand_67 : decode cX5_readCommand 67 = .ok (.iastore, 1) := by decide +kernel
theorem dX5_readCommand_68 : decode cX5_readCommand 68 = .ok (.aload_n 0, 1) := by decide +kernel
theorem dX5_readCommand_69 : decode cX5_readCommand 69 = .ok (.getfield 13, 3) := by decide +kernel
theorem dX5_readCommand_72 : decode cX5_readCommand 72 = .ok (.iload_n 3, 1) := by decide +kernel
theorem dX5_readCommand_73 : decode cX5_readCommand 73 = .ok (.iaload, 1) := by decide +kernel
theorem dX5_readCommand_74 : decode cX5_readCommand 74 = .ok (.ifCond .ge 5, 3) := by decide +kernel
theorem dX5_readCommand_77 : decode cX5_readCommand 77 = .ok (.iconst 0, 1) := by decide +kernel
theorem dX5_readCommand_78 : decode cX5_readCommand 78 = .ok (.ireturn, 1) := by decide +kernel
theorem dX5_readCommand_79 : decode cX5_readCommand 79 = .ok (.iinc 3 1, 3) := by decide +kernel
theorem dX5_readCommand_82 : decode cX5_readCommand 82 = .ok (.goto (-49), 3) := by decide +kernel
theorem dX5_readCommand_85 : decode cX5_readCommand 85 = .ok (.aload_n 0, 1) := by decide +kernel
theorem dX5_readCommand_86 : decode cX5_readCommand 86 = .ok (.bipush 59, 2) := by decide +kernel
theorem dX5_readCommand_88 : decode cX5_readCommand 88 = .ok (.invokevirtual 36, 3) := by decide +kernel
theorem dX5_readCommand_91 : decode cX5_readCommand 91 = .ok (.ireturn, 1) := by decide +kernel
theorem dX5_numbersOf_0 : decode cX5_numbersOf 0 = .ok (.iload_n 1, 1) := by decide +kernel
theorem dX5_numbersOf_1 : decode cX5_numbersOf 1 = .ok (.lookupswitch 71 #[(98, 63), (102, 61), (108, 59), (110, 69), (115, 67), (120, 65)], 59) := by decide +kernel
theorem dX5_numbersOf_60 : decode cX5_numbersOf 60 = .ok (.iconst 3, 1) := by decide +kernel
theorem dX5_numbersOf_61 : decode cX5_numbersOf 61 = .ok (.ireturn, 1) := by decide +kernel
theorem dX5_numbersOf_62 : decode cX5_numbersOf 62 = .ok (.iconst 0, 1) := by decide +kernel
theorem dX5_numbersOf_63 : decode cX5_numbersOf 63 = .ok (.ireturn, 1) := by decide +kernel
theorem dX5_numbersOf_64 : decode cX5_numbersOf 64 = .ok (.iconst 3, 1) := by decide +kernel
theorem dX5_numbersOf_65 : decode cX5_numbersOf 65 = .ok (.ireturn, 1) := by decide +kernel
theorem dX5_numbersOf_66 : decode cX5_numbersOf 66 = .ok (.iconst 1, 1) := by decide +kernel
theorem dX5_numbersOf_67 : decode cX5_numbersOf 67 = .ok (.ireturn, 1) := by decide +kernel
theorem dX5_numbersOf_68 : decode cX5_numbersOf 68 = .ok (.iconst 2, 1) := by decide +kernel
theorem dX5_numbersOf_69 : decode cX5_numbersOf 69 = .ok (.ireturn, 1) := by decide +kernel
theorem dX5_numbersOf_70 : decode cX5_numbersOf 70 = .ok (.iconst 1, 1) := by decide +kernel
theorem dX5_numbersOf_71 : decode cX5_numbersOf 71 = .ok (.ireturn, 1) := by decide +kernel
theorem dX5_numbersOf_72 : decode cX5_numbersOf 72 = .ok (.iconst (-1), 1) := by decide +kernel
theorem dX5_numbersOf_73 : decode cX5_numbersOf 73 = .ok (.ireturn, 1) := by decide +kernel
set_option maxRecDepth 20000 in
theorem ggX5_readNumber_X5_at : GoodIn wsX5_readNumber wsX5_at := goodIn_r _ [10, 11, 12, 13, 14, 15, 16, 17] (by decide +kernel) (by decide +kernel)
set_option maxRecDepth 20000 in
theorem gX5_readNumber_X5_at : GoodIn wsX5_readNumber (wsV RX5 21 RX5 yX5_at wsX5_at) := goodIn_app (goodIn_of _ (by decide +kernel)) ggX5_readNumber_X5_at
theorem dX5_readNumber_0 : decode cX5_readNumber 0 = .ok (.iconst (-1), 1) := by decide +kernel
theorem dX5_readNumber_1 : decode cX5_readNumber 1 = .ok (.istore_n 1, 1) := by decide +kernel
theorem dX5_readNumber_2 : decode cX5_readNumber 2 = .ok (.iconst 0, 1) := by decide +kernel
theorem dX5_readNumber_3 : decode cX5_readNumber 3 = .ok (.istore_n 2, 1) := by decide +kernel
theorem dX5_readNumber_4 : decode cX5_readNumber 4 = .ok (.iload_n 2, 1) := by decide +kernel
theorem dX5_readNumber_5 : decode cX5_readNumber 5 = .ok (.iconst 3, 1) := by decide +kernel
theorem dX5_readNumber_6 : decode cX5_readNumber 6 = .ok (.if_icmp .ge 56, 3) := by decide +kernel
theorem dX5_readNumber_9 : decode cX5_readNumber 9 = .ok (.aload_n 0, 1) := by decide +kernel
theorem dX5_readNumber_10 : decode cX5_readNumber 10 = .ok (.aload_n 0, 1) := by decide +kernel
theorem dX5_readNumber_11 : decode cX5_readNumber 11 = .ok (.getfield 29, 3) := by decide +kernel
theorem dX5_readNumber_14 : decode cX5_readNumber 14 = .ok (.invokevirtual 21, 3) := by decide +kernel
theorem dX5_readNumber_17 : decode cX5_readNumber 17 = .ok (.istore_n 3, 1) := by decide +kernel
theorem dX5_readNumber_18 : decode cX5_readNumber 18 = .ok (.iload_n 3, 1) := by decide +kernel
theorem dX5_readNumber_19 : decode cX5_readNumber 19 = .ok (.bipush 48, 2) := by decide +kernel
theorem dX5_readNumber_21 : decode cX5_readNumber 21 = .ok (.if_icmp .lt 9, 3) := by decide +kernel
theorem dX5_readNumber_24 : decode cX5_readNumber 24 = .ok (.iload_n 3, 1) := by decide +kernel
theorem dX5_readNumber_25 : decode cX5_readNumber 25 = .ok (.bipush 57, 2) := by decide +kernel
theorem dX5_readNumber_27 : decode cX5_readNumber 27 = .ok (.if_icmp .le 5, 3) := by decide +kernel
theorem dX5_readNumber_30 : decode cX5_readNumber 30 = .ok (.iload_n 1, 1) := by decide +kernel
theorem dX5_readNumber_31 : decode cX5_readNumber 31 = .ok (.ireturn, 1) := by decide +kernel
theorem dX5_readNumber_32 : decode cX5_readNumber 32 = .ok (.iload_n 1, 1) := by decide +kernel
theorem dX5_readNumber_33 : decode cX5_readNumber 33 = .ok (.iconst 0, 1) := by decide +kernel
theorem dX5_readNumber_34 : decode cX5_readNumber 34 = .ok (.invokestatic 44, 3) := by decide +kernel
theorem dX5_readNumber_37 : decode cX5_readNumber 37 = .ok (.bipush 10, 2) := by decide +kernel
theorem dX5_readNumber_39 : decode cX5_readNumber 39 = .ok (.imul, 1) := by decide +kernel
theorem dX5_readNumber_40 : decode cX5_readNumber 40 = .ok (.iload_n 3, 1) := by decide +kernel
theorem dX5_readNumber_41 : decode cX5_readNumber 41 = .ok (.bipush 48, 2) := by decide +kernel
theorem dX5_readNumber_43 : decode cX5_readNumber 43 = .ok (.isub, 1) := by decide +kernel
theorem dX5_readNumber_44 : decode cX5_readNumber 44 = .ok (.iadd, 1) := by decide +kernel
theorem dX5_readNumber_45 : decode cX5_readNumber 45 = .ok (.istore_n 1, 1) := by decide +kernel
theorem dX5_readNumber_46 : decode cX5_readNumber 46 = .ok (.aload_n 0, 1) := by decide +kernel
theorem dX5_readNumber_47 : decode cX5_readNumber 47 = .ok (.dup, 1) := by decide +kernel
theorem dX5_readNumber_48 : decode cX5_readNumber 48 = .ok (.getfield 29, 3) := by decide +kernel
theorem dX5_readNumber_51 : decode cX5_readNumber 51 = .ok (.iconst 1, 1) := by decide +kernel
theorem dX5_readNumber_52 : decode cX5_readNumber 52 = .ok (.iadd, 1) := by decide +kernel
theorem dX5_readNumber_53 : decode cX5_readNumber 53 = .ok (.putfield 29, 3) := by decide +kernel
theorem dX5_readNumber_56 : decode cX5_readNumber 56 = .ok (.iinc 2 1, 3) := by decide +kernel
theorem dX5_readNumber_59 : decode cX5_readNumber 59 = .ok (.goto (-55), 3) := by decide +kernel
theorem dX5_readNumber_62 : decode cX5_readNumber 62 = .ok (.iload_n 1, 1) := by decide +kernel
theorem dX5_readNumber_63 : decode cX5_readNumber 63 = .ok (.ireturn, 1) := by decide +kernel
set_option maxRecDepth 20000 in
theorem ggX5_passes_X5_at : GoodIn wsX5_passes wsX5_at := goodIn_r _ [6, 7, 8, 9, 10, 11, 12, 13] (by decide +kernel) (by decide +kernel)
set_option maxRecDepth 20000 in
theorem gX5_passes_X5_at : GoodIn wsX5_passes (wsV RX5 21 RX5 yX5_at wsX5_at) := goodIn_app (goodIn_of _ (by decide +kernel)) ggX5_passes_X5_at
theorem dX5_passes_0 : decode cX5_passes 0 = .ok (.aload_n 0, 1) := by decide +kernel
theorem dX5_passes_1 : decode cX5_passes 1 = .ok (.aload_n 0, 1) := by decide +kernel
theorem dX5_passes_2 : decode cX5_passes 2 = .ok (.getfield 29, 3) := by decide +kernel
theorem dX5_passes_5 : decode cX5_passes 5 = .ok (.invokevirtual 21, 3) := by decide +kernel
theorem dX5_passes_8 : decode cX5_passes 8 = .ok (.iload_n 1, 1) := by decide +kernel
theorem dX5_passes_9 : decode cX5_passes 9 = .ok (.if_icmp .eq 5, 3) := by decide +kernel
theorem dX5_passes_12 : decode cX5_passes 12 = .ok (.iconst 0, 1) := by decide +kernel
theorem dX5_passes_13 : decode cX5_passes 13 = .ok (.ireturn, 1) := by decide +kernel
theorem dX5_passes_14 : decode cX5_passes 14 = .ok (.aload_n 0, 1) := by decide +kernel
theorem dX5_passes_15 : decode cX5_passes 15 = .ok (.dup, 1) := by decide +kernel
theorem dX5_passes_16 : decode cX5_passes 16 = .ok (.getfield 29, 3) := by decide +kernel
theorem dX5_passes_19 : decode cX5_passes 19 = .ok (.iconst 1, 1) := by decide +kernel
theorem dX5_passes_20 : decode cX5_passes 20 = .ok (.iadd, 1) := by decide +kernel
theorem dX5_passes_21 : decode cX5_passes 21 = .ok (.putfield 29, 3) := by decide +kernel
theorem dX5_passes_24 : decode cX5_passes 24 = .ok (.iconst 1, 1) := by decide +kernel
theorem dX5_passes_25 : decode cX5_passes 25 = .ok (.ireturn, 1) := by decide +kernel
theorem dX5_at_0 : decode cX5_at 0 = .ok (.iload_n 1, 1) := by decide +kernel
theorem dX5_at_1 : decode cX5_at 1 = .ok (.ifCond .lt 20, 3) := by decide +kernel
theorem dX5_at_4 : decode cX5_at 4 = .ok (.iload_n 1, 1) := by decide +kernel
theorem dX5_at_5 : decode cX5_at 5 = .ok (.aload_n 0, 1) := by decide +kernel
theorem dX5_at_6 : decode cX5_at 6 = .ok (.getfield 17, 3) := by decide +kernel
theorem dX5_at_9 : decode cX5_at 9 = .ok (.if_icmp .ge 12, 3) := by decide +kernel
theorem dX5_at_12 : decode cX5_at 12 = .ok (.aload_n 0, 1) := by decide +kernel
theorem dX5_at_13 : decode cX5_at 13 = .ok (.getfield 9, 3) := by decide +kernel
theorem dX5_at_16 : decode cX5_at 16 = .ok (.iload_n 1, 1) := by decide +kernel
theorem dX5_at_17 : decode cX5_at 17 = .ok (.caload, 1) := by decide +kernel
theorem dX5_at_18 : decode cX5_at 18 = .ok (.goto 4, 3) := by decide +kernel
theorem dX5_at_21 : decode cX5_at 21 = .ok (.iconst 0, 1) := by decide +kernel
theorem dX5_at_22 : decode cX5_at 22 = .ok (.ireturn, 1) := by decide +kernel
set_option maxRecDepth 20000 in
theorem ggX6_init_X1_init : GoodIn wsX6_init wsX1_init := goodIn_r _ [25, 26, 2, 3, 27, 28, 29, 30, 31, 32, 33, 34, 35, 36, 37, 38, 39, 40, 41, 42, 43, 44, 45, 46, 47, 48, 49, 50, 51, 52, 53, 54, 55, 56, 57, 58, 59, 60, 61, 62, 115, 116, 117, 118, 119, 120, 121, 122, 123, 124, 125, 85, 86, 87, 88, 89, 90, 91, 92, 93, 94, 126, 127, 128, 129, 130, 131, 132] (by decide +kernel) (by decide +kernel)
set_option maxRecDepth 20000 in
theorem gX6_init_X1_init : GoodIn wsX6_init (wsX1_init) := ggX6_init_X1_init
set_option maxRecDepth 20000 in
theorem ggX6_init_X0_init : GoodIn wsX6_init wsX0_init := goodIn_r _ [65, 66, 2, 3, 67, 68, 5, 6, 69, 24, 25, 26, 27, 28, 29, 30, 31, 32, 33, 34, 35, 36, 37, 38, 39, 40, 41, 42, 43, 44, 45, 46, 47, 48, 49, 50, 51, 52, 53, 54, 55, 56, 57, 58, 59, 60, 61, 62, 102, 103, 85, 86, 87, 88, 89, 90, 91, 92, 93, 94, 115, 116, 117, 118, 119, 120, 121, 122, 123, 124, 125, 126, 127, 128, 129, 130, 131, 132] (by decide +kernel) (by decide +kernel)
set_option maxRecDepth 20000 in
theorem gX6_init_X0_init : GoodIn wsX6_init (wsX0_init) := ggX6_init_X0_init
set_option maxRecDepth 20000 in
theorem ggX6_init_X5_init : GoodIn wsX6_init wsX5_init := goodIn_r _ [72, 73, 2, 3, 74, 75, 37, 76, 104, 105, 106, 107, 108] (by decide +kernel) (by decide +kernel)
set_option maxRecDepth 20000 in
theorem gX6_init_X5_init : GoodIn wsX6_init (wsX5_init) := ggX6_init_X5_init
set_option maxRecDepth 20000 in
theorem ggX6_init_X3_init : GoodIn wsX6_init wsX3_init := goodIn_r _ [79, 80, 2, 3, 81, 5, 6, 82, 83, 84, 24, 25, 26, 27, 28, 29, 30, 31, 32, 33, 34, 35, 36, 37, 38, 39, 40, 41, 42, 43, 44, 45, 46, 47, 48, 49, 50, 51, 52, 53, 54, 55, 56, 57, 58, 59, 60, 61, 62, 85, 86, 87, 88, 89, 90, 91, 92, 93, 94, 109, 110, 111, 112, 113, 114, 115, 116, 117, 118, 119, 120, 121, 122, 123, 124, 125, 126, 127, 128, 129, 130, 131, 132] (by decide +kernel) (by decide +kernel)
set_option maxRecDepth 20000 in
theorem gX6_init_X3_init : GoodIn wsX6_init (wsX3_init) := ggX6_init_X3_init
theorem dX6_init_0 : decode cX6_init 0 = .ok (.aload_n 0, 1) := by decide +kernel
theorem dX6_init_1 : decode cX6_init 1 = .ok (.invokespecial 1, 3) := by decide +kernel
theorem dX6_init_4 : decode cX6_init 4 = .ok (.aload_n 0, 1) := by decide +kernel
theorem dX6_init_5 : decode cX6_init 5 = .ok (.new 7, 3) := by decide +kernel
theorem dX6_init_8 : decode cX6_init 8 = .ok (.dup, 1) := by decide +kernel
theorem dX6_init_9 : decode cX6_init 9 = .ok (.invokespecial 9, 3) := by decide +kernel
theorem dX6_init_12 : decode cX6_init 12 = .ok (.putfield 10, 3) := by decide +kernel
theorem dX6_init_15 : decode cX6_init 15 = .ok (.aload_n 0, 1) := by decide +kernel
theorem dX6_init_16 : decode cX6_init 16 = .ok (.new 7, 3) := by decide +kernel
theorem dX6_init_19 : decode cX6_init 19 = .ok (.dup, 1) := by decide +kernel
theorem dX6_init_20 : decode cX6_init 20 = .ok (.invokespecial 9, 3) := by decide +kernel
theorem dX6_init_23 : decode cX6_init 23 = .ok (.putfield 16, 3) := by decide +kernel
theorem dX6_init_26 : decode cX6_init 26 = .ok (.aload_n 0, 1) := by decide +kernel
theorem dX6_init_27 : decode cX6_init 27 = .ok (.new 7, 3) := by decide +kernel
theorem dX6_init_30 : decode cX6_init 30 = .ok (.dup, 1) := by decide +kernel
theorem dX6_init_31 : decode cX6_init 31 = .ok (.invokespecial 9, 3) := by decide +kernel
theorem dX6_init_34 : decode cX6_init 34 = .ok (.putfield 19, 3) := by decide +kernel
theorem dX6_init_37 : decode cX6_init 37 = .ok (.aload_n 0, 1) := by decide +kernel
theorem dX6_init_38 : decode cX6_init 38 = .ok (.new 22, 3) := by decide +kernel
theorem dX6_init_41 : decode cX6_init 41 = .ok (.dup, 1) := by decide +kernel
theorem dX6_init_42 : decode cX6_init 42 = .ok (.invokespecial 24, 3) := by decide +kernel
theorem dX6_init_45 : decode cX6_init 45 = .ok (.putfield 25, 3) := by decide +kernel
theorem dX6_init_48 : decode cX6_init 48 = .ok (.aload_n 0, 1) := by decide +kernel
theorem dX6_init_49 : decode cX6_init 49 = .ok (.new 29, 3) := by decide +kernel
theorem dX6_init_52 : decode cX6_init 52 = .ok (.dup, 1) := by decide +kernel
theorem dX6_init_53 : decode cX6_init 53 = .ok (.invokespecial 31, 3) := by decide +kernel
theorem dX6_init_56 : decode cX6_init 56 = .ok (.putfield 32, 3) := by decide +kernel
theorem dX6_init_59 : decode cX6_init 59 = .ok (.aload_n 0, 1) := by decide +kernel
theorem dX6_init_60 : decode cX6_init 60 = .ok (.new 36, 3) := by decide +kernel
theorem dX6_init_63 : decode cX6_init 63 = .ok (.dup, 1) := by decide +kernel
theorem dX6_init_64 : decode cX6_init 64 = .ok (.invokespecial 38, 3) := by decide +kernel
theorem dX6_init_67 : decode cX6_init 67 = .ok (.putfield 39, 3) := by decide +kernel
theorem dX6_init_70 : decode cX6_init 70 = .ok (.aload_n 0, 1) := by decide +kernel
theorem dX6_init_71 : decode cX6_init 71 = .ok (.iconst 0, 1) := by decide +kernel
theorem dX6_init_72 : decode cX6_init 72 = .ok (.putfield 43, 3) := by decide +kernel
theorem dX6_init_75 : decode cX6_init 75 = .ok (.return_, 1) := by decide +kernel
set_option maxRecDepth 20000 in
theorem ggX6_load_X0_prepare : GoodIn wsX6_load wsX0_prepare := goodIn_r _ [7, 8, 9, 10, 11, 12, 13, 14, 15, 16, 17, 18, 19, 20, 21, 22, 23, 24, 25, 26, 27, 28, 29, 30, 31, 32, 33, 34, 35, 36, 37, 38, 39, 40, 41, 42, 43, 44, 45, 46, 47, 48, 49, 50, 51, 52, 53, 54, 55, 56, 57, 58, 87, 88, 89, 90, 91, 92, 93, 94, 95, 96, 97, 98, 99, 100, 101, 102, 103, 104, 105, 106, 107, 108, 109, 110, 111, 112, 113, 114, 115, 116] (by decide +kernel) (by decide +kernel)
set_option maxRecDepth 20000 in
theorem gX6_load_X0_prepare : GoodIn wsX6_load (wsV RX6 47 RX0 yX0_prepare wsX0_prepare) := goodIn_app (goodIn_of _ (by decide +kernel)) ggX6_load_X0_prepare
set_option maxRecDepth 20000 in
theorem ggX6_load_X1_putOnPallet : GoodIn wsX6_load wsX1_putOnPallet := goodIn_r _ [62, 15, 63, 64, 65, 32, 66, 67, 68, 69, 70, 45, 38, 39, 40, 89, 90, 91, 92, 93, 94, 95, 96, 97, 98, 99, 100, 101, 102, 103, 104, 105, 106, 107, 108, 109] (by decide +kernel) (by decide +kernel)
set_option maxRecDepth 20000 in
theorem gX6_load_X1_putOnPallet : GoodIn wsX6_load (wsV RX6 51 RX1 yX1_putOnPallet wsX1_putOnPallet) := goodIn_app (goodIn_of _ (by decide +kernel)) ggX6_load_X1_putOnPallet
set_option maxRecDepth 20000 in
theorem ggX6_load_X6_recorded : GoodIn wsX6_load wsX6_recorded := goodIn_r _ [75, 1, 76, 77, 78, 6, 79, 8, 9, 80, 81, 82, 83, 84, 85, 86, 87, 88] (by decide +kernel) (by decide +kernel)
set_option maxRecDepth 20000 in
theorem gX6_load_X6_recorded : GoodIn wsX6_load (wsV RX6 55 RX6 yX6_recorded wsX6_recorded) := goodIn_app (goodIn_of _ (by decide +kernel)) ggX6_load_X6_recorded
theorem dX6_load_0 : decode cX6_load 0 = .ok (.aload_n 0, 1) := by decide +kernel
theorem dX6_load_1 : decode cX6_load 1 = .ok (.getfield 25, 3) := by decide +kernel
theorem dX6_load_4 : decode cX6_load 4 = .ok (.aload_n 0, 1) := by decide +kernel
theorem dX6_load_5 : decode cX6_load 5 = .ok (.getfield 10, 3) := by decide +kernel
theorem dX6_load_8 : decode cX6_load 8 = .ok (.invokevirtual 47, 3) := by decide +kernel
theorem dX6_load_11 : decode cX6_load 11 = .ok (.aload_n 0, 1) := by decide +kernel
theorem dX6_load_12 : decode cX6_load 12 = .ok (.aload_n 0, 1) := by decide +kernel
theorem dX6_load_13 : decode cX6_load 13 = .ok (.getfield 10, 3) := by decide +kernel
theorem dX6_load_16 : decode cX6_load 16 = .ok (.iload_n 1, 1) := by decide +kernel
theorem dX6_load_17 : decode cX6_load 17 = .ok (.iload_n 2, 1) := by decide +kernel
theorem dX6_load_18 : decode cX6_load 18 = .ok (.iload_n 3, 1) := by decide +kernel
theorem dX6_load_19 : decode cX6_load 19 = .ok (.invokevirtual 51, 3) := by decide +kernel
theorem dX6_load_22 : decode cX6_load 22 = .ok (.invokevirtual 55, 3) := by decide +kernel
theorem dX6_load_25 : decode cX6_load 25 = .ok (.ireturn, 1) := by decide +kernel
set_option maxRecDepth 20000 in
theorem ggX6_fly_X0_prepare : GoodIn wsX6_fly wsX0_prepare := goodIn_r _ [7, 8, 9, 10, 11, 12, 13, 14, 15, 16, 17, 18, 19, 20, 21, 22, 23, 24, 25, 26, 27, 28, 29, 30, 31, 32, 33, 34, 35, 36, 37, 38, 39, 40, 41, 42, 43, 44, 45, 46, 47, 48, 49, 50, 51, 52, 53, 54, 55, 56, 57, 58, 96, 97, 98, 99, 100, 101, 102, 103, 104, 105, 106, 107, 108, 109, 110, 111, 112, 113, 114, 115, 116, 117, 118, 119, 120, 121, 122, 123, 124, 125] (by decide +kernel) (by decide +kernel)
set_option maxRecDepth 20000 in
theorem gX6_fly_X0_prepare : GoodIn wsX6_fly (wsV RX6 47 RX0 yX0_prepare wsX0_prepare) := goodIn_app (goodIn_of _ (by decide +kernel)) ggX6_fly_X0_prepare
set_option maxRecDepth 20000 in
theorem ggX6_fly_X1_bringPallet : GoodIn wsX6_fly wsX1_bringPallet := goodIn_r _ [62, 15, 63, 24, 22, 64, 23, 65, 66, 67, 13, 68, 17, 69, 70, 71, 32, 72, 45, 38, 39, 40, 73, 74, 75, 76, 44, 37, 34, 36, 41, 77, 78, 79, 98, 99, 100, 101, 102, 103, 104, 105, 106, 107, 108, 109, 110, 111, 112, 113, 114, 115, 116, 117, 118] (by decide +kernel) (by decide +kernel)
set_option maxRecDepth 20000 in
theorem gX6_fly_X1_bringPallet : GoodIn wsX6_fly (wsV RX6 59 RX1 yX1_bringPallet wsX1_bringPallet) := goodIn_app (goodIn_of _ (by decide +kernel)) ggX6_fly_X1_bringPallet
set_option maxRecDepth 20000 in
theorem ggX6_fly_X6_recorded : GoodIn wsX6_fly wsX6_recorded := goodIn_r _ [84, 1, 85, 86, 87, 6, 88, 8, 9, 89, 90, 91, 92, 93, 94, 95, 96, 97] (by decide +kernel) (by decide +kernel)
set_option maxRecDepth 20000 in
theorem gX6_fly_X6_recorded : GoodIn wsX6_fly (wsV RX6 55 RX6 yX6_recorded wsX6_recorded) := goodIn_app (goodIn_of _ (by decide +kernel)) ggX6_fly_X6_recorded
theorem dX6_fly_0 : decode cX6_fly 0 = .ok (.aload_n 0, 1) := by decide +kernel
theorem dX6_fly_1 : decode cX6_fly 1 = .ok (.getfield 25, 3) := by decide +kernel
theorem dX6_fly_4 : decode cX6_fly 4 = .ok (.aload_n 0, 1) := by decide +kernel
theorem dX6_fly_5 : decode cX6_fly 5 = .ok (.getfield 10, 3) := by decide +kernel
theorem dX6_fly_8 : decode cX6_fly 8 = .ok (.invokevirtual 47, 3) := by decide +kernel
theorem dX6_fly_11 : decode cX6_fly 11 = .ok (.aload_n 0, 1) := by decide +kernel
theorem dX6_fly_12 : decode cX6_fly 12 = .ok (.aload_n 0, 1) := by decide +kernel
theorem dX6_fly_13 : decode cX6_fly 13 = .ok (.getfield 10, 3) := by decide +kernel
theorem dX6_fly_16 : decode cX6_fly 16 = .ok (.invokevirtual 59, 3) := by decide +kernel
theorem dX6_fly_19 : decode cX6_fly 19 = .ok (.invokevirtual 55, 3) := by decide +kernel
theorem dX6_fly_22 : decode cX6_fly 22 = .ok (.ireturn, 1) := by decide +kernel
set_option maxRecDepth 20000 in
theorem ggX6_book_X0_prepare : GoodIn wsX6_book wsX0_prepare := goodIn_r _ [8, 9, 10, 11, 12, 13, 14, 15, 16, 17, 18, 19, 20, 21, 22, 23, 24, 25, 26, 27, 28, 29, 30, 31, 32, 33, 34, 35, 36, 37, 38, 39, 40, 41, 42, 43, 44, 45, 46, 47, 48, 49, 50, 51, 52, 53, 54, 55, 56, 57, 58, 59, 150, 151, 152, 153, 154, 155, 156, 157, 158, 159, 160, 161, 162, 163, 164, 165, 166, 167, 168, 169, 170, 171, 172, 173, 174, 175, 176, 177, 178, 179] (by decide +kernel) (by decide +kernel)
set_option maxRecDepth 20000 in
theorem gX6_book_X0_prepare : GoodIn wsX6_book (wsV RX6 47 RX0 yX0_prepare wsX0_prepare) := goodIn_app (goodIn_of _ (by decide +kernel)) ggX6_book_X0_prepare
set_option maxRecDepth 20000 in
theorem ggX6_book_X1_takeBooking : GoodIn wsX6_book wsX1_takeBooking := goodIn_r _ [63, 17, 64, 65, 66, 67, 14, 68, 24, 69, 12, 13, 15, 16, 18, 19, 20, 21, 22, 23, 25, 26, 27, 28, 29, 30, 31, 32, 33, 34, 35, 36, 37, 38, 39, 40, 41, 42, 43, 44, 45, 46, 47, 48, 49, 50, 51, 52, 53, 54, 55, 56, 57, 58, 59, 70, 71, 72, 73, 74, 75, 76, 77, 78, 79, 80, 81, 82, 83, 84, 85, 86, 87, 88, 89, 90, 91, 92, 93, 94, 95, 96, 97, 98, 99, 100, 101, 102, 103, 104, 105, 106, 107, 108, 109, 110, 111, 112, 113, 114, 115, 116, 117, 118, 119, 120, 121, 122, 123, 124, 125, 126, 127, 128, 129, 130, 131, 132, 133, 152, 153, 154, 155, 156, 157, 158, 159, 160, 161, 173, 174, 175, 176, 177, 178, 179, 162, 163, 164, 165, 166, 167, 168, 169, 170, 171, 172] (by decide +kernel) (by decide +kernel)
set_option maxRecDepth 20000 in
theorem gX6_book_X1_takeBooking : GoodIn wsX6_book (wsV RX6 63 RX1 yX1_takeBooking wsX1_takeBooking) := goodIn_app (goodIn_of _ (by decide +kernel)) ggX6_book_X1_takeBooking
set_option maxRecDepth 20000 in
theorem ggX6_book_X6_recorded : GoodIn wsX6_book wsX6_recorded := goodIn_r _ [138, 1, 139, 140, 141, 7, 142, 9, 10, 143, 144, 145, 146, 147, 148, 149, 150, 151] (by decide +kernel) (by decide +kernel)
set_option maxRecDepth 20000 in
theorem gX6_book_X6_recorded : GoodIn wsX6_book (wsV RX6 55 RX6 yX6_recorded wsX6_recorded) := goodIn_app (goodIn_of _ (by decide +kernel)) ggX6_book_X6_recorded
theorem dX6_book_0 : decode cX6_book 0 = .ok (.aload_n 0, 1) := by decide +kernel
theorem dX6_book_1 : decode cX6_book 1 = .ok (.getfield 25, 3) := by decide +kernel
theorem dX6_book_4 : decode cX6_book 4 = .ok (.aload_n 0, 1) := by decide +kernel
theorem dX6_book_5 : decode cX6_book 5 = .ok (.getfield 10, 3) := by decide +kernel
theorem dX6_book_8 : decode cX6_book 8 = .ok (.invokevirtual 47, 3) := by decide +kernel
theorem dX6_book_11 : decode cX6_book 11 = .ok (.aload_n 0, 1) := by decide +kernel
theorem dX6_book_12 : decode cX6_book 12 = .ok (.aload_n 0, 1) := by decide +kernel
theorem dX6_book_13 : decode cX6_book 13 = .ok (.getfield 10, 3) := by decide +kernel
theorem dX6_book_16 : decode cX6_book 16 = .ok (.iload_n 1, 1) := by decide +kernel
theorem dX6_book_17 : decode cX6_book 17 = .ok (.iload_n 2, 1) := by decide +kernel
theorem dX6_book_18 : decode cX6_book 18 = .ok (.iload_n 3, 1) := by decide +kernel
theorem dX6_book_19 : decode cX6_book 19 = .ok (.aload_n 0, 1) := by decide +kernel
theorem dX6_book_20 : decode cX6_book 20 = .ok (.getfield 16, 3) := by decide +kernel
theorem dX6_book_23 : decode cX6_book 23 = .ok (.invokevirtual 63, 3) := by decide +kernel
theorem dX6_book_26 : decode cX6_book 26 = .ok (.invokevirtual 55, 3) := by decide +kernel
theorem dX6_book_29 : decode cX6_book 29 = .ok (.ireturn, 1) := by decide +kernel
set_option maxRecDepth 20000 in
theorem ggX6_cancel_X0_prepare : GoodIn wsX6_cancel wsX0_prepare := goodIn_r _ [7, 8, 9, 10, 11, 12, 13, 14, 15, 16, 17, 18, 19, 20, 21, 22, 23, 24, 25, 26, 27, 28, 29, 30, 31, 32, 33, 34, 35, 36, 37, 38, 39, 40, 41, 42, 43, 44, 45, 46, 47, 48, 49, 50, 51, 52, 53, 54, 55, 56, 57, 58, 88, 89, 90, 91, 92, 93, 94, 95, 96, 97, 98, 99, 100, 101, 102, 103, 104, 105, 106, 107, 108, 109, 110, 111, 112, 113, 114, 115, 116, 117] (by decide +kernel) (by decide +kernel)
set_option maxRecDepth 20000 in
theorem gX6_cancel_X0_prepare : GoodIn wsX6_cancel (wsV RX6 47 RX0 yX0_prepare wsX0_prepare) := goodIn_app (goodIn_of _ (by decide +kernel)) ggX6_cancel_X0_prepare
set_option maxRecDepth 20000 in
theorem ggX6_cancel_X1_callOff : GoodIn wsX6_cancel wsX1_callOff := goodIn_r _ [62, 16, 63, 64, 65, 66, 49, 67, 58, 68, 69, 70, 71, 55, 90, 91, 92, 93, 94, 95, 96, 97, 98, 99, 111, 112, 113, 114, 115, 116, 117] (by decide +kernel) (by decide +kernel)
set_option maxRecDepth 20000 in
theorem gX6_cancel_X1_callOff : GoodIn wsX6_cancel (wsV RX6 67 RX1 yX1_callOff wsX1_callOff) := goodIn_app (goodIn_of _ (by decide +kernel)) ggX6_cancel_X1_callOff
set_option maxRecDepth 20000 in
theorem ggX6_cancel_X6_recorded : GoodIn wsX6_cancel wsX6_recorded := goodIn_r _ [76, 1, 77, 78, 79, 6, 80, 8, 9, 81, 82, 83, 84, 85, 86, 87, 88, 89] (by decide +kernel) (by decide +kernel)
set_option maxRecDepth 20000 in
theorem gX6_cancel_X6_recorded : GoodIn wsX6_cancel (wsV RX6 55 RX6 yX6_recorded wsX6_recorded) := goodIn_app (goodIn_of _ (by decide +kernel)) ggX6_cancel_X6_recorded
theorem dX6_cancel_0 : decode cX6_cancel 0 = .ok (.aload_n 0, 1) := by decide +kernel
theorem dX6_cancel_1 : decode cX6_cancel 1 = .ok (.getfield 25, 3) := by decide +kernel
theorem dX6_cancel_4 : decode cX6_cancel 4 = .ok (.aload_n 0, 1) := by decide +kernel
theorem dX6_cancel_5 : decode cX6_cancel 5 = .ok (.getfield 10, 3) := by decide +kernel
theorem dX6_cancel_8 : decode cX6_cancel 8 = .ok (.invokevirtual 47, 3) := by decide +kernel
theorem dX6_cancel_11 : decode cX6_cancel 11 = .ok (.aload_n 0, 1) := by decide +kernel
theorem dX6_cancel_12 : decode cX6_cancel 12 = .ok (.aload_n 0, 1) := by decide +kernel
theorem dX6_cancel_13 : decode cX6_cancel 13 = .ok (.getfield 10, 3) := by decide +kernel
theorem dX6_cancel_16 : decode cX6_cancel 16 = .ok (.iload_n 1, 1) := by decide +kernel
theorem dX6_cancel_17 : decode cX6_cancel 17 = .ok (.invokevirtual 67, 3) := by decide +kernel
theorem dX6_cancel_20 : decode cX6_cancel 20 = .ok (.invokevirtual 55, 3) := by decide +kernel
theorem dX6_cancel_23 : decode cX6_cancel 23 = .ok (.ireturn, 1) := by decide +kernel
set_option maxRecDepth 20000 in
theorem ggX6_storm_X0_prepare : GoodIn wsX6_storm wsX0_prepare := goodIn_r _ [7, 8, 9, 10, 11, 12, 13, 14, 15, 16, 17, 18, 19, 20, 21, 22, 23, 24, 25, 26, 27, 28, 29, 30, 31, 32, 33, 34, 35, 36, 37, 38, 39, 40, 41, 42, 43, 44, 45, 46, 47, 48, 49, 50, 51, 52, 53, 54, 55, 56, 57, 58, 79, 80, 81, 82, 83, 84, 85, 86, 87, 88, 89, 90, 91, 92, 93, 94, 95, 96, 97, 98, 99, 100, 101, 102, 103, 104, 105, 106, 107, 108] (by decide +kernel) (by decide +kernel)
set_option maxRecDepth 20000 in
theorem gX6_storm_X0_prepare : GoodIn wsX6_storm (wsV RX6 47 RX0 yX0_prepare wsX0_prepare) := goodIn_app (goodIn_of _ (by decide +kernel)) ggX6_storm_X0_prepare
set_option maxRecDepth 20000 in
theorem ggX6_storm_X1_tellStorm : GoodIn wsX6_storm wsX1_tellStorm := goodIn_r _ [62, 23, 17, 81, 82, 83, 84, 85, 86, 87, 88, 89, 90] (by decide +kernel) (by decide +kernel)
set_option maxRecDepth 20000 in
theorem gX6_storm_X1_tellStorm : GoodIn wsX6_storm (wsV RX6 70 RX1 yX1_tellStorm wsX1_tellStorm) := goodIn_app (goodIn_of _ (by decide +kernel)) ggX6_storm_X1_tellStorm
set_option maxRecDepth 20000 in
theorem ggX6_storm_X6_recorded : GoodIn wsX6_storm wsX6_recorded := goodIn_r _ [67, 1, 68, 69, 70, 6, 71, 8, 9, 72, 73, 74, 75, 76, 77, 78, 79, 80] (by decide +kernel) (by decide +kernel)
set_option maxRecDepth 20000 in
theorem gX6_storm_X6_recorded : GoodIn wsX6_storm (wsV RX6 55 RX6 yX6_recorded wsX6_recorded) := goodIn_app (goodIn_of _ (by decide +kernel)) ggX6_storm_X6_recorded
theorem dX6_storm_0 : decode cX6_storm 0 = .ok (.aload_n 0, 1) := by decide +kernel
theorem dX6_storm_1 : decode cX6_storm 1 = .ok (.getfield 25, 3) := by decide +kernel
theorem dX6_storm_4 : decode cX6_storm 4 = .ok (.aload_n 0, 1) := by decide +kernel
theorem dX6_storm_5 : decode cX6_storm 5 = .ok (.getfield 10, 3) := by decide +kernel
theorem dX6_storm_8 : decode cX6_storm 8 = .ok (.invokevirtual 47, 3) := by decide +kernel
theorem dX6_storm_11 : decode cX6_storm 11 = .ok (.aload_n 0, 1) := by decide +kernel
theorem dX6_storm_12 : decode cX6_storm 12 = .ok (.aload_n 0, 1) := by decide +kernel
theorem dX6_storm_13 : decode cX6_storm 13 = .ok (.getfield 10, 3) := by decide +kernel
theorem dX6_storm_16 : decode cX6_storm 16 = .ok (.iload_n 1, 1) := by decide +kernel
theorem dX6_storm_17 : decode cX6_storm 17 = .ok (.iload_n 2, 1) := by decide +kernel
theorem dX6_storm_18 : decode cX6_storm 18 = .ok (.invokevirtual 70, 3) := by decide +kernel
theorem dX6_storm_21 : decode cX6_storm 21 = .ok (.invokevirtual 55, 3) := by decide +kernel
theorem dX6_storm_24 : decode cX6_storm 24 = .ok (.ireturn, 1) := by decide +kernel
set_option maxRecDepth 20000 in
theorem ggX6_clear_X0_prepare : GoodIn wsX6_clear wsX0_prepare := goodIn_r _ [7, 8, 9, 10, 11, 12, 13, 14, 15, 16, 17, 18, 19, 20, 21, 22, 23, 24, 25, 26, 27, 28, 29, 30, 31, 32, 33, 34, 35, 36, 37, 38, 39, 40, 41, 42, 43, 44, 45, 46, 47, 48, 49, 50, 51, 52, 53, 54, 55, 56, 57, 58, 79, 80, 81, 82, 83, 84, 85, 86, 87, 88, 89, 90, 91, 92, 93, 94, 95, 96, 97, 98, 99, 100, 101, 102, 103, 104, 105, 106, 107, 108] (by decide +kernel) (by decide +kernel)
set_option maxRecDepth 20000 in
theorem gX6_clear_X0_prepare : GoodIn wsX6_clear (wsV RX6 47 RX0 yX0_prepare wsX0_prepare) := goodIn_app (goodIn_of _ (by decide +kernel)) ggX6_clear_X0_prepare
set_option maxRecDepth 20000 in
theorem ggX6_clear_X1_tellCalm : GoodIn wsX6_clear wsX1_tellCalm := goodIn_r _ [62, 23, 17, 81, 82, 83, 84, 85, 86, 87, 88, 89, 90] (by decide +kernel) (by decide +kernel)
set_option maxRecDepth 20000 in
theorem gX6_clear_X1_tellCalm : GoodIn wsX6_clear (wsV RX6 74 RX1 yX1_tellCalm wsX1_tellCalm) := goodIn_app (goodIn_of _ (by decide +kernel)) ggX6_clear_X1_tellCalm
set_option maxRecDepth 20000 in
theorem ggX6_clear_X6_recorded : GoodIn wsX6_clear wsX6_recorded := goodIn_r _ [67, 1, 68, 69, 70, 6, 71, 8, 9, 72, 73, 74, 75, 76, 77, 78, 79, 80] (by decide +kernel) (by decide +kernel)
set_option maxRecDepth 20000 in
theorem gX6_clear_X6_recorded : GoodIn wsX6_clear (wsV RX6 55 RX6 yX6_recorded wsX6_recorded) := goodIn_app (goodIn_of _ (by decide +kernel)) ggX6_clear_X6_recorded
theorem dX6_clear_0 : decode cX6_clear 0 = .ok (.aload_n 0, 1) := by decide +kernel
theorem dX6_clear_1 : decode cX6_clear 1 = .ok (.getfield 25, 3) := by decide +kernel
theorem dX6_clear_4 : decode cX6_clear 4 = .ok (.aload_n 0, 1) := by decide +kernel
theorem dX6_clear_5 : decode cX6_clear 5 = .ok (.getfield 10, 3) := by decide +kernel
theorem dX6_clear_8 : decode cX6_clear 8 = .ok (.invokevirtual 47, 3) := by decide +kernel
theorem dX6_clear_11 : decode cX6_clear 11 = .ok (.aload_n 0, 1) := by decide +kernel
theorem dX6_clear_12 : decode cX6_clear 12 = .ok (.aload_n 0, 1) := by decide +kernel
theorem dX6_clear_13 : decode cX6_clear 13 = .ok (.getfield 10, 3) := by decide +kernel
theorem dX6_clear_16 : decode cX6_clear 16 = .ok (.iload_n 1, 1) := by decide +kernel
theorem dX6_clear_17 : decode cX6_clear 17 = .ok (.invokevirtual 74, 3) := by decide +kernel
theorem dX6_clear_20 : decode cX6_clear 20 = .ok (.invokevirtual 55, 3) := by decide +kernel
theorem dX6_clear_23 : decode cX6_clear 23 = .ok (.ireturn, 1) := by decide +kernel
set_option maxRecDepth 20000 in
theorem ggX6_sleep_X0_prepare : GoodIn wsX6_sleep wsX0_prepare := goodIn_r _ [7, 8, 9, 10, 11, 12, 13, 14, 15, 16, 17, 18, 19, 20, 21, 22, 23, 24, 25, 26, 27, 28, 29, 30, 31, 32, 33, 34, 35, 36, 37, 38, 39, 40, 41, 42, 43, 44, 45, 46, 47, 48, 49, 50, 51, 52, 53, 54, 55, 56, 57, 58, 131, 132, 133, 134, 135, 136, 137, 138, 139, 140, 141, 142, 143, 144, 145, 146, 147, 148, 149, 150, 151, 152, 153, 154, 155, 156, 157, 158, 159, 160] (by decide +kernel) (by decide +kernel)
set_option maxRecDepth 20000 in
theorem gX6_sleep_X0_prepare : GoodIn wsX6_sleep (wsV RX6 47 RX0 yX0_prepare wsX0_prepare) := goodIn_app (goodIn_of _ (by decide +kernel)) ggX6_sleep_X0_prepare
