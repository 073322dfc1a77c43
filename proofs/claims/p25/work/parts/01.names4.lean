theorem dX4_take_52 : decode cX4_take 52 = .ok (.iload 5, 2) := by decide +kernel
theorem dX4_take_54 : decode cX4_take 54 = .ok (.istore 6, 2) := by decide +kernel
theorem dX4_take_56 : decode cX4_take 56 = .ok (.aload_n 0, 1) := by decide +kernel
theorem dX4_take_57 : decode cX4_take 57 = .ok (.getfield 13, 3) := by decide +kernel
theorem dX4_take_60 : decode cX4_take 60 = .ok (.iload 4, 2) := by decide +kernel
theorem dX4_take_62 : decode cX4_take 62 = .ok (.dup2, 1) := by decide +kernel
theorem dX4_take_63 : decode cX4_take 63 = .ok (.iaload, 1) := by decide +kernel
theorem dX4_take_64 : decode cX4_take 64 = .ok (.iload 6, 2) := by decide +kernel
theorem dX4_take_66 : decode cX4_take 66 = .ok (.isub, 1) := by decide +kernel
theorem dX4_take_67 : decode cX4_take 67 = .ok (.iastore, 1) := by decide +kernel
theorem dX4_take_68 : decode cX4_take 68 = .ok (.iload_n 3, 1) := by decide +kernel
theorem dX4_take_69 : decode cX4_take 69 = .ok (.iload 6, 2) := by decide +kernel
theorem dX4_take_71 : decode cX4_take 71 = .ok (.iadd, 1) := by decide +kernel
theorem dX4_take_72 : decode cX4_take 72 = .ok (.istore_n 3, 1) := by decide +kernel
theorem dX4_take_73 : decode cX4_take 73 = .ok (.iinc 4 1, 3) := by decide +kernel
theorem dX4_take_76 : decode cX4_take 76 = .ok (.goto (-71), 3) := by decide +kernel
theorem dX4_take_79 : decode cX4_take 79 = .ok (.aload_n 0, 1) := by decide +kernel
theorem dX4_take_80 : decode cX4_take 80 = .ok (.getfield 31, 3) := by decide +kernel
theorem dX4_take_83 : decode cX4_take 83 = .ok (.iload_n 1, 1) := by decide +kernel
theorem dX4_take_84 : decode cX4_take 84 = .ok (.dup2, 1) := by decide +kernel
theorem dX4_take_85 : decode cX4_take 85 = .ok (.iaload, 1) := by decide +kernel
theorem dX4_take_86 : decode cX4_take 86 = .ok (.iload_n 3, 1) := by decide +kernel
theorem dX4_take_87 : decode cX4_take 87 = .ok (.iadd, 1) := by decide +kernel
theorem dX4_take_88 : decode cX4_take 88 = .ok (.iastore, 1) := by decide +kernel
theorem dX4_take_89 : decode cX4_take 89 = .ok (.iload_n 3, 1) := by decide +kernel
theorem dX4_take_90 : decode cX4_take 90 = .ok (.ireturn, 1) := by decide +kernel
theorem dX4_spoil_0 : decode cX4_spoil 0 = .ok (.iconst 0, 1) := by decide +kernel
theorem dX4_spoil_1 : decode cX4_spoil 1 = .ok (.istore_n 2, 1) := by decide +kernel
theorem dX4_spoil_2 : decode cX4_spoil 2 = .ok (.iload_n 2, 1) := by decide +kernel
theorem dX4_spoil_3 : decode cX4_spoil 3 = .ok (.iconst 3, 1) := by decide +kernel
theorem dX4_spoil_4 : decode cX4_spoil 4 = .ok (.if_icmp .ge 67, 3) := by decide +kernel
theorem dX4_spoil_7 : decode cX4_spoil 7 = .ok (.iconst 0, 1) := by decide +kernel
theorem dX4_spoil_8 : decode cX4_spoil 8 = .ok (.istore_n 3, 1) := by decide +kernel
theorem dX4_spoil_9 : decode cX4_spoil 9 = .ok (.iload_n 3, 1) := by decide +kernel
theorem dX4_spoil_10 : decode cX4_spoil 10 = .ok (.aload_n 0, 1) := by decide +kernel
theorem dX4_spoil_11 : decode cX4_spoil 11 = .ok (.getfield 43, 3) := by decide +kernel
theorem dX4_spoil_14 : decode cX4_spoil 14 = .ok (.if_icmp .ge 51, 3) := by decide +kernel
theorem dX4_spoil_17 : decode cX4_spoil 17 = .ok (.aload_n 0, 1) := by decide +kernel
theorem dX4_spoil_18 : decode cX4_spoil 18 = .ok (.getfield 9, 3) := by decide +kernel
theorem dX4_spoil_21 : decode cX4_spoil 21 = .ok (.iload_n 3, 1) := by decide +kernel
theorem dX4_spoil_22 : decode cX4_spoil 22 = .ok (.iaload, 1) := by decide +kernel
theorem dX4_spoil_23 : decode cX4_spoil 23 = .ok (.iload_n 2, 1) := by decide +kernel
theorem dX4_spoil_24 : decode cX4_spoil 24 = .ok (.if_icmp .ne 35, 3) := by decide +kernel
theorem dX4_spoil_27 : decode cX4_spoil 27 = .ok (.aload_n 0, 1) := by decide +kernel
theorem dX4_spoil_28 : decode cX4_spoil 28 = .ok (.getfield 16, 3) := by decide +kernel
theorem dX4_spoil_31 : decode cX4_spoil 31 = .ok (.iload_n 3, 1) := by decide +kernel
theorem dX4_spoil_32 : decode cX4_spoil 32 = .ok (.iaload, 1) := by decide +kernel
theorem dX4_spoil_33 : decode cX4_spoil 33 = .ok (.iload_n 1, 1) := by decide +kernel
theorem dX4_spoil_34 : decode cX4_spoil 34 = .ok (.if_icmp .ne 25, 3) := by decide +kernel
theorem dX4_spoil_37 : decode cX4_spoil 37 = .ok (.aload_n 0, 1) := by decide +kernel
theorem dX4_spoil_38 : decode cX4_spoil 38 = .ok (.getfield 34, 3) := by decide +kernel
theorem dX4_spoil_41 : decode cX4_spoil 41 = .ok (.iload_n 2, 1) := by decide +kernel
theorem dX4_spoil_42 : decode cX4_spoil 42 = .ok (.dup2, 1) := by decide +kernel
theorem dX4_spoil_43 : decode cX4_spoil 43 = .ok (.iaload, 1) := by decide +kernel
theorem dX4_spoil_44 : decode cX4_spoil 44 = .ok (.aload_n 0, 1) := by decide +kernel
theorem dX4_spoil_45 : decode cX4_spoil 45 = .ok (.getfield 13, 3) := by decide +kernel
theorem dX4_spoil_48 : decode cX4_spoil 48 = .ok (.iload_n 3, 1) := by decide +kernel
theorem dX4_spoil_49 : decode cX4_spoil 49 = .ok (.iaload, 1) := by decide +kernel
theorem dX4_spoil_50 : decode cX4_spoil 50 = .ok (.iadd, 1) := by decide +kernel
theorem dX4_spoil_51 : decode cX4_spoil 51 = .ok (.iastore, 1) := by decide +kernel
theorem dX4_spoil_52 : decode cX4_spoil 52 = .ok (.aload_n 0, 1) := by decide +kernel
theorem dX4_spoil_53 : decode cX4_spoil 53 = .ok (.getfield 13, 3) := by decide +kernel
theorem dX4_spoil_56 : decode cX4_spoil 56 = .ok (.iload_n 3, 1) := by decide +kernel
theorem dX4_spoil_57 : decode cX4_spoil 57 = .ok (.iconst 0, 1) := by decide +kernel
theorem dX4_spoil_58 : decode cX4_spoil 58 = .ok (.iastore, 1) := by decide +kernel
theorem dX4_spoil_59 : decode cX4_spoil 59 = .ok (.iinc 3 1, 3) := by decide +kernel
theorem dX4_spoil_62 : decode cX4_spoil 62 = .ok (.goto (-53), 3) := by decide +kernel
theorem dX4_spoil_65 : decode cX4_spoil 65 = .ok (.iinc 2 1, 3) := by decide +kernel
theorem dX4_spoil_68 : decode cX4_spoil 68 = .ok (.goto (-66), 3) := by decide +kernel
theorem dX4_spoil_71 : decode cX4_spoil 71 = .ok (.return_, 1) := by decide +kernel
theorem dX4_dropEmptyLots_0 : decode cX4_dropEmptyLots 0 = .ok (.iconst 0, 1) := by decide +kernel
theorem dX4_dropEmptyLots_1 : decode cX4_dropEmptyLots 1 = .ok (.istore_n 1, 1) := by decide +kernel
theorem dX4_dropEmptyLots_2 : decode cX4_dropEmptyLots 2 = .ok (.iconst 0, 1) := by decide +kernel
theorem dX4_dropEmptyLots_3 : decode cX4_dropEmptyLots 3 = .ok (.istore_n 2, 1) := by decide +kernel
theorem dX4_dropEmptyLots_4 : decode cX4_dropEmptyLots 4 = .ok (.iload_n 2, 1) := by decide +kernel
theorem dX4_dropEmptyLots_5 : decode cX4_dropEmptyLots 5 = .ok (.aload_n 0, 1) := by decide +kernel
theorem dX4_dropEmptyLots_6 : decode cX4_dropEmptyLots 6 = .ok (.getfield 43, 3) := by decide +kernel
theorem dX4_dropEmptyLots_9 : decode cX4_dropEmptyLots 9 = .ok (.if_icmp .ge 57, 3) := by decide +kernel
theorem dX4_dropEmptyLots_12 : decode cX4_dropEmptyLots 12 = .ok (.aload_n 0, 1) := by decide +kernel
theorem dX4_dropEmptyLots_13 : decode cX4_dropEmptyLots 13 = .ok (.getfield 13, 3) := by decide +kernel
theorem dX4_dropEmptyLots_16 : decode cX4_dropEmptyLots 16 = .ok (.iload_n 2, 1) := by decide +kernel
theorem dX4_dropEmptyLots_17 : decode cX4_dropEmptyLots 17 = .ok (.iaload, 1) := by decide +kernel
theorem dX4_dropEmptyLots_18 : decode cX4_dropEmptyLots 18 = .ok (.ifCond .le 42, 3) := by decide +kernel
theorem dX4_dropEmptyLots_21 : decode cX4_dropEmptyLots 21 = .ok (.aload_n 0, 1) := by decide +kernel
theorem dX4_dropEmptyLots_22 : decode cX4_dropEmptyLots 22 = .ok (.getfield 9, 3) := by decide +kernel
theorem dX4_dropEmptyLots_25 : decode cX4_dropEmptyLots 25 = .ok (.iload_n 1, 1) := by decide +kernel
theorem dX4_dropEmptyLots_26 : decode cX4_dropEmptyLots 26 = .ok (.aload_n 0, 1) := by decide +kernel
theorem dX4_dropEmptyLots_27 : decode cX4_dropEmptyLots 27 = .ok (.getfield 9, 3) := by decide +kernel
theorem dX4_dropEmptyLots_30 : decode cX4_dropEmptyLots 30 = .ok (.iload_n 2, 1) := by decide +kernel
theorem dX4_dropEmptyLots_31 : decode cX4_dropEmptyLots 31 = .ok (.iaload, 1) := by decide +kernel
theorem dX4_dropEmptyLots_32 : decode cX4_dropEmptyLots 32 = .ok (.iastore, 1) := by decide +kernel
theorem dX4_dropEmptyLots_33 : decode cX4_dropEmptyLots 33 = .ok (.aload_n 0, 1) := by decide +kernel
theorem dX4_dropEmptyLots_34 : decode cX4_dropEmptyLots 34 = .ok (.getfield 13, 3) := by decide +kernel
theorem dX4_dropEmptyLots_37 : decode cX4_dropEmptyLots 37 = .ok (.iload_n 1, 1) := by decide +kernel
theorem dX4_dropEmptyLots_38 : decode cX4_dropEmptyLots 38 = .ok (.aload_n 0, 1) := by decide +kernel
theorem dX4_dropEmptyLots_39 : decode cX4_dropEmptyLots 39 = .ok (.getfield 13, 3) := by decide +kernel
theorem dX4_dropEmptyLots_42 : decode cX4_dropEmptyLots 42 = .ok (.iload_n 2, 1) := by decide +kernel
theorem dX4_dropEmptyLots_43 : decode cX4_dropEmptyLots 43 = .ok (.iaload, 1) := by decide +kernel
theorem dX4_dropEmptyLots_44 : decode cX4_dropEmptyLots 44 = .ok (.iastore, 1) := by decide +kernel
theorem dX4_dropEmptyLots_45 : decode cX4_dropEmptyLots 45 = .ok (.aload_n 0, 1) := by decide +kernel
theorem dX4_dropEmptyLots_46 : decode cX4_dropEmptyLots 46 = .ok (.getfield 16, 3) := by decide +kernel
theorem dX4_dropEmptyLots_49 : decode cX4_dropEmptyLots 49 = .ok (.iload_n 1, 1) := by decide +kernel
theorem dX4_dropEmptyLots_50 : decode cX4_dropEmptyLots 50 = .ok (.aload_n 0, 1) := by decide +kernel
theorem dX4_dropEmptyLots_51 : decode cX4_dropEmptyLots 51 = .ok (.getfield 16, 3) := by decide +kernel
theorem dX4_dropEmptyLots_54 : decode cX4_dropEmptyLots 54 = .ok (.iload_n 2, 1) := by decide +kernel
theorem dX4_dropEmptyLots_55 : decode cX4_dropEmptyLots 55 = .ok (.iaload, 1) := by decide +kernel
theorem dX4_dropEmptyLots_56 : decode cX4_dropEmptyLots 56 = .ok (.iastore, 1) := by decide +kernel
theorem dX4_dropEmptyLots_57 : decode cX4_dropEmptyLots 57 = .ok (.iinc 1 1, 3) := by decide +kernel
theorem dX4_dropEmptyLots_60 : decode cX4_dropEmptyLots 60 = .ok (.iinc 2 1, 3) := by decide +kernel
theorem dX4_dropEmptyLots_63 : decode cX4_dropEmptyLots 63 = .ok (.goto (-59), 3) := by decide +kernel
theorem dX4_dropEmptyLots_66 : decode cX4_dropEmptyLots 66 = .ok (.aload_n 0, 1) := by decide +kernel
theorem dX4_dropEmptyLots_67 : decode cX4_dropEmptyLots 67 = .ok (.iload_n 1, 1) := by decide +kernel
theorem dX4_dropEmptyLots_68 : decode cX4_dropEmptyLots 68 = .ok (.putfield 43, 3) := by decide +kernel
theorem dX4_dropEmptyLots_71 : decode cX4_dropEmptyLots 71 = .ok (.return_, 1) := by decide +kernel
theorem dX4_find_0 : decode cX4_find 0 = .ok (.iconst 0, 1) := by decide +kernel
theorem dX4_find_1 : decode cX4_find 1 = .ok (.istore_n 3, 1) := by decide +kernel
theorem dX4_find_2 : decode cX4_find 2 = .ok (.iconst 0, 1) := by decide +kernel
theorem dX4_find_3 : decode cX4_find 3 = .ok (.istore 4, 2) := by decide +kernel
theorem dX4_find_5 : decode cX4_find 5 = .ok (.iload 4, 2) := by decide +kernel
theorem dX4_find_7 : decode cX4_find 7 = .ok (.aload_n 0, 1) := by decide +kernel
theorem dX4_find_8 : decode cX4_find 8 = .ok (.getfield 43, 3) := by decide +kernel
theorem dX4_find_11 : decode cX4_find 11 = .ok (.if_icmp .ge 31, 3) := by decide +kernel
theorem dX4_find_14 : decode cX4_find 14 = .ok (.aload_n 0, 1) := by decide +kernel
theorem dX4_find_15 : decode cX4_find 15 = .ok (.getfield 9, 3) := by decide +kernel
theorem dX4_find_18 : decode cX4_find 18 = .ok (.iload 4, 2) := by decide +kernel
theorem dX4_find_20 : decode cX4_find 20 = .ok (.iaload, 1) := by decide +kernel
theorem dX4_find_21 : decode cX4_find 21 = .ok (.iload_n 1, 1) := by decide +kernel
theorem dX4_find_22 : decode cX4_find 22 = .ok (.if_icmp .ne 14, 3) := by decide +kernel
theorem dX4_find_25 : decode cX4_find 25 = .ok (.iload_n 3, 1) := by decide +kernel
theorem dX4_find_26 : decode cX4_find 26 = .ok (.iload_n 2, 1) := by decide +kernel
theorem dX4_find_27 : decode cX4_find 27 = .ok (.if_icmp .ne 6, 3) := by decide +kernel
theorem dX4_find_30 : decode cX4_find 30 = .ok (.iload 4, 2) := by decide +kernel
theorem dX4_find_32 : decode cX4_find 32 = .ok (.ireturn, 1) := by decide +kernel
theorem dX4_find_33 : decode cX4_find 33 = .ok (.iinc 3 1, 3) := by decide +kernel
theorem dX4_find_36 : decode cX4_find 36 = .ok (.iinc 4 1, 3) := by decide +kernel
theorem dX4_find_39 : decode cX4_find 39 = .ok (.goto (-34), 3) := by decide +kernel
theorem dX4_find_42 : decode cX4_find 42 = .ok (.iconst (-1), 1) := by decide +kernel
theorem dX4_find_43 : decode cX4_find 43 = .ok (.ireturn, 1) := by decide +kernel
theorem dX4_stock_0 : decode cX4_stock 0 = .ok (.iconst 0, 1) := by decide +kernel
theorem dX4_stock_1 : decode cX4_stock 1 = .ok (.istore_n 2, 1) := by decide +kernel
theorem dX4_stock_2 : decode cX4_stock 2 = .ok (.iconst 0, 1) := by decide +kernel
theorem dX4_stock_3 : decode cX4_stock 3 = .ok (.istore_n 3, 1) := by decide +kernel
theorem dX4_stock_4 : decode cX4_stock 4 = .ok (.iload_n 3, 1) := by decide +kernel
theorem dX4_stock_5 : decode cX4_stock 5 = .ok (.aload_n 0, 1) := by decide +kernel
theorem dX4_stock_6 : decode cX4_stock 6 = .ok (.getfield 43, 3) := by decide +kernel
theorem dX4_stock_9 : decode cX4_stock 9 = .ok (.if_icmp .ge 28, 3) := by decide +kernel
theorem dX4_stock_12 : decode cX4_stock 12 = .ok (.aload_n 0, 1) := by decide +kernel
theorem dX4_stock_13 : decode cX4_stock 13 = .ok (.getfield 9, 3) := by decide +kernel
theorem dX4_stock_16 : decode cX4_stock 16 = .ok (.iload_n 3, 1) := by decide +kernel
theorem dX4_stock_17 : decode cX4_stock 17 = .ok (.iaload, 1) := by decide +kernel
theorem dX4_stock_18 : decode cX4_stock 18 = .ok (.iload_n 1, 1) := by decide +kernel
theorem dX4_stock_19 : decode cX4_stock 19 = .ok (.if_icmp .ne 12, 3) := by decide +kernel
theorem dX4_stock_22 : decode cX4_stock 22 = .ok (.iload_n 2, 1) := by decide +kernel
theorem dX4_stock_23 : decode cX4_stock 23 = .ok (.aload_n 0, 1) := by decide +kernel
theorem dX4_stock_24 : decode cX4_stock 24 = .ok (.getfield 13, 3) := by decide +kernel
theorem dX4_stock_27 : decode cX4_stock 27 = .ok (.iload_n 3, 1) := by decide +kernel
theorem dX4_stock_28 : decode cX4_stock 28 = .ok (.iaload, 1) := by decide +kernel
theorem dX4_stock_29 : decode cX4_stock 29 = .ok (.iadd, 1) := by decide +kernel
theorem dX4_stock_30 : decode cX4_stock 30 = .ok (.istore_n 2, 1) := by decide +kernel
theorem dX4_stock_31 : decode cX4_stock 31 = .ok (.iinc 3 1, 3) := by decide +kernel
theorem dX4_stock_34 : decode cX4_stock 34 = .ok (.goto (-30), 3) := by decide +kernel
theorem dX4_stock_37 : decode cX4_stock 37 = .ok (.iload_n 2, 1) := by decide +kernel
theorem dX4_stock_38 : decode cX4_stock 38 = .ok (.ireturn, 1) := by decide +kernel
theorem dX4_lotsOfKind_0 : decode cX4_lotsOfKind 0 = .ok (.iconst 0, 1) := by decide +kernel
theorem dX4_lotsOfKind_1 : decode cX4_lotsOfKind 1 = .ok (.istore_n 2, 1) := by decide +kernel
theorem dX4_lotsOfKind_2 : decode cX4_lotsOfKind 2 = .ok (.iconst 0, 1) := by decide +kernel
theorem dX4_lotsOfKind_3 : decode cX4_lotsOfKind 3 = .ok (.istore_n 3, 1) := by decide +kernel
theorem dX4_lotsOfKind_4 : decode cX4_lotsOfKind 4 = .ok (.iload_n 3, 1) := by decide +kernel
theorem dX4_lotsOfKind_5 : decode cX4_lotsOfKind 5 = .ok (.aload_n 0, 1) := by decide +kernel
theorem dX4_lotsOfKind_6 : decode cX4_lotsOfKind 6 = .ok (.getfield 43, 3) := by decide +kernel
theorem dX4_lotsOfKind_9 : decode cX4_lotsOfKind 9 = .ok (.if_icmp .ge 22, 3) := by decide +kernel
theorem dX4_lotsOfKind_12 : decode cX4_lotsOfKind 12 = .ok (.aload_n 0, 1) := by decide +kernel
theorem dX4_lotsOfKind_13 : decode cX4_lotsOfKind 13 = .ok (.getfield 9, 3) := by decide +kernel
theorem dX4_lotsOfKind_16 : decode cX4_lotsOfKind 16 = .ok (.iload_n 3, 1) := by decide +kernel
theorem dX4_lotsOfKind_17 : decode cX4_lotsOfKind 17 = .ok (.iaload, 1) := by decide +kernel
theorem dX4_lotsOfKind_18 : decode cX4_lotsOfKind 18 = .ok (.iload_n 1, 1) := by decide +kernel
theorem dX4_lotsOfKind_19 : decode cX4_lotsOfKind 19 = .ok (.if_icmp .ne 6, 3) := by decide +kernel
theorem dX4_lotsOfKind_22 : decode cX4_lotsOfKind 22 = .ok (.iinc 2 1, 3) := by decide +kernel
theorem dX4_lotsOfKind_25 : decode cX4_lotsOfKind 25 = .ok (.iinc 3 1, 3) := by decide +kernel
theorem dX4_lotsOfKind_28 : decode cX4_lotsOfKind 28 = .ok (.goto (-24), 3) := by decide +kernel
theorem dX4_lotsOfKind_31 : decode cX4_lotsOfKind 31 = .ok (.iload_n 2, 1) := by decide +kernel
theorem dX4_lotsOfKind_32 : decode cX4_lotsOfKind 32 = .ok (.ireturn, 1) := by decide +kernel
theorem dX4_amountOnPallet_0 : decode cX4_amountOnPallet 0 = .ok (.iconst 0, 1) := by decide +kernel
theorem dX4_amountOnPallet_1 : decode cX4_amountOnPallet 1 = .ok (.istore_n 2, 1) := by decide +kernel
theorem dX4_amountOnPallet_2 : decode cX4_amountOnPallet 2 = .ok (.iconst 0, 1) := by decide +kernel
theorem dX4_amountOnPallet_3 : decode cX4_amountOnPallet 3 = .ok (.istore_n 3, 1) := by decide +kernel
theorem dX4_amountOnPallet_4 : decode cX4_amountOnPallet 4 = .ok (.iload_n 3, 1) := by decide +kernel
theorem dX4_amountOnPallet_5 : decode cX4_amountOnPallet 5 = .ok (.aload_n 0, 1) := by decide +kernel
theorem dX4_amountOnPallet_6 : decode cX4_amountOnPallet 6 = .ok (.getfield 47, 3) := by decide +kernel
theorem dX4_amountOnPallet_9 : decode cX4_amountOnPallet 9 = .ok (.if_icmp .ge 28, 3) := by decide +kernel
theorem dX4_amountOnPallet_12 : decode cX4_amountOnPallet 12 = .ok (.aload_n 0, 1) := by decide +kernel
theorem dX4_amountOnPallet_13 : decode cX4_amountOnPallet 13 = .ok (.getfield 19, 3) := by decide +kernel
theorem dX4_amountOnPallet_16 : decode cX4_amountOnPallet 16 = .ok (.iload_n 3, 1) := by decide +kernel
theorem dX4_amountOnPallet_17 : decode cX4_amountOnPallet 17 = .ok (.iaload, 1) := by decide +kernel
theorem dX4_amountOnPallet_18 : decode cX4_amountOnPallet 18 = .ok (.iload_n 1, 1) := by decide +kernel
theorem dX4_amountOnPallet_19 : decode cX4_amountOnPallet 19 = .ok (.if_icmp .ne 12, 3) := by decide +kernel
theorem dX4_amountOnPallet_22 : decode cX4_amountOnPallet 22 = .ok (.iload_n 2, 1) := by decide +kernel
theorem dX4_amountOnPallet_23 : decode cX4_amountOnPallet 23 = .ok (.aload_n 0, 1) := by decide +kernel
theorem dX4_amountOnPallet_24 : decode cX4_amountOnPallet 24 = .ok (.getfield 22, 3) := by decide +kernel
theorem dX4_amountOnPallet_27 : decode cX4_amountOnPallet 27 = .ok (.iload_n 3, 1) := by decide +kernel
theorem dX4_amountOnPallet_28 : decode cX4_amountOnPallet 28 = .ok (.iaload, 1) := by decide +kernel
theorem dX4_amountOnPallet_29 : decode cX4_amountOnPallet 29 = .ok (.iadd, 1) := by decide +kernel
theorem dX4_amountOnPallet_30 : decode cX4_amountOnPallet 30 = .ok (.istore_n 2, 1) := by decide +kernel
theorem dX4_amountOnPallet_31 : decode cX4_amountOnPallet 31 = .ok (.iinc 3 1, 3) := by decide +kernel
theorem dX4_amountOnPallet_34 : decode cX4_amountOnPallet 34 = .ok (.goto (-30), 3) := by decide +kernel
theorem dX4_amountOnPallet_37 : decode cX4_amountOnPallet 37 = .ok (.iload_n 2, 1) := by decide +kernel
theorem dX4_amountOnPallet_38 : decode cX4_amountOnPallet 38 = .ok (.ireturn, 1) := by decide +kernel
theorem dX5_init_0 : decode cX5_init 0 = .ok (.aload_n 0, 1) := by decide +kernel
theorem dX5_init_1 : decode cX5_init 1 = .ok (.invokespecial 1, 3) := by decide +kernel
theorem dX5_init_4 : decode cX5_init 4 = .ok (.aload_n 0, 1) := by decide +kernel
theorem dX5_init_5 : decode cX5_init 5 = .ok (.bipush 60, 2) := by decide +kernel
theorem dX5_init_7 : decode cX5_init 7 = .ok (.newarray .char, 2) := by decide +kernel
theorem dX5_init_9 : decode cX5_init 9 = .ok (.putfield 9, 3) := by decide +kernel
theorem dX5_init_12 : decode cX5_init 12 = .ok (.aload_n 0, 1) := by decide +kernel
theorem dX5_init_13 : decode cX5_init 13 = .ok (.iconst 3, 1) := by decide +kernel
theorem dX5_init_14 : decode cX5_init 14 = .ok (.newarray .int, 2) := by decide +kernel
theorem dX5_init_16 : decode cX5_init 16 = .ok (.putfield 13, 3) := by decide +kernel
theorem dX5_init_19 : decode cX5_init 19 = .ok (.return_, 1) := by decide +kernel
theorem dX5_append_0 : decode cX5_append 0 = .ok (.aload_n 0, 1) := by decide +kernel
theorem dX5_append_1 : decode cX5_append 1 = .ok (.getfield 17, 3) := by decide +kernel
theorem dX5_append_4 : decode cX5_append 4 = .ok (.bipush 60, 2) := by decide +kernel
theorem dX5_append_6 : decode cX5_append 6 = .ok (.if_icmp .ge 24, 3) := by decide +kernel
theorem dX5_append_9 : decode cX5_append 9 = .ok (.aload_n 0, 1) := by decide +kernel
theorem dX5_append_10 : decode cX5_append 10 = .ok (.getfield 9, 3) := by decide +kernel
theorem dX5_append_13 : decode cX5_append 13 = .ok (.aload_n 0, 1) := by decide +kernel
theorem dX5_append_14 : decode cX5_append 14 = .ok (.getfield 17, 3) := by decide +kernel
theorem dX5_append_17 : decode cX5_append 17 = .ok (.iload_n 1, 1) := by decide +kernel
theorem dX5_append_18 : decode cX5_append 18 = .ok (.i2c, 1) := by decide +kernel
theorem dX5_append_19 : decode cX5_append 19 = .ok (.castore, 1) := by decide +kernel
theorem dX5_append_20 : decode cX5_append 20 = .ok (.aload_n 0, 1) := by decide +kernel
theorem dX5_append_21 : decode cX5_append 21 = .ok (.dup, 1) := by decide +kernel
theorem dX5_append_22 : decode cX5_append 22 = .ok (.getfield 17, 3) := by decide +kernel
theorem dX5_append_25 : decode cX5_append 25 = .ok (.iconst 1, 1) := by decide +kernel
theorem dX5_append_26 : decode cX5_append 26 = .ok (.iadd, 1) := by decide +kernel
theorem dX5_append_27 : decode cX5_append 27 = .ok (.putfield 17, 3) := by decide +kernel
theorem dX5_append_30 : decode cX5_append 30 = .ok (.return_, 1) := by decide +kernel
set_option maxRecDepth 20000 in
theorem ggX5_readCommand_X5_at : GoodIn wsX5_readCommand wsX5_at := goodIn_r _ [8, 9, 10, 27, 28, 29, 30, 31] (by decide +kernel) (by decide +kernel)
set_option maxRecDepth 20000 in
theorem gX5_readCommand_X5_at : GoodIn wsX5_readCommand (wsV RX5 21 RX5 yX5_at wsX5_at) := goodIn_app (goodIn_of _ (by decide +kernel)) ggX5_readCommand_X5_at
set_option maxRecDepth 20000 in
theorem ggX5_readCommand_X5_numbersOf : GoodIn wsX5_readCommand wsX5_numbersOf := goodIn_r _ [14] (by decide +kernel) (by decide +kernel)
set_option maxRecDepth 20000 in
theorem gX5_readCommand_X5_numbersOf : GoodIn wsX5_readCommand (wsV RX5 32 RX5 yX5_numbersOf wsX5_numbersOf) := goodIn_app (goodIn_of _ (by decide +kernel)) ggX5_readCommand_X5_numbersOf
set_option maxRecDepth 20000 in
theorem ggX5_readCommand_X5_passes : GoodIn wsX5_readCommand wsX5_passes := goodIn_r _ [18, 2, 4, 5, 6, 7, 8, 9, 10, 27, 28, 29, 30, 31] (by decide +kernel) (by decide +kernel)
set_option maxRecDepth 20000 in
theorem gX5_readCommand_X5_passes : GoodIn wsX5_readCommand (wsV RX5 36 RX5 yX5_passes wsX5_passes) := goodIn_app (goodIn_of _ (by decide +kernel)) ggX5_readCommand_X5_passes
set_option maxRecDepth 20000 in
theorem ggX5_readCommand_X5_readNumber : GoodIn wsX5_readCommand wsX5_readNumber := goodIn_r _ [22, 2, 23, 24, 25, 26, 4, 5, 6, 7, 8, 9, 10, 27, 28, 29, 30, 31] (by decide +kernel) (by decide +kernel)
set_option maxRecDepth 20000 in
theorem gX5_readCommand_X5_readNumber : GoodIn wsX5_readCommand (wsV RX5 40 RX5 yX5_readNumber wsX5_readNumber) := goodIn_app (goodIn_of _ (by decide +kernel)) ggX5_readCommand_X5_readNumber
theorem dX5_readCommand_0 : decode cX5_readCommand 0 = .ok (.aload_n 0, 1) := by decide +kernel
theorem dX5_readCommand_1 : decode cX5_readCommand 1 = .ok (.aload_n 0, 1) := by decide +kernel
theorem dX5_readCommand_2 : decode cX5_readCommand 2 = .ok (.iload_n 1, 1) := by decide +kernel
theorem dX5_readCommand_3 : decode cX5_readCommand 3 = .ok (.invokevirtual 21, 3) := by decide +kernel
theorem dX5_readCommand_6 : decode cX5_readCommand 6 = .ok (.putfield 25, 3) := by decide +kernel
theorem dX5_readCommand_9 : decode cX5_readCommand 9 = .ok (.aload_n 0, 1) := by decide +kernel
theorem dX5_readCommand_10 : decode cX5_readCommand 10 = .ok (.iload_n 1, 1) := by decide +kernel
theorem dX5_readCommand_11 : decode cX5_readCommand 11 = .ok (.iconst 1, 1) := by decide +kernel
theorem dX5_readCommand_12 : decode cX5_readCommand 12 = .ok (.iadd, 1) := by decide +kernel
theorem dX5_readCommand_13 : decode cX5_readCommand 13 = .ok (.putfield 29, 3) := by decide +kernel
theorem dX5_readCommand_16 : decode cX5_readCommand 16 = .ok (.aload_n 0, 1) := by decide +kernel
theorem dX5_readCommand_17 : decode cX5_readCommand 17 = .ok (.aload_n 0, 1) := by decide +kernel
theorem dX5_readCommand_18 : decode cX5_readCommand 18 = .ok (.getfield 25, 3) := by decide +kernel
theorem dX5_readCommand_21 : decode cX5_readCommand 21 = .ok (.invokevirtual 32, 3) := by decide +kernel
theorem dX5_readCommand_24 : decode cX5_readCommand 24 = .ok (.istore_n 2, 1) := by decide +kernel
theorem dX5_readCommand_25 : decode cX5_readCommand 25 = .ok (.iload_n 2, 1) := by decide +kernel
theorem dX5_readCommand_26 : decode cX5_readCommand 26 = .ok (.ifCond .ge 5, 3) := by decide +kernel
theorem dX5_readCommand_29 : decode cX5_readCommand 29 = .ok (.iconst 0, 1) := by decide +kernel
theorem dX5_readCommand_30 : decode cX5_readCommand 30 = .ok (.ireturn, 1) := by decide +kernel
theorem dX5_readCommand_31 : decode cX5_readCommand 31 = .ok (.iconst 0, 1) := by decide +kernel
theorem dX5_readCommand_32 : decode cX5_readCommand 32 = .ok (.istore_n 3, 1) := by decide +kernel
theorem dX5_readCommand_33 : decode cX5_readCommand 33 = .ok (.iload_n 3, 1) := by decide +kernel
theorem dX5_readCommand_34 : decode cX5_readCommand 34 = .ok (.iload_n 2, 1) := by decide +kernel
theorem dX5_readCommand_35 : decode cX5_readCommand 35 = .ok (.if_icmp .ge 50, 3) := by decide +kernel
theorem dX5_readCommand_38 : decode cX5_readCommand 38 = .ok (.iload_n 3, 1) := by decide +kernel
theorem dX5_readCommand_39 : decode cX5_readCommand 39 = .ok (.iconst 3, 1) := by decide +kernel
theorem dX5_readCommand_40 : decode cX5_readCommand 40 = .ok (.if_icmp .ge 45, 3) := by decide +kernel
theorem dX5_readCommand_43 : decode cX5_readCommand 43 = .ok (.iload_n 3, 1) := by decide +kernel
theorem dX5_readCommand_44 : decode cX5_readCommand 44 = .ok (.ifCond .le 14, 3) := by decide +kernel
theorem dX5_readCommand_47 : decode cX5_readCommand 47 = .ok (.aload_n 0, 1) := by decide +kernel
theorem dX5_readCommand_48 : decode cX5_readCommand 48 = .ok (.bipush 44, 2) := by decide +kernel
theorem dX5_readCommand_50 : decode cX5_readCommand 50 = .ok (.invokevirtual 36, 3) := by decide +kernel
theorem dX5_readCommand_53 : decode cX5_readCommand 53 = .ok (.ifCond .ne 5, 3) := by decide +kernel
theorem dX5_readCommand_56 : decode cX5_readCommand 56 = .ok (.iconst 0, 1) := by decide +kernel
theorem dX5_readCommand_57 : decode cX5_readCommand 57 = .ok (.ireturn, 1) := by decide +kernel
theorem dX5_readCommand_58 : decode cX5_readCommand 58 = .ok (.aload_n 0, 1) := by decide +kernel
theorem dX5_readCommand_59 : decode cX5_readCommand 59 = .ok (.getfield 13, 3) := by decide +kernel
theorem dX5_readCommand_62 : decode cX5_readCommand 62 = .ok (.iload_n 3, 1) := by decide +kernel
theorem dX5_readCommand_63 : decode cX5_readCommand 63 = .ok (.aload_n 0, 1) := by decide +kernel
theorem dX5_readCommand_64 : decode cX5_readCommand 64 = .ok (.invokevirtual 40, 3) := by decide +kernel
theorem dX5_readCommand_67 : decode cX5_readCommand 67 = .ok (.iastore, 1) := by decide +kernel
theorem dX5_readCommand_68 : decode cX5_readCommand 68 = .ok (.aload_n 0, 1) := by decide +kernel
theorem dX5_readCommand_69 : decode cX5_readCommand 69 = .ok (.getfield 13, 3) := by decide +kernel
theorem dX5_readCommand_72 : decode cX5_readCommand 72 = .ok (.iload_n 3, 1) := by decide +kernel
theorem dX5_readCommand_73 : decode cX5_readCommand 73 = .ok (.iaload, 1) := by decide +kernel
theorem dX5_readCommand_74 : decode cX5_readCommand 74 = .ok (.ifCond .ge 5, 3) := by decide +kernel
theorem dX5_readCommand_77 : decode cX5_readCommand 77 = .ok (.iconst 0, 1) := by decide +kernel
theorem dX5_readCommand_78 : decode cX5_readCommand 78 = .ok (.ireturn, 1) := by decide +kernel
theorem dX5_readCommand_79 : decode cX5_readCommand 79 = .ok (.iinc 3 1, 3) := by decide +kernel
theorem dX5_readCommand_82 : decode cX5_readCommand 82 = .ok (.goto (-49), 3) := by decide +kernel
theorem dX5_readCommand_85 : decode cX5_readCommand 85 = .ok (.aload_n 0, 1) := by decide +kernel
theorem dX5_readCommand_86 : decode cX5_readCommand 86 = .ok (.bipush 59, 2) := by decide +kernel
theorem dX5_readCommand_88 : decode cX5_readCommand 88 = .ok (.invokevirtual 36, 3) := by decide +kernel
theorem dX5_readCommand_91 : decode cX5_readCommand 91 = .ok (.ireturn, 1) := by decide +kernel
theorem dX5_numbersOf_0 : decode cX5_numbersOf 0 = .ok (.iload_n 1, 1) := by decide +kernel
theorem dX5_numbersOf_1 : decode cX5_numbersOf 1 = .ok (.lookupswitch 71 #[(98, 63), (102, 61), (108, 59), (110, 69), (115, 67), (120, 65)], 59) := by decide +kernel
theorem dX5_numbersOf_60 : decode cX5_numbersOf 60 = .ok (.iconst 3, 1) := by decide +kernel
theorem dX5_numbersOf_61 : decode cX5_numbersOf 61 = .ok (.ireturn, 1) := by decide +kernel
theorem dX5_numbersOf_62 : decode cX5_numbersOf 62 = .ok (.iconst 0, 1) := by decide +kernel
theorem dX5_numbersOf_63 : decode cX5_numbersOf 63 = .ok (.ireturn, 1) := by decide +kernel
theorem dX5_numbersOf_64 : decode cX5_numbersOf 64 = .ok (.iconst 3, 1) := by decide +kernel
theorem dX5_numbersOf_65 : decode cX5_numbersOf 65 = .ok (.ireturn, 1) := by decide +kernel
theorem dX5_numbersOf_66 : decode cX5_numbersOf 66 = .ok (.iconst 1, 1) := by decide +kernel
theorem dX5_numbersOf_67 : decode cX5_numbersOf 67 = .ok (.ireturn, 1) := by decide +kernel
theorem dX5_numbersOf_68 : decode cX5_numbersOf 68 = .ok (.iconst 2, 1) := by decide +kernel
theorem dX5_numbersOf_69 : decode cX5_numbersOf 69 = .ok (.ireturn, 1) := by decide +kernel
theorem dX5_numbersOf_70 : decode cX5_numbersOf 70 = .ok (.iconst 1, 1) := by decide +kernel
theorem dX5_numbersOf_71 : decode cX5_numbersOf 71 = .ok (.ireturn, 1) := by decide +kernel
theorem dX5_numbersOf_72 : decode cX5_numbersOf 72 = .ok (.iconst (-1), 1) := by decide +kernel
theorem dX5_numbersOf_73 : decode cX5_numbersOf 73 = .ok (.ireturn, 1) := by decide +kernel
set_option maxRecDepth 20000 in
theorem ggX5_readNumber_X5_at : GoodIn wsX5_readNumber wsX5_at := goodIn_r _ [10, 11, 12, 13, 14, 15, 16, 17] (by decide +kernel) (by decide +kernel)
set_option maxRecDepth 20000 in
theorem gX5_readNumber_X5_at : GoodIn wsX5_readNumber (wsV RX5 21 RX5 yX5_at wsX5_at) := goodIn_app (goodIn_of _ (by decide +kernel)) ggX5_readNumber_X5_at
theorem dX5_readNumber_0 : decode cX5_readNumber 0 = .ok (.iconst (-1), 1) := by decide +kernel
theorem dX5_readNumber_1 : decode cX5_readNumber 1 = .ok (.istore_n 1, 1) := by decide +kernel
theorem dX5_readNumber_2 : decode cX5_readNumber 2 = .ok (.iconst 0, 1) := by decide +kernel
theorem dX5_readNumber_3 : decode cX5_readNumber 3 = .ok (.istore_n 2, 1) := by decide +kernel
theorem dX5_readNumber_4 : decode cX5_readNumber 4 = .ok (.iload_n 2, 1) := by decide +kernel
theorem dX5_readNumber_5 : decode cX5_readNumber 5 = .ok (.iconst 3, 1) := by decide +kernel
theorem dX5_readNumber_6 : decode cX5_readNumber 6 = .ok (.if_icmp .ge 56, 3) := by decide +kernel
theorem dX5_readNumber_9 : decode cX5_readNumber 9 = .ok (.aload_n 0, 1) := by decide +kernel
theorem dX5_readNumber_10 : decode cX5_readNumber 10 = .ok (.aload_n 0, 1) := by decide +kernel
theorem dX5_readNumber_11 : decode cX5_readNumber 11 = .ok (.getfield 29, 3) := by decide +kernel
theorem dX5_readNumber_14 : decode cX5_readNumber 14 = .ok (.invokevirtual 21, 3) := by decide +kernel
theorem dX5_readNumber_17 : decode cX5_readNumber 17 = .ok (.istore_n 3, 1) := by decide +kernel
theorem dX5_readNumber_18 : decode cX5_readNumber 18 = .ok (.iload_n 3, 1) := by decide +kernel
theorem dX5_readNumber_19 : decode cX5_readNumber 19 = .ok (.bipush 48, 2) := by decide +kernel
theorem dX5_readNumber_21 : decode cX5_readNumber 21 = .ok (.if_icmp .lt 9, 3) := by decide +kernel
theorem dX5_readNumber_24 : decode cX5_readNumber 24 = .ok (.iload_n 3, 1) := by decide +kernel
theorem dX5_readNumber_25 : decode cX5_readNumber 25 = .ok (.bipush 57, 2) := by decide +kernel
theorem dX5_readNumber_27 : decode cX5_readNumber 27 = .ok (.if_icmp .le 5, 3) := by decide +kernel
theorem dX5_readNumber_30 : decode cX5_readNumber 30 = .ok (.iload_n 1, 1) := by decide +kernel
theorem dX5_readNumber_31 : decode cX5_readNumber 31 = .ok (.ireturn, 1) := by decide +kernel
theorem dX5_readNumber_32 : decode cX5_readNumber 32 = .ok (.iload_n 1, 1) := by decide +kernel
theorem dX5_readNumber_33 : decode cX5_readNumber 33 = .ok (.iconst 0, 1) := by decide +kernel
theorem dX5_readNumber_34 : decode cX5_readNumber 34 = .ok (.invokestatic 44, 3) := by decide +kernel
theorem dX5_readNumber_37 : decode cX5_readNumber 37 = .ok (.bipush 10, 2) := by decide +kernel
theorem dX5_readNumber_39 : decode cX5_readNumber 39 = .ok (.imul, 1) := by decide +kernel
theorem dX5_readNumber_40 : decode cX5_readNumber 40 = .ok (.iload_n 3, 1) := by decide +kernel
theorem dX5_readNumber_41 : decode cX5_readNumber 41 = .ok (.bipush 48, 2) := by decide +kernel
theorem dX5_readNumber_43 : decode cX5_readNumber 43 = .ok (.isub, 1) := by decide +kernel
theorem dX5_readNumber_44 : decode cX5_readNumber 44 = .ok (.iadd, 1) := by decide +kernel
theorem dX5_readNumber_45 : decode cX5_readNumber 45 = .ok (.istore_n 1, 1) := by decide +kernel
theorem dX5_readNumber_46 : decode cX5_readNumber 46 = .ok (.aload_n 0, 1) := by decide +kernel
theorem dX5_readNumber_47 : decode cX5_readNumber 47 = .ok (.dup, 1) := by decide +kernel
theorem dX5_readNumber_48 : decode cX5_readNumber 48 = .ok (.getfield 29, 3) := by decide +kernel
theorem dX5_readNumber_51 : decode cX5_readNumber 51 = .ok (.iconst 1, 1) := by decide +kernel
theorem dX5_readNumber_52 : decode cX5_readNumber 52 = .ok (.iadd, 1) := by decide +kernel
theorem dX5_readNumber_53 : decode cX5_readNumber 53 = .ok (.putfield 29, 3) := by decide +kernel
theorem dX5_readNumber_56 : decode cX5_readNumber 56 = .ok (.iinc 2 1, 3) := by decide +kernel
theorem dX5_readNumber_59 : decode cX5_readNumber 59 = .ok (.goto (-55), 3) := by decide +kernel
theorem dX5_readNumber_62 : decode cX5_readNumber 62 = .ok (.iload_n 1, 1) := by decide +kernel
theorem dX5_readNumber_63 : decode cX5_readNumber 63 = .ok (.ireturn, 1) := by decide +kernel
set_option maxRecDepth 20000 in
theorem ggX5_passes_X5_at : GoodIn wsX5_passes wsX5_at := goodIn_r _ [6, 7, 8, 9, 10, 11, 12, 13] (by decide +kernel) (by decide +kernel)
set_option maxRecDepth 20000 in
theorem gX5_passes_X5_at : GoodIn wsX5_passes (wsV RX5 21 RX5 yX5_at wsX5_at) := goodIn_app (goodIn_of _ (by decide +kernel)) ggX5_passes_X5_at
theorem dX5_passes_0 : decode cX5_passes 0 = .ok (.aload_n 0, 1) := by decide +kernel
theorem dX5_passes_1 : decode cX5_passes 1 = .ok (.aload_n 0, 1) := by decide +kernel
theorem dX5_passes_2 : decode cX5_passes 2 = .ok (.getfield 29, 3) := by decide +kernel
theorem dX5_passes_5 : decode cX5_passes 5 = .ok (.invokevirtual 21, 3) := by decide +kernel
theorem dX5_passes_8 : decode cX5_passes 8 = .ok (.iload_n 1, 1) := by decide +kernel
theorem dX5_passes_9 : decode cX5_passes 9 = .ok (.if_icmp .eq 5, 3) := by decide +kernel
theorem dX5_passes_12 : decode cX5_passes 12 = .ok (.iconst 0, 1) := by decide +kernel
theorem dX5_passes_13 : decode cX5_passes 13 = .ok (.ireturn, 1) := by decide +kernel
theorem dX5_passes_14 : decode cX5_passes 14 = .ok (.aload_n 0, 1) := by decide +kernel
theorem dX5_passes_15 : decode cX5_passes 15 = .ok (.dup, 1) := by decide +kernel
theorem dX5_passes_16 : decode cX5_passes 16 = .ok (.getfield 29, 3) := by decide +kernel
theorem dX5_passes_19 : decode cX5_passes 19 = .ok (.iconst 1, 1) := by decide +kernel
theorem dX5_passes_20 : decode cX5_passes 20 = .ok (.iadd, 1) := by decide +kernel
theorem dX5_passes_21 : decode cX5_passes 21 = .ok (.putfield 29, 3) := by decide +kernel
theorem dX5_passes_24 : decode cX5_passes 24 = .ok (.iconst 1, 1) := by decide +kernel
theorem dX5_passes_25 : decode cX5_passes 25 = .ok (.ireturn, 1) := by decide +kernel
theorem dX5_at_0 : decode cX5_at 0 = .ok (.iload_n 1, 1) := by decide +kernel
theorem dX5_at_1 : decode cX5_at 1 = .ok (.ifCond .lt 20, 3) := by decide +kernel
theorem dX5_at_4 : decode cX5_at 4 = .ok (.iload_n 1, 1) := by decide +kernel
theorem dX5_at_5 : decode cX5_at 5 = .ok (.aload_n 0, 1) := by decide +kernel
theorem dX5_at_6 : decode cX5_at 6 = .ok (.getfield 17, 3) := by decide +kernel
theorem dX5_at_9 : decode cX5_at 9 = .ok (.if_icmp .ge 12, 3) := by decide +kernel
theorem dX5_at_12 : decode cX5_at 12 = .ok (.aload_n 0, 1) := by decide +kernel
theorem dX5_at_13 : decode cX5_at 13 = .ok (.getfield 9, 3) := by decide +kernel
theorem dX5_at_16 : decode cX5_at 16 = .ok (.iload_n 1, 1) := by decide +kernel
theorem dX5_at_17 : decode cX5_at 17 = .ok (.caload, 1) := by decide +kernel
theorem dX5_at_18 : decode cX5_at 18 = .ok (.goto 4, 3) := by decide +kernel
theorem dX5_at_21 : decode cX5_at 21 = .ok (.iconst 0, 1) := by decide +kernel
theorem dX5_at_22 : decode cX5_at 22 = .ok (.ireturn, 1) := by decide +kernel
set_option maxRecDepth 20000 in
theorem ggX6_init_X1_init : GoodIn wsX6_init wsX1_init := goodIn_r _ [25, 26, 2, 3, 27, 28, 29, 30, 31, 32, 33, 34, 35, 36, 37, 38, 39, 40, 41, 42, 43, 44, 45, 46, 47, 48, 49, 50, 51, 52, 53, 54, 55, 56, 57, 58, 59, 60, 61, 62, 115, 116, 117, 118, 119, 120, 121, 122, 123, 124, 125, 85, 86, 87, 88, 89, 90, 91, 92, 93, 94, 126, 127, 128, 129, 130, 131, 132] (by decide +kernel) (by decide +kernel)
set_option maxRecDepth 20000 in
theorem gX6_init_X1_init : GoodIn wsX6_init (wsX1_init) := ggX6_init_X1_init
set_option maxRecDepth 20000 in
theorem ggX6_init_X0_init : GoodIn wsX6_init wsX0_init := goodIn_r _ [65, 66, 2, 3, 67, 68, 5, 6, 69, 24, 25, 26, 27, 28, 29, 30, 31, 32, 33, 34, 35, 36, 37, 38, 39, 40, 41, 42, 43, 44, 45, 46, 47, 48, 49, 50, 51, 52, 53, 54, 55, 56, 57, 58, 59, 60, 61, 62, 102, 103, 85, 86, 87, 88, 89, 90, 91, 92, 93, 94, 115, 116, 117, 118, 119, 120, 121, 122, 123, 124, 125, 126, 127, 128, 129, 130, 131, 132] (by decide +kernel) (by decide +kernel)
set_option maxRecDepth 20000 in
theorem gX6_init_X0_init : GoodIn wsX6_init (wsX0_init) := ggX6_init_X0_init
set_option maxRecDepth 20000 in
theorem ggX6_init_X5_init : GoodIn wsX6_init wsX5_init := goodIn_r _ [72, 73, 2, 3, 74, 75, 37, 76, 104, 105, 106, 107, 108] (by decide +kernel) (by decide +kernel)
set_option maxRecDepth 20000 in
theorem gX6_init_X5_init : GoodIn wsX6_init (wsX5_init) := ggX6_init_X5_init
set_option maxRecDepth 20000 in
theorem ggX6_init_X3_init : GoodIn wsX6_init wsX3_init := goodIn_r _ [79, 80, 2, 3, 81, 5, 6, 82, 83, 84, 24, 25, 26, 27, 28, 29, 30, 31, 32, 33, 34, 35, 36, 37, 38, 39, 40, 41, 42, 43, 44, 45, 46, 47, 48, 49, 50, 51, 52, 53, 54, 55, 56, 57, 58, 59, 60, 61, 62, 85, 86, 87, 88, 89, 90, 91, 92, 93, 94, 109, 110, 111, 112, 113, 114, 115, 116, 117, 118, 119, 120, 121, 122, 123, 124, 125, 126, 127, 128, 129, 130, 131, 132] (by decide +kernel) (by decide +kernel)
set_option maxRecDepth 20000 in
theorem gX6_init_X3_init : GoodIn wsX6_init (wsX3_init) := ggX6_init_X3_init
theorem dX6_init_0 : decode cX6_init 0 = .ok (.aload_n 0, 1) := by decide +kernel
theorem dX6_init_1 : decode cX6_init 1 = .ok (.invokespecial 1, 3) := by decide +kernel
theorem dX6_init_4 : decode cX6_init 4 = .ok (.aload_n 0, 1) := by decide +kernel
theorem dX6_init_5 : decode cX6_init 5 = .ok (.new 7, 3) := by decide +kernel
theorem dX6_init_8 : decode cX6_init 8 = .ok (.dup, 1) := by decide +kernel
theorem dX6_init_9 : decode cX6_init 9 = .ok (.invokespecial 9, 3) := by decide +kernel
theorem dX6_init_12 : decode cX6_init 12 = .ok (.putfield 10, 3) := by decide +kernel
theorem dX6_init_15 : decode cX6_init 15 = .ok (.aload_n 0, 1) := by decide +kernel
theorem dX6_init_16 : decode cX6_init 16 = .ok (.new 7, 3) := by decide +kernel
theorem dX6_init_19 : decode cX6_init 19 = .ok (.dup, 1) := by decide +kernel
theorem dX6_init_20 : decode cX6_init 20 = .ok (.invokespecial 9, 3) := by decide +kernel
theorem dX6_init_23 : decode cX6_init 23 = .ok (.putfield 16, 3) := by decide +kernel
theorem dX6_init_26 : decode cX6_init 26 = .ok (.aload_n 0, 1) := by decide +kernel
theorem dX6_init_27 : decode cX6_init 27 = .ok (.new 7, 3) := by decide +kernel
theorem dX6_init_30 : decode cX6_init 30 = .ok (.dup, 1) := by decide +kernel
theorem dX6_init_31 : decode cX6_init 31 = .ok (.invokespecial 9, 3) := by decide +kernel
theorem dX6_init_34 : decode cX6_init 34 = .ok (.putfield 19, 3) := by decide +kernel
theorem dX6_init_37 : decode cX6_init 37 = .ok (.aload_n 0, 1) := by decide +kernel
theorem dX6_init_38 : decode cX6_init 38 = .ok (.new 22, 3) := by decide +kernel
theorem dX6_init_41 : decode cX6_init 41 = .ok (.dup, 1) := by decide +kernel
theorem dX6_init_42 : decode cX6_init 42 = .ok (.invokespecial 24, 3) := by decide +kernel
theorem dX6_init_45 : decode cX6_init 45 = .ok (.putfield 25, 3) := by decide +kernel
theorem dX6_init_48 : decode cX6_init 48 = .ok (.aload_n 0, 1) := by decide +kernel
theorem dX6_init_49 : decode cX6_init 49 = .ok (.new 29, 3) := by decide +kernel
theorem dX6_init_52 : decode cX6_init 52 = .ok (.dup, 1) := by decide +kernel
theorem dX6_init_53 : decode cX6_init 53 = .ok (.invokespecial 31, 3) := by decide +kernel
theorem dX6_init_56 : decode cX6_init 56 = .ok (.putfield 32, 3) := by decide +kernel
theorem dX6_init_59 : decode cX6_init 59 = .ok (.aload_n 0, 1) := by decide +kernel
theorem dX6_init_60 : decode cX6_init 60 = .ok (.new 36, 3) := by decide +kernel
theorem dX6_init_63 : decode cX6_init 63 = .ok (.dup, 1) := by decide +kernel
theorem dX6_init_64 : decode cX6_init 64 = .ok (.invokespecial 38, 3) := by decide +kernel
theorem dX6_init_67 : decode cX6_init 67 = .ok (.putfield 39, 3) := by decide +kernel
theorem dX6_init_70 : decode cX6_init 70 = .ok (.aload_n 0, 1) := by decide +kernel
theorem dX6_init_71 : decode cX6_init 71 = .ok (.iconst 0, 1) := by decide +kernel
theorem dX6_init_72 : decode cX6_init 72 = .ok (.putfield 43, 3) := by decide +kernel
theorem dX6_init_75 : decode cX6_init 75 = .ok (.return_, 1) := by decide +kernel
set_option maxRecDepth 20000 in
theorem ggX6_load_X0_prepare : GoodIn wsX6_load wsX0_prepare := goodIn_r _ [7, 8, 9, 10, 11, 12, 13, 14, 15, 16, 17, 18, 19, 20, 21, 22, 23, 24, 25, 26, 27, 28, 29, 30, 31, 32, 33, 34, 35, 36, 37, 38, 39, 40, 41, 42, 43, 44, 45, 46, 47, 48, 49, 50, 51, 52, 53, 54, 55, 56, 57, 58, 87, 88, 89, 90, 91, 92, 93, 94, 95, 96, 97, 98, 99, 100, 101, 102, 103, 104, 105, 106, 107, 108, 109, 110, 111, 112, 113, 114, 115, 116] (by decide +kernel) (by decide +kernel)
set_option maxRecDepth 20000 in
theorem gX6_load_X0_prepare : GoodIn wsX6_load (wsV RX6 47 RX0 yX0_prepare wsX0_prepare) := goodIn_app (goodIn_of _ (by decide +kernel)) ggX6_load_X0_prepare
set_option maxRecDepth 20000 in
theorem ggX6_load_X1_putOnPallet : GoodIn wsX6_load wsX1_putOnPallet := goodIn_r _ [62, 15, 63, 64, 65, 32, 66, 67, 68, 69, 70, 45, 38, 39, 40, 89, 90, 91, 92, 93, 94, 95, 96, 97, 98, 99, 100, 101, 102, 103, 104, 105, 106, 107, 108, 109] (by decide +kernel) (by decide +kernel)
set_option maxRecDepth 20000 in
theorem gX6_load_X1_putOnPallet : GoodIn wsX6_load (wsV RX6 51 RX1 yX1_putOnPallet wsX1_putOnPallet) := goodIn_app (goodIn_of _ (by decide +kernel)) ggX6_load_X1_putOnPallet
set_option maxRecDepth 20000 in
theorem ggX6_load_X6_recorded : GoodIn wsX6_load wsX6_recorded := goodIn_r _ [75, 1, 76, 77, 78, 6, 79, 8, 9, 80, 81, 82, 83, 84, 85, 86, 87, 88] (by decide +kernel) (by decide +kernel)
set_option maxRecDepth 20000 in
theorem gX6_load_X6_recorded : GoodIn wsX6_load (wsV RX6 55 RX6 yX6_recorded wsX6_recorded) := goodIn_app (goodIn_of _ (by decide +kernel)) ggX6_load_X6_recorded
theorem dX6_load_0 : decode cX6_load 0 = .ok (.aload_n 0, 1) := by decide +kernel
theorem dX6_load_1 : decode cX6_load 1 = .ok (.getfield 25, 3) := by decide +kernel
theorem dX6_load_4 : decode cX6_load 4 = .ok (.aload_n 0, 1) := by decide +kernel
theorem dX6_load_5 : decode cX6_load 5 = .ok (.getfield 10, 3) := by decide +kernel
theorem dX6_load_8 : decode cX6_load 8 = .ok (.invokevirtual 47, 3) := by decide +kernel
theorem dX6_load_11 : decode cX6_load 11 = .ok (.aload_n 0, 1) := by decide +kernel
theorem dX6_load_12 : decode cX6_load 12 = .ok (.aload_n 0, 1) := by decide +kernel
theorem dX6_load_13 : decode cX6_load 13 = .ok (.getfield 10, 3) := by decide +kernel
theorem dX6_load_16 : decode cX6_load 16 = .ok (.iload_n 1, 1) := by decide +kernel
theorem dX6_load_17 : decode cX6_load 17 = .ok (.iload_n 2, 1) := by decide +kernel
theorem dX6_load_18 : decode cX6_load 18 = .ok (.iload_n 3, 1) := by decide +kernel
theorem dX6_load_19 : decode cX6_load 19 = .ok (.invokevirtual 51, 3) := by decide +kernel
theorem dX6_load_22 : decode cX6_load 22 = .ok (.invokevirtual 55, 3) := by decide +kernel
theorem dX6_load_25 : decode cX6_load 25 = .ok (.ireturn, 1) := by decide +kernel
set_option maxRecDepth 20000 in
theorem ggX6_fly_X0_prepare : GoodIn wsX6_fly wsX0_prepare := goodIn_r _ [7, 8, 9, 10, 11, 12, 13, 14, 15, 16, 17, 18, 19, 20, 21, 22, 23, 24, 25, 26, 27, 28, 29, 30, 31, 32, 33, 34, 35, 36, 37, 38, 39, 40, 41, 42, 43, 44, 45, 46, 47, 48, 49, 50, 51, 52, 53, 54, 55, 56, 57, 58, 96, 97, 98, 99, 100, 101, 102, 103, 104, 105, 106, 107, 108, 109, 110, 111, 112, 113, 114, 115, 116, 117, 118, 119, 120, 121, 122, 123, 124, 125] (by decide +kernel) (by decide +kernel)
set_option maxRecDepth 20000 in
theorem gX6_fly_X0_prepare : GoodIn wsX6_fly (wsV RX6 47 RX0 yX0_prepare wsX0_prepare) := goodIn_app (goodIn_of _ (by decide +kernel)) ggX6_fly_X0_prepare
set_option maxRecDepth 20000 in
theorem ggX6_fly_X1_bringPallet : GoodIn wsX6_fly wsX1_bringPallet := goodIn_r _ [62, 15, 63, 24, 22, 64, 23, 65, 66, 67, 13, 68, 17, 69, 70, 71, 32, 72, 45, 38, 39, 40, 73, 74, 75, 76, 44, 37, 34, 36, 41, 77, 78, 79, 98, 99, 100, 101, 102, 103, 104, 105, 106, 107, 108, 109, 110, 111, 112, 113, 114, 115, 116, 117, 118] (by decide +kernel) (by decide +kernel)
set_option maxRecDepth 20000 in
theorem gX6_fly_X1_bringPallet : GoodIn wsX6_fly (wsV RX6 59 RX1 yX1_bringPallet wsX1_bringPallet) := goodIn_app (goodIn_of _ (by decide +kernel)) ggX6_fly_X1_bringPallet
set_option maxRecDepth 20000 in
theorem ggX6_fly_X6_recorded : GoodIn wsX6_fly wsX6_recorded := goodIn_r _ [84, 1, 85, 86, 87, 6, 88, 8, 9, 89, 90, 91, 92, 93, 94, 95, 96, 97] (by decide +kernel) (by decide +kernel)
set_option maxRecDepth 20000 in
theorem gX6_fly_X6_recorded : GoodIn wsX6_fly (wsV RX6 55 RX6 yX6_recorded wsX6_recorded) := goodIn_app (goodIn_of _ (by decide +kernel)) ggX6_fly_X6_recorded
theorem dX6_fly_0 : decode cX6_fly 0 = .ok (.aload_n 0, 1) := by decide +kernel
theorem dX6_fly_1 : decode cX6_fly 1 = .ok (.getfield 25, 3) := by decide +kernel
theorem dX6_fly_4 : decode cX6_fly 4 = .ok (.aload_n 0, 1) := by decide +kernel
theorem dX6_fly_5 : decode cX6_fly 5 = .ok (.getfield 10, 3) := by decide +kernel
theorem dX6_fly_8 : decode cX6_fly 8 = .ok (.invokevirtual 47, 3) := by decide +kernel
theorem dX6_fly_11 : decode cX6_fly 11 = .ok (.aload_n 0, 1) := by decide +kernel
theorem dX6_fly_12 : decode cX6_fly 12 = .ok (.aload_n 0, 1) := by decide +kernel
theorem dX6_fly_13 : decode cX6_fly 13 = .ok (.getfield 10, 3) := by decide +kernel
theorem dX6_fly_16 : decode cX6_fly 16 = .ok (.invokevirtual 59, 3) := by decide +kernel
theorem dX6_fly_19 : decode cX6_fly 19 = .ok (.invokevirtual 55, 3) := by decide +kernel
theorem dX6_fly_22 : decode cX6_fly 22 = .ok (.ireturn, 1) := by decide +kernel
set_option maxRecDepth 20000 in
theorem ggX6_book_X0_prepare : GoodIn wsX6_book wsX0_prepare := goodIn_r _ [8, 9, 10, 11, 12, 13, 14, 15, 16, 17, 18, 19, 20, 21, 22, 23, 24, 25, 26, 27, 28, 29, 30, 31, 32, 33, 34, 35, 36, 37, 38, 39, 40, 41, 42, 43, 44, 45, 46, 47, 48, 49, 50, 51, 52, 53, 54, 55, 56, 57, 58, 59, 150, 151, 152, 153, 154, 155, 156, 157, 158, 159, 160, 161, 162, 163, 164, 165, 166, 167, 168, 169, 170, 171, 172, 173, 174, 175, 176, 177, 178, 179] (by decide +kernel) (by decide +kernel)
set_option maxRecDepth 20000 in
theorem gX6_book_X0_prepare : GoodIn wsX6_book (wsV RX6 47 RX0 yX0_prepare wsX0_prepare) := goodIn_app (goodIn_of _ (by decide +kernel)) ggX6_book_X0_prepare
set_option maxRecDepth 20000 in
theorem ggX6_book_X1_takeBooking : GoodIn wsX6_book wsX1_takeBooking := goodIn_r _ [63, 17, 64, 65, 66, 67, 14, 68, 24, 69, 12, 13, 15, 16, 18, 19, 20, 21, 22, 23, 25, 26, 27, 28, 29, 30, 31, 32, 33, 34, 35, 36, 37, 38, 39, 40, 41, 42, 43, 44, 45, 46, 47, 48, 49, 50, 51, 52, 53, 54, 55, 56, 57, 58, 59, 70, 71, 72, 73, 74, 75, 76, 77, 78, 79, 80, 81, 82, 83, 84, 85, 86, 87, 88, 89, 90, 91, 92, 93, 94, 95, 96, 97, 98, 99, 100, 101, 102, 103, 104, 105, 106, 107, 108, 109, 110, 111, 112, 113, 114, 115, 116, 117, 118, 119, 120, 121, 122, 123, 124, 125, 126, 127, 128, 129, 130, 131, 132, 133, 152, 153, 154, 155, 156, 157, 158, 159, 160, 161, 173, 174, 175, 176, 177, 178, 179, 162, 163, 164, 165, 166, 167, 168, 169, 170, 171, 172] (by decide +kernel) (by decide +kernel)
set_option maxRecDepth 20000 in
theorem gX6_book_X1_takeBooking : GoodIn wsX6_book (wsV RX6 63 RX1 yX1_takeBooking wsX1_takeBooking) := goodIn_app (goodIn_of _ (by decide +kernel)) ggX6_book_X1_takeBooking
set_option maxRecDepth 20000 in
theorem ggX6_book_X6_recorded : GoodIn wsX6_book wsX6_recorded := goodIn_r _ [138, 1, 139, 140, 141, 7, 142, 9, 10, 143, 144, 145, 146, 147, 148, 149, 150, 151] (by decide +kernel) (by decide +kernel)
set_option maxRecDepth 20000 in
theorem gX6_book_X6_recorded : GoodIn wsX6_book (wsV RX6 55 RX6 yX6_recorded wsX6_recorded) := goodIn_app (goodIn_of _ (by decide +kernel)) ggX6_book_X6_recorded
theorem dX6_book_0 : decode cX6_book 0 = .ok (.aload_n 0, 1) := by decide +kernel
theorem dX6_book_1 : decode cX6_book 1 = .ok (.getfield 25, 3) := by decide +kernel
theorem dX6_book_4 : decode cX6_book 4 = .ok (.aload_n 0, 1) := by decide +kernel
theorem dX6_book_5 : decode cX6_book 5 = .ok (.getfield 10, 3) := by decide +kernel
theorem dX6_book_8 : decode cX6_book 8 = .ok (.invokevirtual 47, 3) := by decide +kernel
theorem dX6_book_11 : decode cX6_book 11 = .ok (.aload_n 0, 1) := by decide +kernel
theorem dX6_book_12 : decode cX6_book 12 = .ok (.aload_n 0, 1) := by decide +kernel
theorem dX6_book_13 : decode cX6_book 13 = .ok (.getfield 10, 3) := by decide +kernel
theorem dX6_book_16 : decode cX6_book 16 = .ok (.iload_n 1, 1) := by decide +kernel
theorem dX6_book_17 : decode cX6_book 17 = .ok (.iload_n 2, 1) := by decide +kernel
theorem dX6_book_18 : decode cX6_book 18 = .ok (.iload_n 3, 1) := by decide +kernel
theorem dX6_book_19 : decode cX6_book 19 = .ok (.aload_n 0, 1) := by decide +kernel
theorem dX6_book_20 : decode cX6_book 20 = .ok (.getfield 16, 3) := by decide +kernel
theorem dX6_book_23 : decode cX6_book 23 = .ok (.invokevirtual 63, 3) := by decide +kernel
theorem dX6_book_26 : decode cX6_book 26 = .ok (.invokevirtual 55, 3) := by decide +kernel
theorem dX6_book_29 : decode cX6_book 29 = .ok (.ireturn, 1) := by decide +kernel
set_option maxRecDepth 20000 in
theorem ggX6_cancel_X0_prepare : GoodIn wsX6_cancel wsX0_prepare := goodIn_r _ [7, 8, 9, 10, 11, 12, 13, 14, 15, 16, 17, 18, 19, 20, 21, 22, 23, 24, 25, 26, 27, 28, 29, 30, 31, 32, 33, 34, 35, 36, 37, 38, 39, 40, 41, 42, 43, 44, 45, 46, 47, 48, 49, 50, 51, 52, 53, 54, 55, 56, 57, 58, 88, 89, 90, 91, 92, 93, 94, 95, 96, 97, 98, 99, 100, 101, 102, 103, 104, 105, 106, 107, 108, 109, 110, 111, 112, 113, 114, 115, 116, 117] (by decide +kernel) (by decide +kernel)
set_option maxRecDepth 20000 in
theorem gX6_cancel_X0_prepare : GoodIn wsX6_cancel (wsV RX6 47 RX0 yX0_prepare wsX0_prepare) := goodIn_app (goodIn_of _ (by decide +kernel)) ggX6_cancel_X0_prepare
set_option maxRecDepth 20000 in
theorem ggX6_cancel_X1_callOff : GoodIn wsX6_cancel wsX1_callOff := goodIn_r _ [62, 16, 63, 64, 65, 66, 49, 67, 58, 68, 69, 70, 71, 55, 90, 91, 92, 93, 94, 95, 96, 97, 98, 99, 111, 112, 113, 114, 115, 116, 117] (by decide +kernel) (by decide +kernel)
set_option maxRecDepth 20000 in
theorem gX6_cancel_X1_callOff : GoodIn wsX6_cancel (wsV RX6 67 RX1 yX1_callOff wsX1_callOff) := goodIn_app (goodIn_of _ (by decide +kernel)) ggX6_cancel_X1_callOff
set_option maxRecDepth 20000 in
theorem ggX6_cancel_X6_recorded : GoodIn wsX6_cancel wsX6_recorded := goodIn_r _ [76, 1, 77, 78, 79, 6, 80, 8, 9, 81, 82, 83, 84, 85, 86, 87, 88, 89] (by decide +kernel) (by decide +kernel)
set_option maxRecDepth 20000 in
theorem gX6_cancel_X6_recorded : GoodIn wsX6_cancel (wsV RX6 55 RX6 yX6_recorded wsX6_recorded) := goodIn_app (goodIn_of _ (by decide +kernel)) ggX6_cancel_X6_recorded
theorem dX6_cancel_0 : decode cX6_cancel 0 = .ok (.aload_n 0, 1) := by decide +kernel
theorem dX6_cancel_1 : decode cX6_cancel 1 = .ok (.getfield 25, 3) := by decide +kernel
theorem dX6_cancel_4 : decode cX6_cancel 4 = .ok (.aload_n 0, 1) := by decide +kernel
theorem dX6_cancel_5 : decode cX6_cancel 5 = .ok (.getfield 10, 3) := by decide +kernel
theorem dX6_cancel_8 : decode cX6_cancel 8 = .ok (.invokevirtual 47, 3) := by decide +kernel
theorem dX6_cancel_11 : decode cX6_cancel 11 = .ok (.aload_n 0, 1) := by decide +kernel
theorem dX6_cancel_12 : decode cX6_cancel 12 = .ok (.aload_n 0, 1) := by decide +kernel
theorem dX6_cancel_13 : decode cX6_cancel 13 = .ok (.getfield 10, 3) := by decide +kernel
theorem dX6_cancel_16 : decode cX6_cancel 16 = .ok (.iload_n 1, 1) := by decide +kernel
theorem dX6_cancel_17 : decode cX6_cancel 17 = .ok (.invokevirtual 67, 3) := by decide +kernel
theorem dX6_cancel_20 : decode cX6_cancel 20 = .ok (.invokevirtual 55, 3) := by decide +kernel
theorem dX6_cancel_23 : decode cX6_cancel 23 = .ok (.ireturn, 1) := by decide +kernel
set_option maxRecDepth 20000 in
theorem ggX6_storm_X0_prepare : GoodIn wsX6_storm wsX0_prepare := goodIn_r _ [7, 8, 9, 10, 11, 12, 13, 14, 15, 16, 17, 18, 19, 20, 21, 22, 23, 24, 25, 26, 27, 28, 29, 30, 31, 32, 33, 34, 35, 36, 37, 38, 39, 40, 41, 42, 43, 44, 45, 46, 47, 48, 49, 50, 51, 52, 53, 54, 55, 56, 57, 58, 79, 80, 81, 82, 83, 84, 85, 86, 87, 88, 89, 90, 91, 92, 93, 94, 95, 96, 97, 98, 99, 100, 101, 102, 103, 104, 105, 106, 107, 108] (by decide +kernel) (by decide +kernel)
set_option maxRecDepth 20000 in
theorem gX6_storm_X0_prepare : GoodIn wsX6_storm (wsV RX6 47 RX0 yX0_prepare wsX0_prepare) := goodIn_app (goodIn_of _ (by decide +kernel)) ggX6_storm_X0_prepare
set_option maxRecDepth 20000 in
theorem ggX6_storm_X1_tellStorm : GoodIn wsX6_storm wsX1_tellStorm := goodIn_r _ [62, 23, 17, 81, 82, 83, 84, 85, 86, 87, 88, 89, 90] (by decide +kernel) (by decide +kernel)
set_option maxRecDepth 20000 in
theorem gX6_storm_X1_tellStorm : GoodIn wsX6_storm (wsV RX6 70 RX1 yX1_tellStorm wsX1_tellStorm) := goodIn_app (goodIn_of _ (by decide +kernel)) ggX6_storm_X1_tellStorm
set_option maxRecDepth 20000 in
theorem ggX6_storm_X6_recorded : GoodIn wsX6_storm wsX6_recorded := goodIn_r _ [67, 1, 68, 69, 70, 6, 71, 8, 9, 72, 73, 74, 75, 76, 77, 78, 79, 80] (by decide +kernel) (by decide +kernel)
set_option maxRecDepth 20000 in
theorem gX6_storm_X6_recorded : GoodIn wsX6_storm (wsV RX6 55 RX6 yX6_recorded wsX6_recorded) := goodIn_app (goodIn_of _ (by decide +kernel)) ggX6_storm_X6_recorded
theorem dX6_storm_0 : decode cX6_storm 0 = .ok (.aload_n 0, 1) := by decide +kernel
theorem dX6_storm_1 : decode cX6_storm 1 = .ok (.getfield 25, 3) := by decide +kernel
theorem dX6_storm_4 : decode cX6_storm 4 = .ok (.aload_n 0, 1) := by decide +kernel
theorem dX6_storm_5 : decode cX6_storm 5 = .ok (.getfield 10, 3) := by decide +kernel
theorem dX6_storm_8 : decode cX6_storm 8 = .ok (.invokevirtual 47, 3) := by decide +kernel
theorem dX6_storm_11 : decode cX6_storm 11 = .ok (.aload_n 0, 1) := by decide +kernel
theorem dX6_storm_12 : decode cX6_storm 12 = .ok (.aload_n 0, 1) := by decide +kernel
theorem dX6_storm_13 : decode cX6_storm 13 = .ok (.getfield 10, 3) := by decide +kernel
theorem dX6_storm_16 : decode cX6_storm 16 = .ok (.iload_n 1, 1) := by decide +kernel
theorem dX6_storm_17 : decode cX6_storm 17 = .ok (.iload_n 2, 1) := by decide +kernel
theorem dX6_storm_18 : decode cX6_storm 18 = .ok (.invokevirtual 70, 3) := by decide +kernel
theorem dX6_storm_21 : decode cX6_storm 21 = .ok (.invokevirtual 55, 3) := by decide +kernel
theorem dX6_storm_24 : decode cX6_storm 24 = .ok (.ireturn, 1) := by decide +kernel
set_option maxRecDepth 20000 in
theorem ggX6_clear_X0_prepare : GoodIn wsX6_clear wsX0_prepare := goodIn_r _ [7, 8, 9, 10, 11, 12, 13, 14, 15, 16, 17, 18, 19, 20, 21, 22, 23, 24, 25, 26, 27, 28, 29, 30, 31, 32, 33, 34, 35, 36, 37, 38, 39, 40, 41, 42, 43, 44, 45, 46, 47, 48, 49, 50, 51, 52, 53, 54, 55, 56, 57, 58, 79, 80, 81, 82, 83, 84, 85, 86, 87, 88, 89, 90, 91, 92, 93, 94, 95, 96, 97, 98, 99, 100, 101, 102, 103, 104, 105, 106, 107, 108] (by decide +kernel) (by decide +kernel)
set_option maxRecDepth 20000 in
theorem gX6_clear_X0_prepare : GoodIn wsX6_clear (wsV RX6 47 RX0 yX0_prepare wsX0_prepare) := goodIn_app (goodIn_of _ (by decide +kernel)) ggX6_clear_X0_prepare
set_option maxRecDepth 20000 in
theorem ggX6_clear_X1_tellCalm : GoodIn wsX6_clear wsX1_tellCalm := goodIn_r _ [62, 23, 17, 81, 82, 83, 84, 85, 86, 87, 88, 89, 90] (by decide +kernel) (by decide +kernel)
set_option maxRecDepth 20000 in
theorem gX6_clear_X1_tellCalm : GoodIn wsX6_clear (wsV RX6 74 RX1 yX1_tellCalm wsX1_tellCalm) := goodIn_app (goodIn_of _ (by decide +kernel)) ggX6_clear_X1_tellCalm
set_option maxRecDepth 20000 in
theorem ggX6_clear_X6_recorded : GoodIn wsX6_clear wsX6_recorded := goodIn_r _ [67, 1, 68, 69, 70, 6, 71, 8, 9, 72, 73, 74, 75, 76, 77, 78, 79, 80] (by decide +kernel) (by decide +kernel)
set_option maxRecDepth 20000 in
theorem gX6_clear_X6_recorded : GoodIn wsX6_clear (wsV RX6 55 RX6 yX6_recorded wsX6_recorded) := goodIn_app (goodIn_of _ (by decide +kernel)) ggX6_clear_X6_recorded
theorem dX6_clear_0 : decode cX6_clear 0 = .ok (.aload_n 0, 1) := by decide +kernel
theorem dX6_clear_1 : decode cX6_clear 1 = .ok (.getfield 25, 3) := by decide +kernel
theorem dX6_clear_4 : decode cX6_clear 4 = .ok (.aload_n 0, 1) := by decide +kernel
theorem dX6_clear_5 : decode cX6_clear 5 = .ok (.getfield 10, 3) := by decide +kernel
theorem dX6_clear_8 : decode cX6_clear 8 = .ok (.invokevirtual 47, 3) := by decide +kernel
theorem dX6_clear_11 : decode cX6_clear 11 = .ok (.aload_n 0, 1) := by decide +kernel
theorem dX6_clear_12 : decode cX6_clear 12 = .ok (.aload_n 0, 1) := by decide +kernel
theorem dX6_clear_13 : decode cX6_clear 13 = .ok (.getfield 10, 3) := by decide +kernel
theorem dX6_clear_16 : decode cX6_clear 16 = .ok (.iload_n 1, 1) := by decide +kernel
theorem dX6_clear_17 : decode cX6_clear 17 = .ok (.invokevirtual 74, 3) := by decide +kernel
theorem dX6_clear_20 : decode cX6_clear 20 = .ok (.invokevirtual 55, 3) := by decide +kernel
theorem dX6_clear_23 : decode cX6_clear 23 = .ok (.ireturn, 1) := by decide +kernel
set_option maxRecDepth 20000 in
theorem ggX6_sleep_X0_prepare : GoodIn wsX6_sleep wsX0_prepare := goodIn_r _ [7, 8, 9, 10, 11, 12, 13, 14, 15, 16, 17, 18, 19, 20, 21, 22, 23, 24, 25, 26, 27, 28, 29, 30, 31, 32, 33, 34, 35, 36, 37, 38, 39, 40, 41, 42, 43, 44, 45, 46, 47, 48, 49, 50, 51, 52, 53, 54, 55, 56, 57, 58, 131, 132, 133, 134, 135, 136, 137, 138, 139, 140, 141, 142, 143, 144, 145, 146, 147, 148, 149, 150, 151, 152, 153, 154, 155, 156, 157, 158, 159, 160] (by decide +kernel) (by decide +kernel)
set_option maxRecDepth 20000 in
theorem gX6_sleep_X0_prepare : GoodIn wsX6_sleep (wsV RX6 47 RX0 yX0_prepare wsX0_prepare) := goodIn_app (goodIn_of _ (by decide +kernel)) ggX6_sleep_X0_prepare
set_option maxRecDepth 20000 in
theorem ggX6_sleep_X1_passNights : GoodIn wsX6_sleep wsX1_passNights := goodIn_r _ [62, 23, 25, 63, 64, 65, 13, 66, 16, 22, 15, 28, 67, 68, 69, 70, 26, 27, 71, 72, 73, 74, 17, 75, 76, 77, 49, 78, 58, 55, 56, 54, 79, 80, 81, 82, 51, 83, 84, 85, 86, 53, 57, 87, 88, 89, 32, 90, 44, 34, 36, 91, 92, 93, 94, 95, 96, 97, 98, 42, 99, 100, 101, 102, 103, 104, 105, 106, 107, 108, 109, 110, 37, 43, 111, 112, 113, 114, 133, 134, 135, 136, 137, 138, 139, 140, 141, 142, 154, 155, 156, 157, 158, 159, 160, 143, 144, 145, 146, 147, 148, 149, 150, 151, 152, 153] (by decide +kernel) (by decide +kernel)
set_option maxRecDepth 20000 in
theorem gX6_sleep_X1_passNights : GoodIn wsX6_sleep (wsV RX6 77 RX1 yX1_passNights wsX1_passNights) := goodIn_app (goodIn_of _ (by decide +kernel)) ggX6_sleep_X1_passNights
set_option maxRecDepth 20000 in
theorem ggX6_sleep_X6_recorded : GoodIn wsX6_sleep wsX6_recorded := goodIn_r _ [119, 1, 120, 121, 122, 6, 123, 8, 9, 124, 125, 126, 127, 128, 129, 130, 131, 132] (by decide +kernel) (by decide +kernel)
set_option maxRecDepth 20000 in
theorem gX6_sleep_X6_recorded : GoodIn wsX6_sleep (wsV RX6 55 RX6 yX6_recorded wsX6_recorded) := goodIn_app (goodIn_of _ (by decide +kernel)) ggX6_sleep_X6_recorded
theorem dX6_sleep_0 : decode cX6_sleep 0 = .ok (.aload_n 0, 1) := by decide +kernel
theorem dX6_sleep_1 : decode cX6_sleep 1 = .ok (.getfield 25, 3) := by decide +kernel
theorem dX6_sleep_4 : decode cX6_sleep 4 = .ok (.aload_n 0, 1) := by decide +kernel
theorem dX6_sleep_5 : decode cX6_sleep 5 = .ok (.getfield 10, 3) := by decide +kernel
theorem dX6_sleep_8 : decode cX6_sleep 8 = .ok (.invokevirtual 47, 3) := by decide +kernel
theorem dX6_sleep_11 : decode cX6_sleep 11 = .ok (.aload_n 0, 1) := by decide +kernel
theorem dX6_sleep_12 : decode cX6_sleep 12 = .ok (.aload_n 0, 1) := by decide +kernel
theorem dX6_sleep_13 : decode cX6_sleep 13 = .ok (.getfield 10, 3) := by decide +kernel
theorem dX6_sleep_16 : decode cX6_sleep 16 = .ok (.iload_n 1, 1) := by decide +kernel
theorem dX6_sleep_17 : decode cX6_sleep 17 = .ok (.invokevirtual 77, 3) := by decide +kernel
theorem dX6_sleep_20 : decode cX6_sleep 20 = .ok (.invokevirtual 55, 3) := by decide +kernel
theorem dX6_sleep_23 : decode cX6_sleep 23 = .ok (.ireturn, 1) := by decide +kernel
set_option maxRecDepth 20000 in
theorem ggX6_set_X0_prepare : GoodIn wsX6_set wsX0_prepare := goodIn_r _ [7, 8, 9, 10, 11, 12, 13, 14, 15, 16, 17, 18, 19, 20, 21, 22, 23, 24, 25, 26, 27, 28, 29, 30, 31, 32, 33, 34, 35, 36, 37, 38, 39, 40, 41, 42, 43, 44, 45, 46, 47, 48, 49, 50, 51, 52, 53, 54, 55, 56, 57, 58, 81, 82, 83, 84, 85, 86, 87, 88, 89, 90, 91, 92, 93, 94, 95, 96, 97, 98, 99, 100, 101, 102, 103, 104, 105, 106, 107, 108, 109, 110] (by decide +kernel) (by decide +kernel)
set_option maxRecDepth 20000 in
theorem gX6_set_X0_prepare : GoodIn wsX6_set (wsV RX6 47 RX0 yX0_prepare wsX0_prepare) := goodIn_app (goodIn_of _ (by decide +kernel)) ggX6_set_X0_prepare
set_option maxRecDepth 20000 in
theorem ggX6_set_X1_changeSetting : GoodIn wsX6_set wsX1_changeSetting := goodIn_r _ [62, 63, 64, 22, 83, 84, 85, 86, 87, 88, 89, 90, 91, 92] (by decide +kernel) (by decide +kernel)
set_option maxRecDepth 20000 in
theorem gX6_set_X1_changeSetting : GoodIn wsX6_set (wsV RX6 80 RX1 yX1_changeSetting wsX1_changeSetting) := goodIn_app (goodIn_of _ (by decide +kernel)) ggX6_set_X1_changeSetting
set_option maxRecDepth 20000 in
theorem ggX6_set_X6_recorded : GoodIn wsX6_set wsX6_recorded := goodIn_r _ [69, 1, 70, 71, 72, 6, 73, 8, 9, 74, 75, 76, 77, 78, 79, 80, 81, 82] (by decide +kernel) (by decide +kernel)
set_option maxRecDepth 20000 in
theorem gX6_set_X6_recorded : GoodIn wsX6_set (wsV RX6 55 RX6 yX6_recorded wsX6_recorded) := goodIn_app (goodIn_of _ (by decide +kernel)) ggX6_set_X6_recorded
theorem dX6_set_0 : decode cX6_set 0 = .ok (.aload_n 0, 1) := by decide +kernel
theorem dX6_set_1 : decode cX6_set 1 = .ok (.getfield 25, 3) := by decide +kernel
theorem dX6_set_4 : decode cX6_set 4 = .ok (.aload_n 0, 1) := by decide +kernel
theorem dX6_set_5 : decode cX6_set 5 = .ok (.getfield 10, 3) := by decide +kernel
theorem dX6_set_8 : decode cX6_set 8 = .ok (.invokevirtual 47, 3) := by decide +kernel
theorem dX6_set_11 : decode cX6_set 11 = .ok (.aload_n 0, 1) := by decide +kernel
theorem dX6_set_12 : decode cX6_set 12 = .ok (.aload_n 0, 1) := by decide +kernel
theorem dX6_set_13 : decode cX6_set 13 = .ok (.getfield 10, 3) := by decide +kernel
theorem dX6_set_16 : decode cX6_set 16 = .ok (.iload_n 1, 1) := by decide +kernel
theorem dX6_set_17 : decode cX6_set 17 = .ok (.iload_n 2, 1) := by decide +kernel
theorem dX6_set_18 : decode cX6_set 18 = .ok (.invokevirtual 80, 3) := by decide +kernel
theorem dX6_set_21 : decode cX6_set 21 = .ok (.invokevirtual 55, 3) := by decide +kernel
theorem dX6_set_24 : decode cX6_set 24 = .ok (.ireturn, 1) := by decide +kernel
set_option maxRecDepth 20000 in
theorem ggX6_lotOf_X4_isKind : GoodIn wsX6_lotOf wsX4_isKind := goodIn_r _ [8] (by decide +kernel) (by decide +kernel)
set_option maxRecDepth 20000 in
theorem gX6_lotOf_X4_isKind : GoodIn wsX6_lotOf (va_wsS RX6 83 yX4_isKind wsX4_isKind) := goodIn_app (goodIn_of _ (by decide +kernel)) ggX6_lotOf_X4_isKind
set_option maxRecDepth 20000 in
theorem ggX6_lotOf_X4_find : GoodIn wsX6_lotOf wsX4_find := goodIn_r _ [12, 13, 14, 32, 33, 34, 35, 36, 37, 38, 39, 40, 41, 42] (by decide +kernel) (by decide +kernel)
set_option maxRecDepth 20000 in
theorem gX6_lotOf_X4_find : GoodIn wsX6_lotOf (wsV RX6 93 RX4 yX4_find wsX4_find) := goodIn_app (goodIn_of _ (by decide +kernel)) ggX6_lotOf_X4_find
theorem dX6_lotOf_0 : decode cX6_lotOf 0 = .ok (.iload_n 1, 1) := by decide +kernel
theorem dX6_lotOf_1 : decode cX6_lotOf 1 = .ok (.invokestatic 83, 3) := by decide +kernel
theorem dX6_lotOf_4 : decode cX6_lotOf 4 = .ok (.ifCond .eq 16, 3) := by decide +kernel
theorem dX6_lotOf_7 : decode cX6_lotOf 7 = .ok (.iload_n 3, 1) := by decide +kernel
theorem dX6_lotOf_8 : decode cX6_lotOf 8 = .ok (.ifCond .lt 12, 3) := by decide +kernel
theorem dX6_lotOf_11 : decode cX6_lotOf 11 = .ok (.iload_n 3, 1) := by decide +kernel
theorem dX6_lotOf_12 : decode cX6_lotOf 12 = .ok (.iconst 1, 1) := by decide +kernel
theorem dX6_lotOf_13 : decode cX6_lotOf 13 = .ok (.if_icmp .gt 7, 3) := by decide +kernel
theorem dX6_lotOf_16 : decode cX6_lotOf 16 = .ok (.iload_n 2, 1) := by decide +kernel
theorem dX6_lotOf_17 : decode cX6_lotOf 17 = .ok (.ifCond .ge 5, 3) := by decide +kernel
theorem dX6_lotOf_20 : decode cX6_lotOf 20 = .ok (.iconst (-1), 1) := by decide +kernel
theorem dX6_lotOf_21 : decode cX6_lotOf 21 = .ok (.ireturn, 1) := by decide +kernel
theorem dX6_lotOf_22 : decode cX6_lotOf 22 = .ok (.aload_n 0, 1) := by decide +kernel
theorem dX6_lotOf_23 : decode cX6_lotOf 23 = .ok (.getfield 10, 3) := by decide +kernel
theorem dX6_lotOf_26 : decode cX6_lotOf 26 = .ok (.getfield 89, 3) := by decide +kernel
theorem dX6_lotOf_29 : decode cX6_lotOf 29 = .ok (.iload_n 1, 1) := by decide +kernel
theorem dX6_lotOf_30 : decode cX6_lotOf 30 = .ok (.iload_n 2, 1) := by decide +kernel
theorem dX6_lotOf_31 : decode cX6_lotOf 31 = .ok (.invokevirtual 93, 3) := by decide +kernel
theorem dX6_lotOf_34 : decode cX6_lotOf 34 = .ok (.istore 4, 2) := by decide +kernel
theorem dX6_lotOf_36 : decode cX6_lotOf 36 = .ok (.iload 4, 2) := by decide +kernel
theorem dX6_lotOf_38 : decode cX6_lotOf 38 = .ok (.ifCond .ge 6, 3) := by decide +kernel
theorem dX6_lotOf_41 : decode cX6_lotOf 41 = .ok (.bipush (-4), 2) := by decide +kernel
theorem dX6_lotOf_43 : decode cX6_lotOf 43 = .ok (.ireturn, 1) := by decide +kernel
theorem dX6_lotOf_44 : decode cX6_lotOf 44 = .ok (.iload_n 3, 1) := by decide +kernel
theorem dX6_lotOf_45 : decode cX6_lotOf 45 = .ok (.ifCond .ne 19, 3) := by decide +kernel
theorem dX6_lotOf_48 : decode cX6_lotOf 48 = .ok (.aload_n 0, 1) := by decide +kernel
theorem dX6_lotOf_49 : decode cX6_lotOf 49 = .ok (.getfield 10, 3) := by decide +kernel
theorem dX6_lotOf_52 : decode cX6_lotOf 52 = .ok (.getfield 89, 3) := by decide +kernel
theorem dX6_lotOf_55 : decode cX6_lotOf 55 = .ok (.getfield 96, 3) := by decide +kernel
theorem dX6_lotOf_58 : decode cX6_lotOf 58 = .ok (.iload 4, 2) := by decide +kernel
theorem dX6_lotOf_60 : decode cX6_lotOf 60 = .ok (.iaload, 1) := by decide +kernel
theorem dX6_lotOf_61 : decode cX6_lotOf 61 = .ok (.goto 16, 3) := by decide +kernel
theorem dX6_lotOf_64 : decode cX6_lotOf 64 = .ok (.aload_n 0, 1) := by decide +kernel
theorem dX6_lotOf_65 : decode cX6_lotOf 65 = .ok (.getfield 10, 3) := by decide +kernel
theorem dX6_lotOf_68 : decode cX6_lotOf 68 = .ok (.getfield 89, 3) := by decide +kernel
theorem dX6_lotOf_71 : decode cX6_lotOf 71 = .ok (.getfield 100, 3) := by decide +kernel
theorem dX6_lotOf_74 : decode cX6_lotOf 74 = .ok (.iload 4, 2) := by decide +kernel
theorem dX6_lotOf_76 : decode cX6_lotOf 76 = .ok (.iaload, 1) := by decide +kernel
theorem dX6_lotOf_77 : decode cX6_lotOf 77 = .ok (.ireturn, 1) := by decide +kernel
set_option maxRecDepth 20000 in
theorem ggX6_storeOf_X4_isKind : GoodIn wsX6_storeOf wsX4_isKind := goodIn_r _ [9] (by decide +kernel) (by decide +kernel)
set_option maxRecDepth 20000 in
theorem gX6_storeOf_X4_isKind : GoodIn wsX6_storeOf (va_wsS RX6 83 yX4_isKind wsX4_isKind) := goodIn_app (goodIn_of _ (by decide +kernel)) ggX6_storeOf_X4_isKind
set_option maxRecDepth 20000 in
theorem ggX6_storeOf_X4_stock : GoodIn wsX6_storeOf wsX4_stock := goodIn_r _ [13, 14, 15, 16, 45, 46, 47, 48, 49, 50, 51, 52, 53, 54, 55] (by decide +kernel) (by decide +kernel)
set_option maxRecDepth 20000 in
theorem gX6_storeOf_X4_stock : GoodIn wsX6_storeOf (wsV RX6 103 RX4 yX4_stock wsX4_stock) := goodIn_app (goodIn_of _ (by decide +kernel)) ggX6_storeOf_X4_stock
set_option maxRecDepth 20000 in
theorem ggX6_storeOf_X4_lotsOfKind : GoodIn wsX6_storeOf wsX4_lotsOfKind := goodIn_r _ [20, 14, 15, 45, 46, 47, 48, 49, 50, 51, 52, 53, 54, 55] (by decide +kernel) (by decide +kernel)
set_option maxRecDepth 20000 in
theorem gX6_storeOf_X4_lotsOfKind : GoodIn wsX6_storeOf (wsV RX6 115 RX4 yX4_lotsOfKind wsX4_lotsOfKind) := goodIn_app (goodIn_of _ (by decide +kernel)) ggX6_storeOf_X4_lotsOfKind
set_option maxRecDepth 20000 in
theorem ggX6_storeOf_X4_amountOnPallet : GoodIn wsX6_storeOf wsX4_amountOnPallet := goodIn_r _ [24, 25, 26, 27, 45, 46, 47, 48, 49, 50, 51, 52, 53, 54, 55] (by decide +kernel) (by decide +kernel)
set_option maxRecDepth 20000 in
theorem gX6_storeOf_X4_amountOnPallet : GoodIn wsX6_storeOf (wsV RX6 118 RX4 yX4_amountOnPallet wsX4_amountOnPallet) := goodIn_app (goodIn_of _ (by decide +kernel)) ggX6_storeOf_X4_amountOnPallet
theorem dX6_storeOf_0 : decode cX6_storeOf 0 = .ok (.iload_n 1, 1) := by decide +kernel
theorem dX6_storeOf_1 : decode cX6_storeOf 1 = .ok (.invokestatic 83, 3) := by decide +kernel
theorem dX6_storeOf_4 : decode cX6_storeOf 4 = .ok (.ifCond .ne 5, 3) := by decide +kernel
theorem dX6_storeOf_7 : decode cX6_storeOf 7 = .ok (.iconst (-1), 1) := by decide +kernel
theorem dX6_storeOf_8 : decode cX6_storeOf 8 = .ok (.ireturn, 1) := by decide +kernel
theorem dX6_storeOf_9 : decode cX6_storeOf 9 = .ok (.aload_n 0, 1) := by decide +kernel
theorem dX6_storeOf_10 : decode cX6_storeOf 10 = .ok (.getfield 10, 3) := by decide +kernel
theorem dX6_storeOf_13 : decode cX6_storeOf 13 = .ok (.getfield 89, 3) := by decide +kernel
theorem dX6_storeOf_16 : decode cX6_storeOf 16 = .ok (.astore_n 3, 1) := by decide +kernel
theorem dX6_storeOf_17 : decode cX6_storeOf 17 = .ok (.iload_n 2, 1) := by decide +kernel
theorem dX6_storeOf_18 : decode cX6_storeOf 18 = .ok (.tableswitch 77 0 5 #[38, 44, 51, 58, 65, 71], 38) := by decide +kernel
theorem dX6_storeOf_56 : decode cX6_storeOf 56 = .ok (.aload_n 3, 1) := by decide +kernel
theorem dX6_storeOf_57 : decode cX6_storeOf 57 = .ok (.iload_n 1, 1) := by decide +kernel
theorem dX6_storeOf_58 : decode cX6_storeOf 58 = .ok (.invokevirtual 103, 3) := by decide +kernel
theorem dX6_storeOf_61 : decode cX6_storeOf 61 = .ok (.ireturn, 1) := by decide +kernel
theorem dX6_storeOf_62 : decode cX6_storeOf 62 = .ok (.aload_n 3, 1) := by decide +kernel
theorem dX6_storeOf_63 : decode cX6_storeOf 63 = .ok (.getfield 106, 3) := by decide +kernel
theorem dX6_storeOf_66 : decode cX6_storeOf 66 = .ok (.iload_n 1, 1) := by decide +kernel
theorem dX6_storeOf_67 : decode cX6_storeOf 67 = .ok (.iaload, 1) := by decide +kernel
theorem dX6_storeOf_68 : decode cX6_storeOf 68 = .ok (.ireturn, 1) := by decide +kernel
theorem dX6_storeOf_69 : decode cX6_storeOf 69 = .ok (.aload_n 3, 1) := by decide +kernel
theorem dX6_storeOf_70 : decode cX6_storeOf 70 = .ok (.getfield 109, 3) := by decide +kernel
theorem dX6_storeOf_73 : decode cX6_storeOf 73 = .ok (.iload_n 1, 1) := by decide +kernel
theorem dX6_storeOf_74 : decode cX6_storeOf 74 = .ok (.iaload, 1) := by decide +kernel
theorem dX6_storeOf_75 : decode cX6_storeOf 75 = .ok (.ireturn, 1) := by decide +kernel
theorem dX6_storeOf_76 : decode cX6_storeOf 76 = .ok (.aload_n 3, 1) := by decide +kernel
theorem dX6_storeOf_77 : decode cX6_storeOf 77 = .ok (.getfield 112, 3) := by decide +kernel
theorem dX6_storeOf_80 : decode cX6_storeOf 80 = .ok (.iload_n 1, 1) := by decide +kernel
theorem dX6_storeOf_81 : decode cX6_storeOf 81 = .ok (.iaload, 1) := by decide +kernel
theorem dX6_storeOf_82 : decode cX6_storeOf 82 = .ok (.ireturn, 1) := by decide +kernel
theorem dX6_storeOf_83 : decode cX6_storeOf 83 = .ok (.aload_n 3, 1) := by decide +kernel
theorem dX6_storeOf_84 : decode cX6_storeOf 84 = .ok (.iload_n 1, 1) := by decide +kernel
theorem dX6_storeOf_85 : decode cX6_storeOf 85 = .ok (.invokevirtual 115, 3) := by decide +kernel
theorem dX6_storeOf_88 : decode cX6_storeOf 88 = .ok (.ireturn, 1) := by decide +kernel
theorem dX6_storeOf_89 : decode cX6_storeOf 89 = .ok (.aload_n 3, 1) := by decide +kernel
theorem dX6_storeOf_90 : decode cX6_storeOf 90 = .ok (.iload_n 1, 1) := by decide +kernel
theorem dX6_storeOf_91 : decode cX6_storeOf 91 = .ok (.invokevirtual 118, 3) := by decide +kernel
theorem dX6_storeOf_94 : decode cX6_storeOf 94 = .ok (.ireturn, 1) := by decide +kernel
theorem dX6_storeOf_95 : decode cX6_storeOf 95 = .ok (.iconst (-1), 1) := by decide +kernel
theorem dX6_storeOf_96 : decode cX6_storeOf 96 = .ok (.ireturn, 1) := by decide +kernel
set_option maxRecDepth 20000 in
theorem ggX6_partyOf_X2_has : GoodIn wsX6_partyOf wsX2_has := goodIn_r _ [17, 18, 36, 37, 38, 39, 40, 41, 42] (by decide +kernel) (by decide +kernel)
set_option maxRecDepth 20000 in
theorem gX6_partyOf_X2_has : GoodIn wsX6_partyOf (wsV RX6 125 RX2 yX2_has wsX2_has) := goodIn_app (goodIn_of _ (by decide +kernel)) ggX6_partyOf_X2_has
theorem dX6_partyOf_0 : decode cX6_partyOf 0 = .ok (.aload_n 0, 1) := by decide +kernel
theorem dX6_partyOf_1 : decode cX6_partyOf 1 = .ok (.getfield 10, 3) := by decide +kernel
theorem dX6_partyOf_4 : decode cX6_partyOf 4 = .ok (.getfield 121, 3) := by decide +kernel
theorem dX6_partyOf_7 : decode cX6_partyOf 7 = .ok (.astore_n 3, 1) := by decide +kernel
theorem dX6_partyOf_8 : decode cX6_partyOf 8 = .ok (.aload_n 3, 1) := by decide +kernel
theorem dX6_partyOf_9 : decode cX6_partyOf 9 = .ok (.iload_n 1, 1) := by decide +kernel
theorem dX6_partyOf_10 : decode cX6_partyOf 10 = .ok (.invokevirtual 125, 3) := by decide +kernel
theorem dX6_partyOf_13 : decode cX6_partyOf 13 = .ok (.ifCond .ne 5, 3) := by decide +kernel
theorem dX6_partyOf_16 : decode cX6_partyOf 16 = .ok (.iconst (-1), 1) := by decide +kernel
theorem dX6_partyOf_17 : decode cX6_partyOf 17 = .ok (.ireturn, 1) := by decide +kernel
theorem dX6_partyOf_18 : decode cX6_partyOf 18 = .ok (.iload_n 2, 1) := by decide +kernel
theorem dX6_partyOf_19 : decode cX6_partyOf 19 = .ok (.tableswitch 115 0 6 #[41, 48, 55, 62, 69, 76, 97], 41) := by decide +kernel
theorem dX6_partyOf_60 : decode cX6_partyOf 60 = .ok (.aload_n 3, 1) := by decide +kernel
theorem dX6_partyOf_61 : decode cX6_partyOf 61 = .ok (.getfield 130, 3) := by decide +kernel
theorem dX6_partyOf_64 : decode cX6_partyOf 64 = .ok (.iload_n 1, 1) := by decide +kernel
theorem dX6_partyOf_65 : decode cX6_partyOf 65 = .ok (.iaload, 1) := by decide +kernel
theorem dX6_partyOf_66 : decode cX6_partyOf 66 = .ok (.ireturn, 1) := by decide +kernel
theorem dX6_partyOf_67 : decode cX6_partyOf 67 = .ok (.aload_n 3, 1) := by decide +kernel
theorem dX6_partyOf_68 : decode cX6_partyOf 68 = .ok (.getfield 133, 3) := by decide +kernel
theorem dX6_partyOf_71 : decode cX6_partyOf 71 = .ok (.iload_n 1, 1) := by decide +kernel
theorem dX6_partyOf_72 : decode cX6_partyOf 72 = .ok (.iaload, 1) := by decide +kernel
theorem dX6_partyOf_73 : decode cX6_partyOf 73 = .ok (.ireturn, 1) := by decide +kernel
theorem dX6_partyOf_74 : decode cX6_partyOf 74 = .ok (.aload_n 3, 1) := by decide +kernel
theorem dX6_partyOf_75 : decode cX6_partyOf 75 = .ok (.getfield 136, 3) := by decide +kernel
theorem dX6_partyOf_78 : decode cX6_partyOf 78 = .ok (.iload_n 1, 1) := by decide +kernel
theorem dX6_partyOf_79 : decode cX6_partyOf 79 = .ok (.iaload, 1) := by decide +kernel
theorem dX6_partyOf_80 : decode cX6_partyOf 80 = .ok (.ireturn, 1) := by decide +kernel
theorem dX6_partyOf_81 : decode cX6_partyOf 81 = .ok (.aload_n 3, 1) := by decide +kernel
theorem dX6_partyOf_82 : decode cX6_partyOf 82 = .ok (.getfield 139, 3) := by decide +kernel
theorem dX6_partyOf_85 : decode cX6_partyOf 85 = .ok (.iload_n 1, 1) := by decide +kernel
theorem dX6_partyOf_86 : decode cX6_partyOf 86 = .ok (.iaload, 1) := by decide +kernel
theorem dX6_partyOf_87 : decode cX6_partyOf 87 = .ok (.ireturn, 1) := by decide +kernel
theorem dX6_partyOf_88 : decode cX6_partyOf 88 = .ok (.aload_n 3, 1) := by decide +kernel
theorem dX6_partyOf_89 : decode cX6_partyOf 89 = .ok (.getfield 142, 3) := by decide +kernel
theorem dX6_partyOf_92 : decode cX6_partyOf 92 = .ok (.iload_n 1, 1) := by decide +kernel
theorem dX6_partyOf_93 : decode cX6_partyOf 93 = .ok (.iaload, 1) := by decide +kernel
theorem dX6_partyOf_94 : decode cX6_partyOf 94 = .ok (.ireturn, 1) := by decide +kernel
theorem dX6_partyOf_95 : decode cX6_partyOf 95 = .ok (.aload_n 3, 1) := by decide +kernel
theorem dX6_partyOf_96 : decode cX6_partyOf 96 = .ok (.getfield 145, 3) := by decide +kernel
theorem dX6_partyOf_99 : decode cX6_partyOf 99 = .ok (.iload_n 1, 1) := by decide +kernel
theorem dX6_partyOf_100 : decode cX6_partyOf 100 = .ok (.iaload, 1) := by decide +kernel
theorem dX6_partyOf_101 : decode cX6_partyOf 101 = .ok (.ifCond .ge 8, 3) := by decide +kernel
theorem dX6_partyOf_104 : decode cX6_partyOf 104 = .ok (.bipush (-4), 2) := by decide +kernel
theorem dX6_partyOf_106 : decode cX6_partyOf 106 = .ok (.goto 9, 3) := by decide +kernel
theorem dX6_partyOf_109 : decode cX6_partyOf 109 = .ok (.aload_n 3, 1) := by decide +kernel
theorem dX6_partyOf_110 : decode cX6_partyOf 110 = .ok (.getfield 145, 3) := by decide +kernel
theorem dX6_partyOf_113 : decode cX6_partyOf 113 = .ok (.iload_n 1, 1) := by decide +kernel
theorem dX6_partyOf_114 : decode cX6_partyOf 114 = .ok (.iaload, 1) := by decide +kernel
theorem dX6_partyOf_115 : decode cX6_partyOf 115 = .ok (.ireturn, 1) := by decide +kernel
theorem dX6_partyOf_116 : decode cX6_partyOf 116 = .ok (.iconst 0, 1) := by decide +kernel
theorem dX6_partyOf_117 : decode cX6_partyOf 117 = .ok (.aload_n 3, 1) := by decide +kernel
theorem dX6_partyOf_118 : decode cX6_partyOf 118 = .ok (.getfield 142, 3) := by decide +kernel
theorem dX6_partyOf_121 : decode cX6_partyOf 121 = .ok (.iload_n 1, 1) := by decide +kernel
theorem dX6_partyOf_122 : decode cX6_partyOf 122 = .ok (.iaload, 1) := by decide +kernel
theorem dX6_partyOf_123 : decode cX6_partyOf 123 = .ok (.aload_n 3, 1) := by decide +kernel
theorem dX6_partyOf_124 : decode cX6_partyOf 124 = .ok (.getfield 136, 3) := by decide +kernel
theorem dX6_partyOf_127 : decode cX6_partyOf 127 = .ok (.iload_n 1, 1) := by decide +kernel
theorem dX6_partyOf_128 : decode cX6_partyOf 128 = .ok (.iaload, 1) := by decide +kernel
theorem dX6_partyOf_129 : decode cX6_partyOf 129 = .ok (.isub, 1) := by decide +kernel
theorem dX6_partyOf_130 : decode cX6_partyOf 130 = .ok (.invokestatic 148, 3) := by decide +kernel
theorem dX6_partyOf_133 : decode cX6_partyOf 133 = .ok (.ireturn, 1) := by decide +kernel
theorem dX6_partyOf_134 : decode cX6_partyOf 134 = .ok (.iconst (-1), 1) := by decide +kernel
theorem dX6_partyOf_135 : decode cX6_partyOf 135 = .ok (.ireturn, 1) := by decide +kernel
set_option maxRecDepth 20000 in
theorem ggX6_count_X2_withStatus : GoodIn wsX6_count wsX2_withStatus := goodIn_r _ [21, 22, 23, 58, 59, 60, 61, 62, 63, 64] (by decide +kernel) (by decide +kernel)
set_option maxRecDepth 20000 in
theorem gX6_count_X2_withStatus : GoodIn wsX6_count (wsV RX6 157 RX2 yX2_withStatus wsX2_withStatus) := goodIn_app (goodIn_of _ (by decide +kernel)) ggX6_count_X2_withStatus
set_option maxRecDepth 20000 in
theorem ggX6_count_X2_guests : GoodIn wsX6_count wsX2_guests := goodIn_r _ [27, 22, 23, 28, 58, 59, 60, 61, 62, 63, 64] (by decide +kernel) (by decide +kernel)
set_option maxRecDepth 20000 in
theorem gX6_count_X2_guests : GoodIn wsX6_count (wsV RX6 160 RX2 yX2_guests wsX2_guests) := goodIn_app (goodIn_of _ (by decide +kernel)) ggX6_count_X2_guests
set_option maxRecDepth 20000 in
theorem ggX6_count_X1_isStorm : GoodIn wsX6_count wsX1_isStorm := goodIn_r _ [33, 34, 35, 48, 49, 50, 51, 52, 53, 54, 55, 56, 57] (by decide +kernel) (by decide +kernel)
set_option maxRecDepth 20000 in
theorem gX6_count_X1_isStorm : GoodIn wsX6_count (wsV RX6 165 RX1 yX1_isStorm wsX1_isStorm) := goodIn_app (goodIn_of _ (by decide +kernel)) ggX6_count_X1_isStorm
set_option maxRecDepth 20000 in
theorem ggX6_count_X1_settingAt : GoodIn wsX6_count wsX1_settingAt := goodIn_r _ [39, 40, 48, 49, 50, 51, 52, 53, 54, 55, 56, 57] (by decide +kernel) (by decide +kernel)
set_option maxRecDepth 20000 in
theorem gX6_count_X1_settingAt : GoodIn wsX6_count (wsV RX6 191 RX1 yX1_settingAt wsX1_settingAt) := goodIn_app (goodIn_of _ (by decide +kernel)) ggX6_count_X1_settingAt
theorem dX6_count_0 : decode cX6_count 0 = .ok (.iload_n 1, 1) := by decide +kernel
theorem dX6_count_1 : decode cX6_count 1 = .ok (.tableswitch 225 0 14 #[75, 86, 98, 110, 121, 129, 145, 153, 164, 172, 180, 188, 196, 204, 212], 75) := by decide +kernel
theorem dX6_count_76 : decode cX6_count 76 = .ok (.aload_n 0, 1) := by decide +kernel
theorem dX6_count_77 : decode cX6_count 77 = .ok (.getfield 10, 3) := by decide +kernel
theorem dX6_count_80 : decode cX6_count 80 = .ok (.getfield 121, 3) := by decide +kernel
theorem dX6_count_83 : decode cX6_count 83 = .ok (.getfield 153, 3) := by decide +kernel
theorem dX6_count_86 : decode cX6_count 86 = .ok (.ireturn, 1) := by decide +kernel
theorem dX6_count_87 : decode cX6_count 87 = .ok (.aload_n 0, 1) := by decide +kernel
theorem dX6_count_88 : decode cX6_count 88 = .ok (.getfield 10, 3) := by decide +kernel
theorem dX6_count_91 : decode cX6_count 91 = .ok (.getfield 121, 3) := by decide +kernel
theorem dX6_count_94 : decode cX6_count 94 = .ok (.iconst 0, 1) := by decide +kernel
theorem dX6_count_95 : decode cX6_count 95 = .ok (.invokevirtual 157, 3) := by decide +kernel
theorem dX6_count_98 : decode cX6_count 98 = .ok (.ireturn, 1) := by decide +kernel
theorem dX6_count_99 : decode cX6_count 99 = .ok (.aload_n 0, 1) := by decide +kernel
theorem dX6_count_100 : decode cX6_count 100 = .ok (.getfield 10, 3) := by decide +kernel
theorem dX6_count_103 : decode cX6_count 103 = .ok (.getfield 121, 3) := by decide +kernel
theorem dX6_count_106 : decode cX6_count 106 = .ok (.iconst 1, 1) := by decide +kernel
theorem dX6_count_107 : decode cX6_count 107 = .ok (.invokevirtual 157, 3) := by decide +kernel
theorem dX6_count_110 : decode cX6_count 110 = .ok (.ireturn, 1) := by decide +kernel
theorem dX6_count_111 : decode cX6_count 111 = .ok (.aload_n 0, 1) := by decide +kernel
theorem dX6_count_112 : decode cX6_count 112 = .ok (.getfield 10, 3) := by decide +kernel
theorem dX6_count_115 : decode cX6_count 115 = .ok (.getfield 121, 3) := by decide +kernel
theorem dX6_count_118 : decode cX6_count 118 = .ok (.invokevirtual 160, 3) := by decide +kernel
theorem dX6_count_121 : decode cX6_count 121 = .ok (.ireturn, 1) := by decide +kernel
theorem dX6_count_122 : decode cX6_count 122 = .ok (.aload_n 0, 1) := by decide +kernel
theorem dX6_count_123 : decode cX6_count 123 = .ok (.getfield 10, 3) := by decide +kernel
theorem dX6_count_126 : decode cX6_count 126 = .ok (.getfield 163, 3) := by decide +kernel
theorem dX6_count_129 : decode cX6_count 129 = .ok (.ireturn, 1) := by decide +kernel
theorem dX6_count_130 : decode cX6_count 130 = .ok (.aload_n 0, 1) := by decide +kernel
theorem dX6_count_131 : decode cX6_count 131 = .ok (.getfield 10, 3) := by decide +kernel
theorem dX6_count_134 : decode cX6_count 134 = .ok (.invokevirtual 165, 3) := by decide +kernel
theorem dX6_count_137 : decode cX6_count 137 = .ok (.ifCond .eq 7, 3) := by decide +kernel
theorem dX6_count_140 : decode cX6_count 140 = .ok (.iconst 1, 1) := by decide +kernel
theorem dX6_count_141 : decode cX6_count 141 = .ok (.goto 4, 3) := by decide +kernel
theorem dX6_count_144 : decode cX6_count 144 = .ok (.iconst 0, 1) := by decide +kernel
theorem dX6_count_145 : decode cX6_count 145 = .ok (.ireturn, 1) := by decide +kernel
theorem dX6_count_146 : decode cX6_count 146 = .ok (.aload_n 0, 1) := by decide +kernel
theorem dX6_count_147 : decode cX6_count 147 = .ok (.getfield 10, 3) := by decide +kernel
theorem dX6_count_150 : decode cX6_count 150 = .ok (.getfield 169, 3) := by decide +kernel
theorem dX6_count_153 : decode cX6_count 153 = .ok (.ireturn, 1) := by decide +kernel
theorem dX6_count_154 : decode cX6_count 154 = .ok (.aload_n 0, 1) := by decide +kernel
theorem dX6_count_155 : decode cX6_count 155 = .ok (.getfield 10, 3) := by decide +kernel
theorem dX6_count_158 : decode cX6_count 158 = .ok (.getfield 89, 3) := by decide +kernel
theorem dX6_count_161 : decode cX6_count 161 = .ok (.getfield 172, 3) := by decide +kernel
theorem dX6_count_164 : decode cX6_count 164 = .ok (.ireturn, 1) := by decide +kernel
theorem dX6_count_165 : decode cX6_count 165 = .ok (.aload_n 0, 1) := by decide +kernel
theorem dX6_count_166 : decode cX6_count 166 = .ok (.getfield 10, 3) := by decide +kernel
theorem dX6_count_169 : decode cX6_count 169 = .ok (.getfield 175, 3) := by decide +kernel
theorem dX6_count_172 : decode cX6_count 172 = .ok (.ireturn, 1) := by decide +kernel
theorem dX6_count_173 : decode cX6_count 173 = .ok (.aload_n 0, 1) := by decide +kernel
theorem dX6_count_174 : decode cX6_count 174 = .ok (.getfield 10, 3) := by decide +kernel
theorem dX6_count_177 : decode cX6_count 177 = .ok (.getfield 178, 3) := by decide +kernel
theorem dX6_count_180 : decode cX6_count 180 = .ok (.ireturn, 1) := by decide +kernel
theorem dX6_count_181 : decode cX6_count 181 = .ok (.aload_n 0, 1) := by decide +kernel
theorem dX6_count_182 : decode cX6_count 182 = .ok (.getfield 10, 3) := by decide +kernel
theorem dX6_count_185 : decode cX6_count 185 = .ok (.getfield 181, 3) := by decide +kernel
theorem dX6_count_188 : decode cX6_count 188 = .ok (.ireturn, 1) := by decide +kernel
theorem dX6_count_189 : decode cX6_count 189 = .ok (.aload_n 0, 1) := by decide +kernel
theorem dX6_count_190 : decode cX6_count 190 = .ok (.getfield 10, 3) := by decide +kernel
theorem dX6_count_193 : decode cX6_count 193 = .ok (.getfield 184, 3) := by decide +kernel
theorem dX6_count_196 : decode cX6_count 196 = .ok (.ireturn, 1) := by decide +kernel
theorem dX6_count_197 : decode cX6_count 197 = .ok (.aload_n 0, 1) := by decide +kernel
theorem dX6_count_198 : decode cX6_count 198 = .ok (.getfield 25, 3) := by decide +kernel
theorem dX6_count_201 : decode cX6_count 201 = .ok (.getfield 187, 3) := by decide +kernel
