theorem dX4_init_0 : decode cX4_init 0 = .ok (.aload_n 0, 1) := by decide +kernel
theorem dX4_init_1 : decode cX4_init 1 = .ok (.invokespecial 1, 3) := by decide +kernel
theorem dX4_init_4 : decode cX4_init 4 = .ok (.aload_n 0, 1) := by decide +kernel
theorem dX4_init_5 : decode cX4_init 5 = .ok (.bipush 20, 2) := by decide +kernel
theorem dX4_init_7 : decode cX4_init 7 = .ok (.newarray .int, 2) := by decide +kernel
theorem dX4_init_9 : decode cX4_init 9 = .ok (.putfield 9, 3) := by decide +kernel
theorem dX4_init_12 : decode cX4_init 12 = .ok (.aload_n 0, 1) := by decide +kernel
theorem dX4_init_13 : decode cX4_init 13 = .ok (.bipush 20, 2) := by decide +kernel
theorem dX4_init_15 : decode cX4_init 15 = .ok (.newarray .int, 2) := by decide +kernel
theorem dX4_init_17 : decode cX4_init 17 = .ok (.putfield 13, 3) := by decide +kernel
theorem dX4_init_20 : decode cX4_init 20 = .ok (.aload_n 0, 1) := by decide +kernel
theorem dX4_init_21 : decode cX4_init 21 = .ok (.bipush 20, 2) := by decide +kernel
theorem dX4_init_23 : decode cX4_init 23 = .ok (.newarray .int, 2) := by decide +kernel
theorem dX4_init_25 : decode cX4_init 25 = .ok (.putfield 16, 3) := by decide +kernel
theorem dX4_init_28 : decode cX4_init 28 = .ok (.aload_n 0, 1) := by decide +kernel
theorem dX4_init_29 : decode cX4_init 29 = .ok (.bipush 6, 2) := by decide +kernel
theorem dX4_init_31 : decode cX4_init 31 = .ok (.newarray .int, 2) := by decide +kernel
theorem dX4_init_33 : decode cX4_init 33 = .ok (.putfield 19, 3) := by decide +kernel
theorem dX4_init_36 : decode cX4_init 36 = .ok (.aload_n 0, 1) := by decide +kernel
theorem dX4_init_37 : decode cX4_init 37 = .ok (.bipush 6, 2) := by decide +kernel
theorem dX4_init_39 : decode cX4_init 39 = .ok (.newarray .int, 2) := by decide +kernel
theorem dX4_init_41 : decode cX4_init 41 = .ok (.putfield 22, 3) := by decide +kernel
theorem dX4_init_44 : decode cX4_init 44 = .ok (.aload_n 0, 1) := by decide +kernel
theorem dX4_init_45 : decode cX4_init 45 = .ok (.bipush 6, 2) := by decide +kernel
theorem dX4_init_47 : decode cX4_init 47 = .ok (.newarray .int, 2) := by decide +kernel
theorem dX4_init_49 : decode cX4_init 49 = .ok (.putfield 25, 3) := by decide +kernel
theorem dX4_init_52 : decode cX4_init 52 = .ok (.aload_n 0, 1) := by decide +kernel
theorem dX4_init_53 : decode cX4_init 53 = .ok (.iconst 3, 1) := by decide +kernel
theorem dX4_init_54 : decode cX4_init 54 = .ok (.newarray .int, 2) := by decide +kernel
theorem dX4_init_56 : decode cX4_init 56 = .ok (.putfield 28, 3) := by decide +kernel
theorem dX4_init_59 : decode cX4_init 59 = .ok (.aload_n 0, 1) := by decide +kernel
theorem dX4_init_60 : decode cX4_init 60 = .ok (.iconst 3, 1) := by decide +kernel
theorem dX4_init_61 : decode cX4_init 61 = .ok (.newarray .int, 2) := by decide +kernel
theorem dX4_init_63 : decode cX4_init 63 = .ok (.putfield 31, 3) := by decide +kernel
theorem dX4_init_66 : decode cX4_init 66 = .ok (.aload_n 0, 1) := by decide +kernel
theorem dX4_init_67 : decode cX4_init 67 = .ok (.iconst 3, 1) := by decide +kernel
theorem dX4_init_68 : decode cX4_init 68 = .ok (.newarray .int, 2) := by decide +kernel
theorem dX4_init_70 : decode cX4_init 70 = .ok (.putfield 34, 3) := by decide +kernel
theorem dX4_init_73 : decode cX4_init 73 = .ok (.return_, 1) := by decide +kernel
theorem dX4_isKind_0 : decode cX4_isKind 0 = .ok (.iload_n 0, 1) := by decide +kernel
theorem dX4_isKind_1 : decode cX4_isKind 1 = .ok (.ifCond .lt 12, 3) := by decide +kernel
theorem dX4_isKind_4 : decode cX4_isKind 4 = .ok (.iload_n 0, 1) := by decide +kernel
theorem dX4_isKind_5 : decode cX4_isKind 5 = .ok (.iconst 3, 1) := by decide +kernel
theorem dX4_isKind_6 : decode cX4_isKind 6 = .ok (.if_icmp .ge 7, 3) := by decide +kernel
theorem dX4_isKind_9 : decode cX4_isKind 9 = .ok (.iconst 1, 1) := by decide +kernel
theorem dX4_isKind_10 : decode cX4_isKind 10 = .ok (.goto 4, 3) := by decide +kernel
theorem dX4_isKind_13 : decode cX4_isKind 13 = .ok (.iconst 0, 1) := by decide +kernel
theorem dX4_isKind_14 : decode cX4_isKind 14 = .ok (.ireturn, 1) := by decide +kernel
theorem dX4_copyFrom_0 : decode cX4_copyFrom 0 = .ok (.aload_n 1, 1) := by decide +kernel
theorem dX4_copyFrom_1 : decode cX4_copyFrom 1 = .ok (.getfield 9, 3) := by decide +kernel
theorem dX4_copyFrom_4 : decode cX4_copyFrom 4 = .ok (.iconst 0, 1) := by decide +kernel
theorem dX4_copyFrom_5 : decode cX4_copyFrom 5 = .ok (.aload_n 0, 1) := by decide +kernel
theorem dX4_copyFrom_6 : decode cX4_copyFrom 6 = .ok (.getfield 9, 3) := by decide +kernel
theorem dX4_copyFrom_9 : decode cX4_copyFrom 9 = .ok (.iconst 0, 1) := by decide +kernel
theorem dX4_copyFrom_10 : decode cX4_copyFrom 10 = .ok (.bipush 20, 2) := by decide +kernel
theorem dX4_copyFrom_12 : decode cX4_copyFrom 12 = .ok (.invokestatic 37, 3) := by decide +kernel
theorem dX4_copyFrom_15 : decode cX4_copyFrom 15 = .ok (.aload_n 1, 1) := by decide +kernel
theorem dX4_copyFrom_16 : decode cX4_copyFrom 16 = .ok (.getfield 13, 3) := by decide +kernel
theorem dX4_copyFrom_19 : decode cX4_copyFrom 19 = .ok (.iconst 0, 1) := by decide +kernel
theorem dX4_copyFrom_20 : decode cX4_copyFrom 20 = .ok (.aload_n 0, 1) := by decide +kernel
theorem dX4_copyFrom_21 : decode cX4_copyFrom 21 = .ok (.getfield 13, 3) := by decide +kernel
theorem dX4_copyFrom_24 : decode cX4_copyFrom 24 = .ok (.iconst 0, 1) := by decide +kernel
theorem dX4_copyFrom_25 : decode cX4_copyFrom 25 = .ok (.bipush 20, 2) := by decide +kernel
theorem dX4_copyFrom_27 : decode cX4_copyFrom 27 = .ok (.invokestatic 37, 3) := by decide +kernel
theorem dX4_copyFrom_30 : decode cX4_copyFrom 30 = .ok (.aload_n 1, 1) := by decide +kernel
theorem dX4_copyFrom_31 : decode cX4_copyFrom 31 = .ok (.getfield 16, 3) := by decide +kernel
theorem dX4_copyFrom_34 : decode cX4_copyFrom 34 = .ok (.iconst 0, 1) := by decide +kernel
theorem dX4_copyFrom_35 : decode cX4_copyFrom 35 = .ok (.aload_n 0, 1) := by decide +kernel
theorem dX4_copyFrom_36 : decode cX4_copyFrom 36 = .ok (.getfield 16, 3) := by decide +kernel
theorem dX4_copyFrom_39 : decode cX4_copyFrom 39 = .ok (.iconst 0, 1) := by decide +kernel
theorem dX4_copyFrom_40 : decode cX4_copyFrom 40 = .ok (.bipush 20, 2) := by decide +kernel
theorem dX4_copyFrom_42 : decode cX4_copyFrom 42 = .ok (.invokestatic 37, 3) := by decide +kernel
theorem dX4_copyFrom_45 : decode cX4_copyFrom 45 = .ok (.aload_n 1, 1) := by decide +kernel
theorem dX4_copyFrom_46 : decode cX4_copyFrom 46 = .ok (.getfield 19, 3) := by decide +kernel
theorem dX4_copyFrom_49 : decode cX4_copyFrom 49 = .ok (.iconst 0, 1) := by decide +kernel
theorem dX4_copyFrom_50 : decode cX4_copyFrom 50 = .ok (.aload_n 0, 1) := by decide +kernel
theorem dX4_copyFrom_51 : decode cX4_copyFrom 51 = .ok (.getfield 19, 3) := by decide +kernel
theorem dX4_copyFrom_54 : decode cX4_copyFrom 54 = .ok (.iconst 0, 1) := by decide +kernel
theorem dX4_copyFrom_55 : decode cX4_copyFrom 55 = .ok (.bipush 6, 2) := by decide +kernel
theorem dX4_copyFrom_57 : decode cX4_copyFrom 57 = .ok (.invokestatic 37, 3) := by decide +kernel
theorem dX4_copyFrom_60 : decode cX4_copyFrom 60 = .ok (.aload_n 1, 1) := by decide +kernel
theorem dX4_copyFrom_61 : decode cX4_copyFrom 61 = .ok (.getfield 22, 3) := by decide +kernel
theorem dX4_copyFrom_64 : decode cX4_copyFrom 64 = .ok (.iconst 0, 1) := by decide +kernel
theorem dX4_copyFrom_65 : decode cX4_copyFrom 65 = .ok (.aload_n 0, 1) := by decide +kernel
theorem dX4_copyFrom_66 : decode cX4_copyFrom 66 = .ok (.getfield 22, 3) := by decide +kernel
theorem dX4_copyFrom_69 : decode cX4_copyFrom 69 = .ok (.iconst 0, 1) := by decide +kernel
theorem dX4_copyFrom_70 : decode cX4_copyFrom 70 = .ok (.bipush 6, 2) := by decide +kernel
theorem dX4_copyFrom_72 : decode cX4_copyFrom 72 = .ok (.invokestatic 37, 3) := by decide +kernel
theorem dX4_copyFrom_75 : decode cX4_copyFrom 75 = .ok (.aload_n 1, 1) := by decide +kernel
theorem dX4_copyFrom_76 : decode cX4_copyFrom 76 = .ok (.getfield 25, 3) := by decide +kernel
theorem dX4_copyFrom_79 : decode cX4_copyFrom 79 = .ok (.iconst 0, 1) := by decide +kernel
theorem dX4_copyFrom_80 : decode cX4_copyFrom 80 = .ok (.aload_n 0, 1) := by decide +kernel
theorem dX4_copyFrom_81 : decode cX4_copyFrom 81 = .ok (.getfield 25, 3) := by decide +kernel
theorem dX4_copyFrom_84 : decode cX4_copyFrom 84 = .ok (.iconst 0, 1) := by decide +kernel
theorem dX4_copyFrom_85 : decode cX4_copyFrom 85 = .ok (.bipush 6, 2) := by decide +kernel
theorem dX4_copyFrom_87 : decode cX4_copyFrom 87 = .ok (.invokestatic 37, 3) := by decide +kernel
theorem dX4_copyFrom_90 : decode cX4_copyFrom 90 = .ok (.aload_n 1, 1) := by decide +kernel
theorem dX4_copyFrom_91 : decode cX4_copyFrom 91 = .ok (.getfield 28, 3) := by decide +kernel
theorem dX4_copyFrom_94 : decode cX4_copyFrom 94 = .ok (.iconst 0, 1) := by decide +kernel
theorem dX4_copyFrom_95 : decode cX4_copyFrom 95 = .ok (.aload_n 0, 1) := by decide +kernel
theorem dX4_copyFrom_96 : decode cX4_copyFrom 96 = .ok (.getfield 28, 3) := by decide +kernel
theorem dX4_copyFrom_99 : decode cX4_copyFrom 99 = .ok (.iconst 0, 1) := by decide +kernel
theorem dX4_copyFrom_100 : decode cX4_copyFrom 100 = .ok (.iconst 3, 1) := by decide +kernel
theorem dX4_copyFrom_101 : decode cX4_copyFrom 101 = .ok (.invokestatic 37, 3) := by decide +kernel
theorem dX4_copyFrom_104 : decode cX4_copyFrom 104 = .ok (.aload_n 1, 1) := by decide +kernel
theorem dX4_copyFrom_105 : decode cX4_copyFrom 105 = .ok (.getfield 31, 3) := by decide +kernel
theorem dX4_copyFrom_108 : decode cX4_copyFrom 108 = .ok (.iconst 0, 1) := by decide +kernel
theorem dX4_copyFrom_109 : decode cX4_copyFrom 109 = .ok (.aload_n 0, 1) := by decide +kernel
theorem dX4_copyFrom_110 : decode cX4_copyFrom 110 = .ok (.getfield 31, 3) := by decide +kernel
theorem dX4_copyFrom_113 : decode cX4_copyFrom 113 = .ok (.iconst 0, 1) := by decide +kernel
theorem dX4_copyFrom_114 : decode cX4_copyFrom 114 = .ok (.iconst 3, 1) := by decide +kernel
theorem dX4_copyFrom_115 : decode cX4_copyFrom 115 = .ok (.invokestatic 37, 3) := by decide +kernel
theorem dX4_copyFrom_118 : decode cX4_copyFrom 118 = .ok (.aload_n 1, 1) := by decide +kernel
theorem dX4_copyFrom_119 : decode cX4_copyFrom 119 = .ok (.getfield 34, 3) := by decide +kernel
theorem dX4_copyFrom_122 : decode cX4_copyFrom 122 = .ok (.iconst 0, 1) := by decide +kernel
theorem dX4_copyFrom_123 : decode cX4_copyFrom 123 = .ok (.aload_n 0, 1) := by decide +kernel
theorem dX4_copyFrom_124 : decode cX4_copyFrom 124 = .ok (.getfield 34, 3) := by decide +kernel
theorem dX4_copyFrom_127 : decode cX4_copyFrom 127 = .ok (.iconst 0, 1) := by decide +kernel
theorem dX4_copyFrom_128 : decode cX4_copyFrom 128 = .ok (.iconst 3, 1) := by decide +kernel
theorem dX4_copyFrom_129 : decode cX4_copyFrom 129 = .ok (.invokestatic 37, 3) := by decide +kernel
theorem dX4_copyFrom_132 : decode cX4_copyFrom 132 = .ok (.aload_n 0, 1) := by decide +kernel
theorem dX4_copyFrom_133 : decode cX4_copyFrom 133 = .ok (.aload_n 1, 1) := by decide +kernel
theorem dX4_copyFrom_134 : decode cX4_copyFrom 134 = .ok (.getfield 43, 3) := by decide +kernel
theorem dX4_copyFrom_137 : decode cX4_copyFrom 137 = .ok (.putfield 43, 3) := by decide +kernel
theorem dX4_copyFrom_140 : decode cX4_copyFrom 140 = .ok (.aload_n 0, 1) := by decide +kernel
theorem dX4_copyFrom_141 : decode cX4_copyFrom 141 = .ok (.aload_n 1, 1) := by decide +kernel
theorem dX4_copyFrom_142 : decode cX4_copyFrom 142 = .ok (.getfield 47, 3) := by decide +kernel
theorem dX4_copyFrom_145 : decode cX4_copyFrom 145 = .ok (.putfield 47, 3) := by decide +kernel
theorem dX4_copyFrom_148 : decode cX4_copyFrom 148 = .ok (.return_, 1) := by decide +kernel
theorem dX4_addToPallet_0 : decode cX4_addToPallet 0 = .ok (.aload_n 0, 1) := by decide +kernel
theorem dX4_addToPallet_1 : decode cX4_addToPallet 1 = .ok (.getfield 47, 3) := by decide +kernel
theorem dX4_addToPallet_4 : decode cX4_addToPallet 4 = .ok (.bipush 6, 2) := by decide +kernel
theorem dX4_addToPallet_6 : decode cX4_addToPallet 6 = .ok (.if_icmp .lt 4, 3) := by decide +kernel
theorem dX4_addToPallet_9 : decode cX4_addToPallet 9 = .ok (.return_, 1) := by decide +kernel
theorem dX4_addToPallet_10 : decode cX4_addToPallet 10 = .ok (.aload_n 0, 1) := by decide +kernel
theorem dX4_addToPallet_11 : decode cX4_addToPallet 11 = .ok (.getfield 19, 3) := by decide +kernel
theorem dX4_addToPallet_14 : decode cX4_addToPallet 14 = .ok (.aload_n 0, 1) := by decide +kernel
theorem dX4_addToPallet_15 : decode cX4_addToPallet 15 = .ok (.getfield 47, 3) := by decide +kernel
theorem dX4_addToPallet_18 : decode cX4_addToPallet 18 = .ok (.iload_n 1, 1) := by decide +kernel
theorem dX4_addToPallet_19 : decode cX4_addToPallet 19 = .ok (.iastore, 1) := by decide +kernel
theorem dX4_addToPallet_20 : decode cX4_addToPallet 20 = .ok (.aload_n 0, 1) := by decide +kernel
theorem dX4_addToPallet_21 : decode cX4_addToPallet 21 = .ok (.getfield 22, 3) := by decide +kernel
theorem dX4_addToPallet_24 : decode cX4_addToPallet 24 = .ok (.aload_n 0, 1) := by decide +kernel
theorem dX4_addToPallet_25 : decode cX4_addToPallet 25 = .ok (.getfield 47, 3) := by decide +kernel
theorem dX4_addToPallet_28 : decode cX4_addToPallet 28 = .ok (.iload_n 2, 1) := by decide +kernel
theorem dX4_addToPallet_29 : decode cX4_addToPallet 29 = .ok (.iastore, 1) := by decide +kernel
theorem dX4_addToPallet_30 : decode cX4_addToPallet 30 = .ok (.aload_n 0, 1) := by decide +kernel
theorem dX4_addToPallet_31 : decode cX4_addToPallet 31 = .ok (.getfield 25, 3) := by decide +kernel
theorem dX4_addToPallet_34 : decode cX4_addToPallet 34 = .ok (.aload_n 0, 1) := by decide +kernel
theorem dX4_addToPallet_35 : decode cX4_addToPallet 35 = .ok (.getfield 47, 3) := by decide +kernel
theorem dX4_addToPallet_38 : decode cX4_addToPallet 38 = .ok (.iload_n 3, 1) := by decide +kernel
theorem dX4_addToPallet_39 : decode cX4_addToPallet 39 = .ok (.iastore, 1) := by decide +kernel
theorem dX4_addToPallet_40 : decode cX4_addToPallet 40 = .ok (.aload_n 0, 1) := by decide +kernel
theorem dX4_addToPallet_41 : decode cX4_addToPallet 41 = .ok (.dup, 1) := by decide +kernel
theorem dX4_addToPallet_42 : decode cX4_addToPallet 42 = .ok (.getfield 47, 3) := by decide +kernel
theorem dX4_addToPallet_45 : decode cX4_addToPallet 45 = .ok (.iconst 1, 1) := by decide +kernel
theorem dX4_addToPallet_46 : decode cX4_addToPallet 46 = .ok (.iadd, 1) := by decide +kernel
theorem dX4_addToPallet_47 : decode cX4_addToPallet 47 = .ok (.putfield 47, 3) := by decide +kernel
theorem dX4_addToPallet_50 : decode cX4_addToPallet 50 = .ok (.return_, 1) := by decide +kernel
set_option maxRecDepth 20000 in
theorem ggX4_unloadPallet_X4_addLot : GoodIn wsX4_unloadPallet wsX4_addLot := goodIn_r _ [9, 10, 11, 12, 13, 14, 15, 16, 8, 17, 18, 19, 20, 21, 22, 23, 24, 25, 26, 27, 28] (by decide +kernel) (by decide +kernel)
set_option maxRecDepth 20000 in
theorem gX4_unloadPallet_X4_addLot : GoodIn wsX4_unloadPallet (wsV RX4 50 RX4 yX4_addLot wsX4_addLot) := goodIn_app (goodIn_of _ (by decide +kernel)) ggX4_unloadPallet_X4_addLot
theorem dX4_unloadPallet_0 : decode cX4_unloadPallet 0 = .ok (.iconst 0, 1) := by decide +kernel
theorem dX4_unloadPallet_1 : decode cX4_unloadPallet 1 = .ok (.istore_n 2, 1) := by decide +kernel
theorem dX4_unloadPallet_2 : decode cX4_unloadPallet 2 = .ok (.iload_n 2, 1) := by decide +kernel
theorem dX4_unloadPallet_3 : decode cX4_unloadPallet 3 = .ok (.aload_n 0, 1) := by decide +kernel
theorem dX4_unloadPallet_4 : decode cX4_unloadPallet 4 = .ok (.getfield 47, 3) := by decide +kernel
theorem dX4_unloadPallet_7 : decode cX4_unloadPallet 7 = .ok (.if_icmp .ge 33, 3) := by decide +kernel
theorem dX4_unloadPallet_10 : decode cX4_unloadPallet 10 = .ok (.aload_n 0, 1) := by decide +kernel
theorem dX4_unloadPallet_11 : decode cX4_unloadPallet 11 = .ok (.aload_n 0, 1) := by decide +kernel
theorem dX4_unloadPallet_12 : decode cX4_unloadPallet 12 = .ok (.getfield 19, 3) := by decide +kernel
theorem dX4_unloadPallet_15 : decode cX4_unloadPallet 15 = .ok (.iload_n 2, 1) := by decide +kernel
theorem dX4_unloadPallet_16 : decode cX4_unloadPallet 16 = .ok (.iaload, 1) := by decide +kernel
theorem dX4_unloadPallet_17 : decode cX4_unloadPallet 17 = .ok (.aload_n 0, 1) := by decide +kernel
theorem dX4_unloadPallet_18 : decode cX4_unloadPallet 18 = .ok (.getfield 22, 3) := by decide +kernel
theorem dX4_unloadPallet_21 : decode cX4_unloadPallet 21 = .ok (.iload_n 2, 1) := by decide +kernel
theorem dX4_unloadPallet_22 : decode cX4_unloadPallet 22 = .ok (.iaload, 1) := by decide +kernel
theorem dX4_unloadPallet_23 : decode cX4_unloadPallet 23 = .ok (.iload_n 1, 1) := by decide +kernel
theorem dX4_unloadPallet_24 : decode cX4_unloadPallet 24 = .ok (.aload_n 0, 1) := by decide +kernel
theorem dX4_unloadPallet_25 : decode cX4_unloadPallet 25 = .ok (.getfield 25, 3) := by decide +kernel
theorem dX4_unloadPallet_28 : decode cX4_unloadPallet 28 = .ok (.iload_n 2, 1) := by decide +kernel
theorem dX4_unloadPallet_29 : decode cX4_unloadPallet 29 = .ok (.iaload, 1) := by decide +kernel
theorem dX4_unloadPallet_30 : decode cX4_unloadPallet 30 = .ok (.iadd, 1) := by decide +kernel
theorem dX4_unloadPallet_31 : decode cX4_unloadPallet 31 = .ok (.invokevirtual 50, 3) := by decide +kernel
theorem dX4_unloadPallet_34 : decode cX4_unloadPallet 34 = .ok (.iinc 2 1, 3) := by decide +kernel
theorem dX4_unloadPallet_37 : decode cX4_unloadPallet 37 = .ok (.goto (-35), 3) := by decide +kernel
theorem dX4_unloadPallet_40 : decode cX4_unloadPallet 40 = .ok (.aload_n 0, 1) := by decide +kernel
theorem dX4_unloadPallet_41 : decode cX4_unloadPallet 41 = .ok (.iconst 0, 1) := by decide +kernel
theorem dX4_unloadPallet_42 : decode cX4_unloadPallet 42 = .ok (.putfield 47, 3) := by decide +kernel
theorem dX4_unloadPallet_45 : decode cX4_unloadPallet 45 = .ok (.return_, 1) := by decide +kernel
set_option maxRecDepth 20000 in
theorem ggX4_addLot_X4_isKind : GoodIn wsX4_addLot wsX4_isKind := goodIn_r _ [9] (by decide +kernel) (by decide +kernel)
set_option maxRecDepth 20000 in
theorem gX4_addLot_X4_isKind : GoodIn wsX4_addLot (va_wsS RX4 54 yX4_isKind wsX4_isKind) := goodIn_app (goodIn_of _ (by decide +kernel)) ggX4_addLot_X4_isKind
theorem dX4_addLot_0 : decode cX4_addLot 0 = .ok (.aload_n 0, 1) := by decide +kernel
theorem dX4_addLot_1 : decode cX4_addLot 1 = .ok (.getfield 43, 3) := by decide +kernel
theorem dX4_addLot_4 : decode cX4_addLot 4 = .ok (.bipush 20, 2) := by decide +kernel
theorem dX4_addLot_6 : decode cX4_addLot 6 = .ok (.if_icmp .ge 10, 3) := by decide +kernel
theorem dX4_addLot_9 : decode cX4_addLot 9 = .ok (.iload_n 1, 1) := by decide +kernel
theorem dX4_addLot_10 : decode cX4_addLot 10 = .ok (.invokestatic 54, 3) := by decide +kernel
theorem dX4_addLot_13 : decode cX4_addLot 13 = .ok (.ifCond .ne 4, 3) := by decide +kernel
theorem dX4_addLot_16 : decode cX4_addLot 16 = .ok (.return_, 1) := by decide +kernel
theorem dX4_addLot_17 : decode cX4_addLot 17 = .ok (.aload_n 0, 1) := by decide +kernel
theorem dX4_addLot_18 : decode cX4_addLot 18 = .ok (.getfield 43, 3) := by decide +kernel
theorem dX4_addLot_21 : decode cX4_addLot 21 = .ok (.istore 4, 2) := by decide +kernel
theorem dX4_addLot_23 : decode cX4_addLot 23 = .ok (.iload 4, 2) := by decide +kernel
theorem dX4_addLot_25 : decode cX4_addLot 25 = .ok (.ifCond .le 70, 3) := by decide +kernel
theorem dX4_addLot_28 : decode cX4_addLot 28 = .ok (.aload_n 0, 1) := by decide +kernel
theorem dX4_addLot_29 : decode cX4_addLot 29 = .ok (.getfield 16, 3) := by decide +kernel
theorem dX4_addLot_32 : decode cX4_addLot 32 = .ok (.iload 4, 2) := by decide +kernel
theorem dX4_addLot_34 : decode cX4_addLot 34 = .ok (.iconst 1, 1) := by decide +kernel
theorem dX4_addLot_35 : decode cX4_addLot 35 = .ok (.isub, 1) := by decide +kernel
theorem dX4_addLot_36 : decode cX4_addLot 36 = .ok (.iaload, 1) := by decide +kernel
theorem dX4_addLot_37 : decode cX4_addLot 37 = .ok (.iload_n 3, 1) := by decide +kernel
theorem dX4_addLot_38 : decode cX4_addLot 38 = .ok (.if_icmp .le 57, 3) := by decide +kernel
theorem dX4_addLot_41 : decode cX4_addLot 41 = .ok (.aload_n 0, 1) := by decide +kernel
theorem dX4_addLot_42 : decode cX4_addLot 42 = .ok (.getfield 9, 3) := by decide +kernel
theorem dX4_addLot_45 : decode cX4_addLot 45 = .ok (.iload 4, 2) := by decide +kernel
theorem dX4_addLot_47 : decode cX4_addLot 47 = .ok (.aload_n 0, 1) := by decide +kernel
theorem dX4_addLot_48 : decode cX4_addLot 48 = .ok (.getfield 9, 3) := by decide +kernel
theorem dX4_addLot_51 : decode cX4_addLot 51 = .ok (.iload 4, 2) := by decide +kernel
theorem dX4_addLot_53 : decode cX4_addLot 53 = .ok (.iconst 1, 1) := by decide +kernel
theorem dX4_addLot_54 : decode cX4_addLot 54 = .ok (.isub, 1) := by decide +kernel
theorem dX4_addLot_55 : decode cX4_addLot 55 = .ok (.iaload, 1) := by decide +kernel
theorem dX4_addLot_56 : decode cX4_addLot 56 = .ok (.iastore, 1) := by decide +kernel
theorem dX4_addLot_57 : decode cX4_addLot 57 = .ok (.aload_n 0, 1) := by decide +kernel
theorem dX4_addLot_58 : decode cX4_addLot 58 = .ok (.getfield 13, 3) := by decide +kernel
theorem dX4_addLot_61 : decode cX4_addLot 61 = .ok (.iload 4, 2) := by decide +kernel
theorem dX4_addLot_63 : decode cX4_addLot 63 = .ok (.aload_n 0, 1) := by decide +kernel
theorem dX4_addLot_64 : decode cX4_addLot 64 = .ok (.getfield 13, 3) := by decide +kernel
theorem dX4_addLot_67 : decode cX4_addLot 67 = .ok (.iload 4, 2) := by decide +kernel
theorem dX4_addLot_69 : decode cX4_addLot 69 = .ok (.iconst 1, 1) := by decide +kernel
theorem dX4_addLot_70 : decode cX4_addLot 70 = .ok (.isub, 1) := by decide +kernel
theorem dX4_addLot_71 : decode cX4_addLot 71 = .ok (.iaload, 1) := by decide +kernel
theorem dX4_addLot_72 : decode cX4_addLot 72 = .ok (.iastore, 1) := by decide +kernel
theorem dX4_addLot_73 : decode cX4_addLot 73 = .ok (.aload_n 0, 1) := by decide +kernel
theorem dX4_addLot_74 : decode cX4_addLot 74 = .ok (.getfield 16, 3) := by decide +kernel
theorem dX4_addLot_77 : decode cX4_addLot 77 = .ok (.iload 4, 2) := by decide +kernel
theorem dX4_addLot_79 : decode cX4_addLot 79 = .ok (.aload_n 0, 1) := by decide +kernel
theorem dX4_addLot_80 : decode cX4_addLot 80 = .ok (.getfield 16, 3) := by decide +kernel
theorem dX4_addLot_83 : decode cX4_addLot 83 = .ok (.iload 4, 2) := by decide +kernel
theorem dX4_addLot_85 : decode cX4_addLot 85 = .ok (.iconst 1, 1) := by decide +kernel
theorem dX4_addLot_86 : decode cX4_addLot 86 = .ok (.isub, 1) := by decide +kernel
theorem dX4_addLot_87 : decode cX4_addLot 87 = .ok (.iaload, 1) := by decide +kernel
theorem dX4_addLot_88 : decode cX4_addLot 88 = .ok (.iastore, 1) := by decide +kernel
theorem dX4_addLot_89 : decode cX4_addLot 89 = .ok (.iinc 4 (-1), 3) := by decide +kernel
theorem dX4_addLot_92 : decode cX4_addLot 92 = .ok (.goto (-69), 3) := by decide +kernel
theorem dX4_addLot_95 : decode cX4_addLot 95 = .ok (.aload_n 0, 1) := by decide +kernel
theorem dX4_addLot_96 : decode cX4_addLot 96 = .ok (.getfield 9, 3) := by decide +kernel
theorem dX4_addLot_99 : decode cX4_addLot 99 = .ok (.iload 4, 2) := by decide +kernel
theorem dX4_addLot_101 : decode cX4_addLot 101 = .ok (.iload_n 1, 1) := by decide +kernel
theorem dX4_addLot_102 : decode cX4_addLot 102 = .ok (.iastore, 1) := by decide +kernel
theorem dX4_addLot_103 : decode cX4_addLot 103 = .ok (.aload_n 0, 1) := by decide +kernel
theorem dX4_addLot_104 : decode cX4_addLot 104 = .ok (.getfield 13, 3) := by decide +kernel
theorem dX4_addLot_107 : decode cX4_addLot 107 = .ok (.iload 4, 2) := by decide +kernel
theorem dX4_addLot_109 : decode cX4_addLot 109 = .ok (.iload_n 2, 1) := by decide +kernel
theorem dX4_addLot_110 : decode cX4_addLot 110 = .ok (.iastore, 1) := by decide +kernel
theorem dX4_addLot_111 : decode cX4_addLot 111 = .ok (.aload_n 0, 1) := by decide +kernel
theorem dX4_addLot_112 : decode cX4_addLot 112 = .ok (.getfield 16, 3) := by decide +kernel
theorem dX4_addLot_115 : decode cX4_addLot 115 = .ok (.iload 4, 2) := by decide +kernel
theorem dX4_addLot_117 : decode cX4_addLot 117 = .ok (.iload_n 3, 1) := by decide +kernel
theorem dX4_addLot_118 : decode cX4_addLot 118 = .ok (.iastore, 1) := by decide +kernel
theorem dX4_addLot_119 : decode cX4_addLot 119 = .ok (.aload_n 0, 1) := by decide +kernel
theorem dX4_addLot_120 : decode cX4_addLot 120 = .ok (.dup, 1) := by decide +kernel
theorem dX4_addLot_121 : decode cX4_addLot 121 = .ok (.getfield 43, 3) := by decide +kernel
theorem dX4_addLot_124 : decode cX4_addLot 124 = .ok (.iconst 1, 1) := by decide +kernel
theorem dX4_addLot_125 : decode cX4_addLot 125 = .ok (.iadd, 1) := by decide +kernel
theorem dX4_addLot_126 : decode cX4_addLot 126 = .ok (.putfield 43, 3) := by decide +kernel
theorem dX4_addLot_129 : decode cX4_addLot 129 = .ok (.aload_n 0, 1) := by decide +kernel
theorem dX4_addLot_130 : decode cX4_addLot 130 = .ok (.getfield 28, 3) := by decide +kernel
theorem dX4_addLot_133 : decode cX4_addLot 133 = .ok (.iload_n 1, 1) := by decide +kernel
theorem dX4_addLot_134 : decode cX4_addLot 134 = .ok (.dup2, 1) := by decide +kernel
theorem dX4_addLot_135 : decode cX4_addLot 135 = .ok (.iaload, 1) := by decide +kernel
theorem dX4_addLot_136 : decode cX4_addLot 136 = .ok (.iload_n 2, 1) := by decide +kernel
theorem dX4_addLot_137 : decode cX4_addLot 137 = .ok (.iadd, 1) := by decide +kernel
theorem dX4_addLot_138 : decode cX4_addLot 138 = .ok (.iastore, 1) := by decide +kernel
theorem dX4_addLot_139 : decode cX4_addLot 139 = .ok (.return_, 1) := by decide +kernel
theorem dX4_take_0 : decode cX4_take 0 = .ok (.iconst 0, 1) := by decide +kernel
theorem dX4_take_1 : decode cX4_take 1 = .ok (.istore_n 3, 1) := by decide +kernel
theorem dX4_take_2 : decode cX4_take 2 = .ok (.iconst 0, 1) := by decide +kernel
theorem dX4_take_3 : decode cX4_take 3 = .ok (.istore 4, 2) := by decide +kernel
theorem dX4_take_5 : decode cX4_take 5 = .ok (.iload 4, 2) := by decide +kernel
theorem dX4_take_7 : decode cX4_take 7 = .ok (.aload_n 0, 1) := by decide +kernel
theorem dX4_take_8 : decode cX4_take 8 = .ok (.getfield 43, 3) := by decide +kernel
theorem dX4_take_11 : decode cX4_take 11 = .ok (.if_icmp .ge 68, 3) := by decide +kernel
theorem dX4_take_14 : decode cX4_take 14 = .ok (.aload_n 0, 1) := by decide +kernel
theorem dX4_take_15 : decode cX4_take 15 = .ok (.getfield 9, 3) := by decide +kernel
theorem dX4_take_18 : decode cX4_take 18 = .ok (.iload 4, 2) := by decide +kernel
theorem dX4_take_20 : decode cX4_take 20 = .ok (.iaload, 1) := by decide +kernel
theorem dX4_take_21 : decode cX4_take 21 = .ok (.iload_n 1, 1) := by decide +kernel
theorem dX4_take_22 : decode cX4_take 22 = .ok (.if_icmp .ne 51, 3) := by decide +kernel
theorem dX4_take_25 : decode cX4_take 25 = .ok (.iload_n 2, 1) := by decide +kernel
theorem dX4_take_26 : decode cX4_take 26 = .ok (.iload_n 3, 1) := by decide +kernel
theorem dX4_take_27 : decode cX4_take 27 = .ok (.isub, 1) := by decide +kernel
theorem dX4_take_28 : decode cX4_take 28 = .ok (.istore 5, 2) := by decide +kernel
theorem dX4_take_30 : decode cX4_take 30 = .ok (.aload_n 0, 1) := by decide +kernel
theorem dX4_take_31 : decode cX4_take 31 = .ok (.getfield 13, 3) := by decide +kernel
theorem dX4_take_34 : decode cX4_take 34 = .ok (.iload 4, 2) := by decide +kernel
theorem dX4_take_36 : decode cX4_take 36 = .ok (.iaload, 1) := by decide +kernel
theorem dX4_take_37 : decode cX4_take 37 = .ok (.iload 5, 2) := by decide +kernel
theorem dX4_take_39 : decode cX4_take 39 = .ok (.if_icmp .ge 13, 3) := by decide +kernel
theorem dX4_take_42 : decode cX4_take 42 = .ok (.aload_n 0, 1) := by decide +kernel
theorem dX4_take_43 : decode cX4_take 43 = .ok (.getfield 13, 3) := by decide +kernel
theorem dX4_take_46 : decode cX4_take 46 = .ok (.iload 4, 2) := by decide +kernel
theorem dX4_take_48 : decode cX4_take 48 = .ok (.iaload, 1) := by decide +kernel
theorem dX4_take_49 : decode cX4_take 49 = .ok (.goto 5, 3) := by decide +kernel
theorem dX4_take_52 : decode cX4_take 52 = .ok (.iload 5, 2) := by decide +kernel
theorem dX4_take_54 : decode cX4_take 54 = .ok (.istore 6, 2) := by decide +kernel
theorem dX4_take_56 : decode cX4_take 56 = .ok (.aload_n 0, 1) := by decide +kernel
theorem dX4_take_57 : decode cX4_take 57 = .ok (.getfield 13, 3) := by decide +kernel
theorem dX4_take_60 : decode cX4_take 60 = .ok (.iload 4, 2) := by decide +kernel
theorem dX4_take_62 : decode cX4_take 62 = .ok (.dup2, 1) := by decide +kernel
theorem dX4_take_63 : decode cX4_take 63 = .ok (.iaload, 1) := by decide +kernel
theorem dX4_take_64 : decode cX4_take 64 = .ok (.iload 6, 2) := by decide +kernel
theorem dX4_take_66 : decode cX4_take 66 = .ok (.isub, 1) := by decide +kernel
theorem dX4_take_67 : decode cX4_take 67 = .ok (.iastore, 1) := by decide +kernel
theorem dX4_take_68 : decode cX4_take 68 = .ok (.iload_n 3, 1) := by decide +kernel
theorem dX4_take_69 : decode cX4_take 69 = .ok (.iload 6, 2) := by decide +kernel
theorem dX4_take_71 : decode cX4_take 71 = .ok (.iadd, 1) := by decide +kernel
theorem dX4_take_72 : decode cX4_take 72 = .ok (.istore_n 3, 1) := by decide +kernel
theorem dX4_take_73 : decode cX4_take 73 = .ok (.iinc 4 1, 3) := by decide +kernel
theorem dX4_take_76 : decode cX4_take 76 = .ok (.goto (-71), 3) := by decide +kernel
theorem dX4_take_79 : decode cX4_take 79 = .ok (.aload_n 0, 1) := by decide +kernel
theorem dX4_take_80 : decode cX4_take 80 = .ok (.getfield 31, 3) := by decide +kernel
theorem dX4_take_83 : decode cX4_take 83 = .ok (.iload_n 1, 1) := by decide +kernel
theorem dX4_take_84 : decode cX4_take 84 = .ok (.dup2, 1) := by decide +kernel
theorem dX4_take_85 : decode cX4_take 85 = .ok (.iaload, 1) := by decide +kernel
theorem dX4_take_86 : decode cX4_take 86 = .ok (.iload_n 3, 1) := by decide +kernel
theorem dX4_take_87 : decode cX4_take 87 = .ok (.iadd, 1) := by decide +kernel
theorem dX4_take_88 : decode cX4_take 88 = .ok (.iastore, 1) := by decide +kernel
theorem dX4_take_89 : decode cX4_take 89 = .ok (.iload_n 3, 1) := by decide +kernel
theorem dX4_take_90 : decode cX4_take 90 = .ok (.ireturn, 1) := by decide +kernel
theorem dX4_spoil_0 : decode cX4_spoil 0 = .ok (.iconst 0, 1) := by decide +kernel
theorem dX4_spoil_1 : decode cX4_spoil 1 = .ok (.istore_n 2, 1) := by decide +kernel
theorem dX4_spoil_2 : decode cX4_spoil 2 = .ok (.iload_n 2, 1) := by decide +kernel
theorem dX4_spoil_3 : decode cX4_spoil 3 = .ok (.iconst 3, 1) := by decide +kernel
theorem dX4_spoil_4 : decode cX4_spoil 4 = .ok (.if_icmp .ge 67, 3) := by decide +kernel
theorem dX4_spoil_7 : decode cX4_spoil 7 = .ok (.iconst 0, 1) := by decide +kernel
theorem dX4_spoil_8 : decode cX4_spoil 8 = .ok (.istore_n 3, 1) := by decide +kernel
theorem dX4_spoil_9 : decode cX4_spoil 9 = .ok (.iload_n 3, 1) := by decide +kernel
theorem dX4_spoil_10 : decode cX4_spoil 10 = .ok (.aload_n 0, 1) := by decide +kernel
theorem dX4_spoil_11 : decode cX4_spoil 11 = .ok (.getfield 43, 3) := by decide +kernel
theorem dX4_spoil_14 : decode cX4_spoil 14 = .ok (.if_icmp .ge 51, 3) := by decide +kernel
theorem dX4_spoil_17 : decode cX4_spoil 17 = .ok (.aload_n 0, 1) := by decide +kernel
theorem dX4_spoil_18 : decode cX4_spoil 18 = .ok (.getfield 9, 3) := by decide +kernel
theorem dX4_spoil_21 : decode cX4_spoil 21 = .ok (.iload_n 3, 1) := by decide +kernel
theorem dX4_spoil_22 : decode cX4_spoil 22 = .ok (.iaload, 1) := by decide +kernel
theorem dX4_spoil_23 : decode cX4_spoil 23 = .ok (.iload_n 2, 1) := by decide +kernel
theorem dX4_spoil_24 : decode cX4_spoil 24 = .ok (.if_icmp .ne 35, 3) := by decide +kernel
theorem dX4_spoil_27 : decode cX4_spoil 27 = .ok (.aload_n 0, 1) := by decide +kernel
theorem dX4_spoil_28 : decode cX4_spoil 28 = .ok (.getfield 16, 3) := by decide +kernel
theorem dX4_spoil_31 : decode cX4_spoil 31 = .ok (.iload_n 3, 1) := by decide +kernel
theorem dX4_spoil_32 : decode cX4_spoil 32 = .ok (.iaload, 1) := by decide +kernel
theorem dX4_spoil_33 : decode cX4_spoil 33 = .ok (.iload_n 1, 1) := by decide +kernel
theorem dX4_spoil_34 : decode cX4_spoil 34 = .ok (.if_icmp .ne 25, 3) := by decide +kernel
theorem dX4_spoil_37 : decode cX4_spoil 37 = .ok (.aload_n 0, 1) := by decide +kernel
theorem dX4_spoil_38 : decode cX4_spoil 38 = .ok (.getfield 34, 3) := by decide +kernel
theorem dX4_spoil_41 : decode cX4_spoil 41 = .ok (.iload_n 2, 1) := by decide +kernel
theorem dX4_spoil_42 : decode cX4_spoil 42 = .ok (.dup2, 1) := by decide +kernel
theorem dX4_spoil_43 : decode cX4_spoil 43 = .ok (.iaload, 1) := by decide +kernel
theorem dX4_spoil_44 : decode cX4_spoil 44 = .ok (.aload_n 0, 1) := by decide +kernel
theorem dX4_spoil_45 : decode cX4_spoil 45 = .ok (.getfield 13, 3) := by decide +kernel
theorem dX4_spoil_48 : decode cX4_spoil 48 = .ok (.iload_n 3, 1) := by decide +kernel
theorem dX4_spoil_49 : decode cX4_spoil 49 = .ok (.iaload, 1) := by decide +kernel
theorem dX4_spoil_50 : decode cX4_spoil 50 = .ok (.iadd, 1) := by decide +kernel
theorem dX4_spoil_51 : decode cX4_spoil 51 = .ok (.iastore, 1) := by decide +kernel
theorem dX4_spoil_52 : decode cX4_spoil 52 = .ok (.aload_n 0, 1) := by decide +kernel
theorem dX4_spoil_53 : decode cX4_spoil 53 = .ok (.getfield 13, 3) := by decide +kernel
theorem dX4_spoil_56 : decode cX4_spoil 56 = .ok (.iload_n 3, 1) := by decide +kernel
theorem dX4_spoil_57 : decode cX4_spoil 57 = .ok (.iconst 0, 1) := by decide +kernel
theorem dX4_spoil_58 : decode cX4_spoil 58 = .ok (.iastore, 1) := by decide +kernel
theorem dX4_spoil_59 : decode cX4_spoil 59 = .ok (.iinc 3 1, 3) := by decide +kernel
theorem dX4_spoil_62 : decode cX4_spoil 62 = .ok (.goto (-53), 3) := by decide +kernel
theorem dX4_spoil_65 : decode cX4_spoil 65 = .ok (.iinc 2 1, 3) := by decide +kernel
theorem dX4_spoil_68 : decode cX4_spoil 68 = .ok (.goto (-66), 3) := by decide +kernel
theorem dX4_spoil_71 : decode cX4_spoil 71 = .ok (.return_, 1) := by decide +kernel
theorem dX4_dropEmptyLots_0 : decode cX4_dropEmptyLots 0 = .ok (.iconst 0, 1) := by decide +kernel
theorem dX4_dropEmptyLots_1 : decode cX4_dropEmptyLots 1 = .ok (.istore_n 1, 1) := by decide +kernel
theorem dX4_dropEmptyLots_2 : decode cX4_dropEmptyLots 2 = .ok (.iconst 0, 1) := by decide +kernel
theorem dX4_dropEmptyLots_3 : decode cX4_dropEmptyLots 3 = .ok (.istore_n 2, 1) := by decide +kernel
theorem dX4_dropEmptyLots_4 : decode cX4_dropEmptyLots 4 = .ok (.iload_n 2, 1) := by decide +kernel
theorem dX4_dropEmptyLots_5 : decode cX4_dropEmptyLots 5 = .ok (.aload_n 0, 1) := by decide +kernel
theorem dX4_dropEmptyLots_6 : decode cX4_dropEmptyLots 6 = .ok (.getfield 43, 3) := by decide +kernel
theorem dX4_dropEmptyLots_9 : decode cX4_dropEmptyLots 9 = .ok (.if_icmp .ge 57, 3) := by decide +kernel
theorem dX4_dropEmptyLots_12 : decode cX4_dropEmptyLots 12 = .ok (.aload_n 0, 1) := by decide +kernel
theorem dX4_dropEmptyLots_13 : decode cX4_dropEmptyLots 13 = .ok (.getfield 13, 3) := by decide +kernel
theorem dX4_dropEmptyLots_16 : decode cX4_dropEmptyLots 16 = .ok (.iload_n 2, 1) := by decide +kernel
theorem dX4_dropEmptyLots_17 : decode cX4_dropEmptyLots 17 = .ok (.iaload, 1) := by decide +kernel
theorem dX4_dropEmptyLots_18 : decode cX4_dropEmptyLots 18 = .ok (.ifCond .le 42, 3) := by decide +kernel
theorem dX4_dropEmptyLots_21 : decode cX4_dropEmptyLots 21 = .ok (.aload_n 0, 1) := by decide +kernel
theorem dX4_dropEmptyLots_22 : decode cX4_dropEmptyLots 22 = .ok (.getfield 9, 3) := by decide +kernel
theorem dX4_dropEmptyLots_25 : decode cX4_dropEmptyLots 25 = .ok (.iload_n 1, 1) := by decide +kernel
theorem dX4_dropEmptyLots_26 : decode cX4_dropEmptyLots 26 = .ok (.aload_n 0, 1) := by decide +kernel
theorem dX4_dropEmptyLots_27 : decode cX4_dropEmptyLots 27 = .ok (.getfield 9, 3) := by decide +kernel
theorem dX4_dropEmptyLots_30 : decode cX4_dropEmptyLots 30 = .ok (.iload_n 2, 1) := by decide +kernel
theorem dX4_dropEmptyLots_31 : decode cX4_dropEmptyLots 31 = .ok (.iaload, 1) := by decide +kernel
theorem dX4_dropEmptyLots_32 : decode cX4_dropEmptyLots 32 = .ok (.iastore, 1) := by decide +kernel
theorem dX4_dropEmptyLots_33 : decode cX4_dropEmptyLots 33 = .ok (.aload_n 0, 1) := by decide +kernel
theorem dX4_dropEmptyLots_34 : decode cX4_dropEmptyLots 34 = .ok (.getfield 13, 3) := by decide +kernel
theorem dX4_dropEmptyLots_37 : decode cX4_dropEmptyLots 37 = .ok (.iload_n 1, 1) := by decide +kernel
theorem dX4_dropEmptyLots_38 : decode cX4_dropEmptyLots 38 = .ok (.aload_n 0, 1) := by decide +kernel
theorem dX4_dropEmptyLots_39 : decode cX4_dropEmptyLots 39 = .ok (.getfield 13, 3) := by decide +kernel
theorem dX4_dropEmptyLots_42 : decode cX4_dropEmptyLots 42 = .ok (.iload_n 2, 1) := by decide +kernel
theorem dX4_dropEmptyLots_43 : decode cX4_dropEmptyLots 43 = .ok (.iaload, 1) := by decide +kernel
theorem dX4_dropEmptyLots_44 : decode cX4_dropEmptyLots 44 = .ok (.iastore, 1) := by decide +kernel
theorem dX4_dropEmptyLots_45 : decode cX4_dropEmptyLots 45 = .ok (.aload_n 0, 1) := by decide +kernel
theorem dX4_dropEmptyLots_46 : decode cX4_dropEmptyLots 46 = .ok (.getfield 16, 3) := by decide +kernel
theorem dX4_dropEmptyLots_49 : decode cX4_dropEmptyLots 49 = .ok (.iload_n 1, 1) := by decide +kernel
theorem dX4_dropEmptyLots_50 : decode cX4_dropEmptyLots 50 = .ok (.aload_n 0, 1) := by decide +kernel
theorem dX4_dropEmptyLots_51 : decode cX4_dropEmptyLots 51 = .ok (.getfield 16, 3) := by decide +kernel
theorem dX4_dropEmptyLots_54 : decode cX4_dropEmptyLots 54 = .ok (.iload_n 2, 1) := by decide +kernel
theorem dX4_dropEmptyLots_55 : decode cX4_dropEmptyLots 55 = .ok (.iaload, 1) := by decide +kernel
theorem dX4_dropEmptyLots_56 : decode cX4_dropEmptyLots 56 = .ok (.iastore, 1) := by decide +kernel
theorem dX4_dropEmptyLots_57 : decode cX4_dropEmptyLots 57 = .ok (.iinc 1 1, 3) := by decide +kernel
theorem dX4_dropEmptyLots_60 : decode cX4_dropEmptyLots 60 = .ok (.iinc 2 1, 3) := by decide +kernel
theorem dX4_dropEmptyLots_63 : decode cX4_dropEmptyLots 63 = .ok (.goto (-59), 3) := by decide +kernel
theorem dX4_dropEmptyLots_66 : decode cX4_dropEmptyLots 66 = .ok (.aload_n 0, 1) := by decide +kernel
theorem dX4_dropEmptyLots_67 : decode cX4_dropEmptyLots 67 = .ok (.iload_n 1, 1) := by decide +kernel
theorem dX4_dropEmptyLots_68 : decode cX4_dropEmptyLots 68 = .ok (.putfield 43, 3) := by decide +kernel
theorem dX4_dropEmptyLots_71 : decode cX4_dropEmptyLots 71 = .ok (.return_, 1) := by decide +kernel
theorem dX4_find_0 : decode cX4_find 0 = .ok (.iconst 0, 1) := by decide +kernel
theorem dX4_find_1 : decode cX4_find 1 = .ok (.istore_n 3, 1) := by decide +kernel
theorem dX4_find_2 : decode cX4_find 2 = .ok (.iconst 0, 1) := by decide +kernel
theorem dX4_find_3 : decode cX4_find 3 = .ok (.istore 4, 2) := by decide +kernel
theorem dX4_find_5 : decode cX4_find 5 = .ok (.iload 4, 2) := by decide +kernel
theorem dX4_find_7 : decode cX4_find 7 = .ok (.aload_n 0, 1) := by decide +kernel
theorem dX4_find_8 : decode cX4_find 8 = .ok (.getfield 43, 3) := by decide +kernel
theorem dX4_find_11 : decode cX4_find 11 = .ok (.if_icmp .ge 31, 3) := by decide +kernel
theorem dX4_find_14 : decode cX4_find 14 = .ok (.aload_n 0, 1) := by decide +kernel
theorem dX4_find_15 : decode cX4_find 15 = .ok (.getfield 9, 3) := by decide +kernel
theorem dX4_find_18 : decode cX4_find 18 = .ok (.iload 4, 2) := by decide +kernel
theorem dX4_find_20 : decode cX4_find 20 = .ok (.iaload, 1) := by decide +kernel
theorem dX4_find_21 : decode cX4_find 21 = .ok (.iload_n 1, 1) := by decide +kernel
theorem dX4_find_22 : decode cX4_find 22 = .ok (.if_icmp .ne 14, 3) := by decide +kernel
theorem dX4_find_25 : decode cX4_find 25 = .ok (.iload_n 3, 1) := by decide +kernel
theorem dX4_find_26 : decode cX4_find 26 = .ok (.iload_n 2, 1) := by decide +kernel
theorem dX4_find_27 : decode cX4_find 27 = .ok (.if_icmp .ne 6, 3) := by decide +kernel
theorem dX4_find_30 : decode cX4_find 30 = .ok (.iload 4, 2) := by decide +kernel
theorem dX4_find_32 : decode cX4_find 32 = .ok (.ireturn, 1) := by decide +kernel
theorem dX4_find_33 : decode cX4_find 33 = .ok (.iinc 3 1, 3) := by decide +kernel
theorem dX4_find_36 : decode cX4_find 36 = .ok (.iinc 4 1, 3) := by decide +kernel
theorem dX4_find_39 : decode cX4_find 39 = .ok (.goto (-34), 3) := by decide +kernel
theorem dX4_find_42 : decode cX4_find 42 = .ok (.iconst (-1), 1) := by decide +kernel
theorem dX4_find_43 : decode cX4_find 43 = .ok (.ireturn, 1) := by decide +kernel
theorem dX4_stock_0 : decode cX4_stock 0 = .ok (.iconst 0, 1) := by decide +kernel
theorem dX4_stock_1 : decode cX4_stock 1 = .ok (.istore_n 2, 1) := by decide +kernel
theorem dX4_stock_2 : decode cX4_stock 2 = .ok (.iconst 0, 1) := by decide +kernel
theorem dX4_stock_3 : decode cX4_stock 3 = .ok (.istore_n 3, 1) := by decide +kernel
theorem dX4_stock_4 : decode cX4_stock 4 = .ok (.iload_n 3, 1) := by decide +kernel
theorem dX4_stock_5 : decode cX4_stock 5 = .ok (.aload_n 0, 1) := by decide +kernel
theorem dX4_stock_6 : decode cX4_stock 6 = .ok (.getfield 43, 3) := by decide +kernel
theorem dX4_stock_9 : decode cX4_stock 9 = .ok (.if_icmp .ge 28, 3) := by decide +kernel
theorem dX4_stock_12 : decode cX4_stock 12 = .ok (.aload_n 0, 1) := by decide +kernel
theorem dX4_stock_13 : decode cX4_stock 13 = .ok (.getfield 9, 3) := by decide +kernel
theorem dX4_stock_16 : decode cX4_stock 16 = .ok (.iload_n 3, 1) := by decide +kernel
theorem dX4_stock_17 : decode cX4_stock 17 = .ok (.iaload, 1) := by decide +kernel
theorem dX4_stock_18 : decode cX4_stock 18 = .ok (.iload_n 1, 1) := by decide +kernel
theorem dX4_stock_19 : decode cX4_stock 19 = .ok (.if_icmp .ne 12, 3) := by decide +kernel
theorem dX4_stock_22 : decode cX4_stock 22 = .ok (.iload_n 2, 1) := by decide +kernel
theorem dX4_stock_23 : decode cX4_stock 23 = .ok (.aload_n 0, 1) := by decide +kernel
theorem dX4_stock_24 : decode cX4_stock 24 = .ok (.getfield 13, 3) := by decide +kernel
theorem dX4_stock_27 : decode cX4_stock 27 = .ok (.iload_n 3, 1) := by decide +kernel
theorem dX4_stock_28 : decode cX4_stock 28 = .ok (.iaload, 1) := by decide +kernel
theorem dX4_stock_29 : decode cX4_stock 29 = .ok (.iadd, 1) := by decide +kernel
theorem dX4_stock_30 : decode cX4_stock 30 = .ok (.istore_n 2, 1) := by decide +kernel
theorem dX4_stock_31 : decode cX4_stock 31 = .ok (.iinc 3 1, 3) := by decide +kernel
theorem dX4_stock_34 : decode cX4_stock 34 = .ok (.goto (-30), 3) := by decide +kernel
theorem dX4_stock_37 : decode cX4_stock 37 = .ok (.iload_n 2, 1) := by decide +kernel
theorem dX4_stock_38 : decode cX4_stock 38 = .ok (.ireturn, 1) := by decide +kernel
theorem dX4_lotsOfKind_0 : decode cX4_lotsOfKind 0 = .ok (.iconst 0, 1) := by decide +kernel
theorem dX4_lotsOfKind_1 : decode cX4_lotsOfKind 1 = .ok (.istore_n 2, 1) := by decide +kernel
theorem dX4_lotsOfKind_2 : decode cX4_lotsOfKind 2 = .ok (.iconst 0, 1) := by decide +kernel
theorem dX4_lotsOfKind_3 : decode cX4_lotsOfKind 3 = .ok (.istore_n 3, 1) := by decide +kernel
theorem dX4_lotsOfKind_4 : decode cX4_lotsOfKind 4 = .ok (.iload_n 3, 1) := by decide +kernel
theorem dX4_lotsOfKind_5 : decode cX4_lotsOfKind 5 = .ok (.aload_n 0, 1) := by decide +kernel
theorem dX4_lotsOfKind_6 : decode cX4_lotsOfKind 6 = .ok (.getfield 43, 3) := by decide +kernel
theorem dX4_lotsOfKind_9 : decode cX4_lotsOfKind 9 = .ok (.if_icmp .ge 22, 3) := by decide +kernel
theorem dX4_lotsOfKind_12 : decode cX4_lotsOfKind 12 = .ok (.aload_n 0, 1) := by decide +kernel
theorem dX4_lotsOfKind_13 : decode cX4_lotsOfKind 13 = .ok (.getfield 9, 3) := by decide +kernel
theorem dX4_lotsOfKind_16 : decode cX4_lotsOfKind 16 = .ok (.iload_n 3, 1) := by decide +kernel
theorem dX4_lotsOfKind_17 : decode cX4_lotsOfKind 17 = .ok (.iaload, 1) := by decide +kernel
theorem dX4_lotsOfKind_18 : decode cX4_lotsOfKind 18 = .ok (.iload_n 1, 1) := by decide +kernel
theorem dX4_lotsOfKind_19 : decode cX4_lotsOfKind 19 = .ok (.if_icmp .ne 6, 3) := by decide +kernel
theorem dX4_lotsOfKind_22 : decode cX4_lotsOfKind 22 = .ok (.iinc 2 1, 3) := by decide +kernel
theorem dX4_lotsOfKind_25 : decode cX4_lotsOfKind 25 = .ok (.iinc 3 1, 3) := by decide +kernel
theorem dX4_lotsOfKind_28 : decode cX4_lotsOfKind 28 = .ok (.goto (-24), 3) := by decide +kernel
theorem dX4_lotsOfKind_31 : decode cX4_lotsOfKind 31 = .ok (.iload_n 2, 1) := by decide +kernel
theorem dX4_lotsOfKind_32 : decode cX4_lotsOfKind 32 = .ok (.ireturn, 1) := by decide +kernel
theorem dX4_amountOnPallet_0 : decode cX4_amountOnPallet 0 = .ok (.iconst 0, 1) := by decide +kernel
theorem dX4_amountOnPallet_1 : decode cX4_amountOnPallet 1 = .ok (.istore_n 2, 1) := by decide +kernel
theorem dX4_amountOnPallet_2 : decode cX4_amountOnPallet 2 = .ok (.iconst 0, 1) := by decide +kernel
theorem dX4_amountOnPallet_3 : decode cX4_amountOnPallet 3 = .ok (.istore_n 3, 1) := by decide +kernel
theorem dX4_amountOnPallet_4 : decode cX4_amountOnPallet 4 = .ok (.iload_n 3, 1) := by decide +kernel
theorem dX4_amountOnPallet_5 : decode cX4_amountOnPallet 5 = .ok (.aload_n 0, 1) := by decide +kernel
theorem dX4_amountOnPallet_6 : decode cX4_amountOnPallet 6 = .ok (.getfield 47, 3) := by decide +kernel
theorem dX4_amountOnPallet_9 : decode cX4_amountOnPallet 9 = .ok (.if_icmp .ge 28, 3) := by decide +kernel
theorem dX4_amountOnPallet_12 : decode cX4_amountOnPallet 12 = .ok (.aload_n 0, 1) := by decide +kernel
theorem dX4_amountOnPallet_13 : decode cX4_amountOnPallet 13 = .ok (.getfield 19, 3) := by decide +kernel
theorem dX4_amountOnPallet_16 : decode cX4_amountOnPallet 16 = .ok (.iload_n 3, 1) := by decide +kernel
theorem dX4_amountOnPallet_17 : decode cX4_amountOnPallet 17 = .ok (.iaload, 1) := by decide +kernel
theorem dX4_amountOnPallet_18 : decode cX4_amountOnPallet 18 = .ok (.iload_n 1, 1) := by decide +kernel
theorem dX4_amountOnPallet_19 : decode cX4_amountOnPallet 19 = .ok (.if_icmp .ne 12, 3) := by decide +kernel
theorem dX4_amountOnPallet_22 : decode cX4_amountOnPallet 22 = .ok (.iload_n 2, 1) := by decide +kernel
theorem dX4_amountOnPallet_23 : decode cX4_amountOnPallet 23 = .ok (.aload_n 0, 1) := by decide +kernel
theorem dX4_amountOnPallet_24 : decode cX4_amountOnPallet 24 = .ok (.getfield 22, 3) := by decide +kernel
theorem dX4_amountOnPallet_27 : decode cX4_amountOnPallet 27 = .ok (.iload_n 3, 1) := by decide +kernel
theorem dX4_amountOnPallet_28 : decode cX4_amountOnPallet 28 = .ok (.iaload, 1) := by decide +kernel
theorem dX4_amountOnPallet_29 : decode cX4_amountOnPallet 29 = .ok (.iadd, 1) := by decide +kernel
theorem dX4_amountOnPallet_30 : decode cX4_amountOnPallet 30 = .ok (.istore_n 2, 1) := by decide +kernel
theorem dX4_amountOnPallet_31 : decode cX4_amountOnPallet 31 = .ok (.iinc 3 1, 3) := by decide +kernel
theorem dX4_amountOnPallet_34 : decode cX4_amountOnPallet 34 = .ok (.goto (-30), 3) := by decide +kernel
theorem dX4_amountOnPallet_37 : decode cX4_amountOnPallet 37 = .ok (.iload_n 2, 1) := by decide +kernel
theorem dX4_amountOnPallet_38 : decode cX4_amountOnPallet 38 = .ok (.ireturn, 1) := by decide +kernel
theorem dX5_init_0 : decode cX5_init 0 = .ok (.aload_n 0, 1) := by decide +kernel
theorem dX5_init_1 : decode cX5_init 1 = .ok (.invokespecial 1, 3) := by decide +kernel
theorem dX5_init_4 : decode cX5_init 4 = .ok (.aload_n 0, 1) := by decide +kernel
theorem dX5_init_5 : decode cX5_init 5 = .ok (.bipush 60, 2) := by decide +kernel
theorem dX5_init_7 : decode cX5_init 7 = .ok (.newarray .char, 2) := by decide +kernel
theorem dX5_init_9 : decode cX5_init 9 = .ok (.putfield 9, 3) := by decide +kernel
theorem dX5_init_12 : decode cX5_init 12 = .ok (.aload_n 0, 1) := by decide +kernel
theorem dX5_init_13 : decode cX5_init 13 = .ok (.iconst 3, 1) := by decide +kernel
theorem dX5_init_14 : decode cX5_init 14 = .ok (.newarray .int, 2) := by decide +kernel
theorem dX5_init_16 : decode cX5_init 16 = .ok (.putfield 13, 3) := by decide +kernel
theorem dX5_init_19 : decode cX5_init 19 = .ok (.return_, 1) := by decide +kernel
theorem dX5_append_0 : decode cX5_append 0 = .ok (.aload_n 0, 1) := by decide +kernel
theorem dX5_append_1 : decode cX5_append 1 = .ok (.getfield 17, 3) := by decide +kernel
theorem dX5_append_4 : decode cX5_append 4 = .ok (.bipush 60, 2) := by decide +kernel
theorem dX5_append_6 : decode cX5_append 6 = .ok (.if_icmp .ge 24, 3) := by decide +kernel
theorem dX5_append_9 : decode cX5_append 9 = .ok (.aload_n 0, 1) := by decide +kernel
theorem dX5_append_10 : decode cX5_append 10 = .ok (.getfield 9, 3) := by decide +kernel
theorem dX5_append_13 : decode cX5_append 13 = .ok (.aload_n 0, 1) := by decide +kernel
theorem dX5_append_14 : decode cX5_append 14 = .ok (.getfield 17, 3) := by decide +kernel
theorem dX5_append_17 : decode cX5_append 17 = .ok (.iload_n 1, 1) := by decide +kernel
theorem dX5_append_18 : decode cX5_append 18 = .ok (.i2c, 1) := by decide +kernel
theorem dX5_append_19 : decode cX5_append 19 = .ok (.castore, 1) := by decide +kernel
theorem dX5_append_20 : decode cX5_append 20 = .ok (.aload_n 0, 1) := by decide +kernel
theorem dX5_append_21 : decode cX5_append 21 = .ok (.dup, 1) := by decide +kernel
theorem dX5_append_22 : decode cX5_append 22 = .ok (.getfield 17, 3) := by decide +kernel
theorem dX5_append_25 : decode cX5_append 25 = .ok (.iconst 1, 1) := by decide +kernel
theorem dX5_append_26 : decode cX5_append 26 = .ok (.iadd, 1) := by decide +kernel
theorem dX5_append_27 : decode cX5_append 27 = .ok (.putfield 17, 3) := by decide +kernel
theorem dX5_append_30 : decode cX5_append 30 = .ok (.return_, 1) := by decide +kernel
set_option maxRecDepth 20000 in
theorem ggX5_readCommand_X5_at : GoodIn wsX5_readCommand wsX5_at := goodIn_r _ [8, 9, 10, 27, 28, 29, 30, 31] (by decide +kernel) (by decide +kernel)
set_option maxRecDepth 20000 in
theorem gX5_readCommand_X5_at : GoodIn wsX5_readCommand (wsV RX5 21 RX5 yX5_at wsX5_at) := goodIn_app (goodIn_of _ (by decide +kernel)) ggX5_readCommand_X5_at
set_option maxRecDepth 20000 in
theorem ggX5_readCommand_X5_numbersOf : GoodIn wsX5_readCommand wsX5_numbersOf := goodIn_r _ [14] (by decide +kernel) (by decide +kernel)
set_option maxRecDepth 20000 in
theorem gX5_readCommand_X5_numbersOf : GoodIn wsX5_readCommand (wsV RX5 32 RX5 yX5_numbersOf wsX5_numbersOf) := goodIn_app (goodIn_of _ (by decide +kernel)) ggX5_readCommand_X5_numbersOf
set_option maxRecDepth 20000 in
theorem ggX5_readCommand_X5_passes : GoodIn wsX5_readCommand wsX5_passes := goodIn_r _ [18, 2, 4, 5, 6, 7, 8, 9, 10, 27, 28, 29, 30, 31] (by decide +kernel) (by decide +kernel)
set_option maxRecDepth 20000 in
theorem gX5_readCommand_X5_passes : GoodIn wsX5_readCommand (wsV RX5 36 RX5 yX5_passes wsX5_passes) := goodIn_app (goodIn_of _ (by decide +kernel)) ggX5_readCommand_X5_passes
set_option maxRecDepth 20000 in
theorem ggX5_readCommand_X5_readNumber : GoodIn wsX5_readCommand wsX5_readNumber := goodIn_r _ [22, 2, 23, 24, 25, 26, 4, 5, 6, 7, 8, 9, 10, 27, 28, 29, 30, 31] (by decide +kernel) (by decide +kernel)
set_option maxRecDepth 20000 in
theorem gX5_readCommand_X5_readNumber : GoodIn wsX5_readCommand (wsV RX5 40 RX5 yX5_readNumber wsX5_readNumber) := goodIn_app (goodIn_of _ (by decide +kernel)) ggX5_readCommand_X5_readNumber
theorem dX5_readCommand_0 : decode cX5_readCommand 0 = .ok (.aload_n 0, 1) := by decide +kernel
theorem dX5_readCommand_1 : decode cX5_readCommand 1 = .ok (.aload_n 0, 1) := by decide +kernel
theorem dX5_readCommand_2 : decode cX5_readCommand 2 = .ok (.iload_n 1, 1) := by decide +kernel
theorem dX5_readCommand_3 : decode cX5_readCommand 3 = .ok (.invokevirtual 21, 3) := by decide +kernel
theorem dX5_readCommand_6 : decode cX5_readCommand 6 = .ok (.putfield 25, 3) := by decide +kernel
theorem dX5_readCommand_9 : decode cX5_readCommand 9 = .ok (.aload_n 0, 1) := by decide +kernel
theorem dX5_readCommand_10 : decode cX5_readCommand 10 = .ok (.iload_n 1, 1) := by decide +kernel
theorem dX5_readCommand_11 : decode cX5_readCommand 11 = .ok (.iconst 1, 1) := by decide +kernel
theorem dX5_readCommand_12 : decode cX5_readCommand 12 = .ok (.iadd, 1) := by decide +kernel
theorem dX5_readCommand_13 : decode cX5_readCommand 13 = .ok (.putfield 29, 3) := by decide +kernel
theorem dX5_readCommand_16 : decode cX5_readCommand 16 = .ok (.aload_n 0, 1) := by decide +kernel
theorem dX5_readCommand_17 : decode cX5_readCommand 17 = .ok (.aload_n 0, 1) := by decide +kernel
theorem dX5_readCommand_18 : decode cX5_readCommand 18 = .ok (.getfield 25, 3) := by decide +kernel
theorem dX5_readCommand_21 : decode cX5_readCommand 21 = .ok (.invokevirtual 32, 3) := by decide +kernel
theorem dX5_readCommand_24 : decode cX5_readCommand 24 = .ok (.istore_n 2, 1) := by decide +kernel
theorem dX5_readCommand_25 : decode cX5_readCommand 25 = .ok (.iload_n 2, 1) := by decide +kernel
theorem dX5_readCommand_26 : decode cX5_readCommand 26 = .ok (.ifCond .ge 5, 3) := by decide +kernel
theorem dX5_readCommand_29 : decode cX5_readCommand 29 = .ok (.iconst 0, 1) := by decide +kernel
theorem dX5_readCommand_30 : decode cX5_readCommand 30 = .ok (.ireturn, 1) := by decide +kernel
theorem dX5_readCommand_31 : decode cX5_readCommand 31 = .ok (.iconst 0, 1) := by decide +kernel
theorem dX5_readCommand_32 : decode cX5_readCommand 32 = .ok (.istore_n 3, 1) := by decide +kernel
theorem dX5_readCommand_33 : decode cX5_readCommand 33 = .ok (.iload_n 3, 1) := by decide +kernel
theorem dX5_readCommand_34 : decode cX5_readCommand 34 = .ok (.iload_n 2, 1) := by decide +kernel
theorem dX5_readCommand_35 : decode cX5_readCommand 35 = .ok (.if_icmp .ge 50, 3) := by decide +kernel
theorem dX5_readCommand_38 : decode cX5_readCommand 38 = .ok (.iload_n 3, 1) := by decide +kernel
theorem dX5_readCommand_39 : decode cX5_readCommand 39 = .ok (.iconst 3, 1) := by decide +kernel
theorem dX5_readCommand_40 : decode cX5_readCommand 40 = .ok (.if_icmp .ge 45, 3) := by decide +kernel
theorem dX5_readCommand_43 : decode cX5_readCommand 43 = .ok (.iload_n 3, 1) := by decide +kernel
theorem dX5_readCommand_44 : decode cX5_readCommand 44 = .ok (.ifCond .le 14, 3) := by decide +kernel
theorem dX5_readCommand_47 : decode cX5_readCommand 47 = .ok (.aload_n 0, 1) := by decide +kernel
theorem dX5_readCommand_48 : decode cX5_readCommand 48 = .ok (.bipush 44, 2) := by decide +kernel
theorem dX5_readCommand_50 : decode cX5_readCommand 50 = .ok (.invokevirtual 36, 3) := by decide +kernel
theorem dX5_readCommand_53 : decode cX5_readCommand 53 = .ok (.ifCond .ne 5, 3) := by decide +kernel
theorem dX5_readCommand_56 : decode cX5_readCommand 56 = .ok (.iconst 0, 1) := by decide +kernel
theorem dX5_readCommand_57 : decode cX5_readCommand 57 = .ok (.ireturn, 1) := by decide +kernel
theorem dX5_readCommand_58 : decode cX5_readCommand 58 = .ok (.aload_n 0, 1) := by decide +kernel
theorem dX5_readCommand_59 : decode cX5_readCommand 59 = .ok (.getfield 13, 3) := by decide +kernel
theorem dX5_readCommand_62 : decode cX5_readCommand 62 = .ok (.iload_n 3, 1) := by decide +kernel
theorem dX5_readCommand_63 : decode cX5_readCommand 63 = .ok (.aload_n 0, 1) := by decide +kernel
theorem dX5_readCommand_64 : decode cX5_readCommand 64 = .ok (.invokevirtual 40, 3) := by decide +kernel
theorem dX5_readCommand_67 : decode cX5_readCommand 67 = .ok (.iastore, 1) := by decide +kernel
theorem dX5_readCommand_68 : decode cX5_readCommand 68 = .ok (.aload_n 0, 1) := by decide +kernel
theorem dX5_readCommand_69 : decode cX5_readCommand 69 = .ok (.getfield 13, 3) := by decide +kernel
theorem dX5_readCommand_72 : decode cX5_readCommand 72 = .ok (.iload_n 3, 1) := by decide +kernel
theorem dX5_readCommand_73 : decode cX5_readCommand 73 = .ok (.iaload, 1) := by decide +kernel
theorem dX5_readCommand_74 : decode cX5_readCommand 74 = .ok (.ifCond .ge 5, 3) := by decide +kernel
theorem dX5_readCommand_77 : decode cX5_readCommand 77 = .ok (.iconst 0, 1) := by decide +kernel
theorem dX5_readCommand_78 : decode cX5_readCommand 78 = .ok (.ireturn, 1) := by decide +kernel
theorem dX5_readCommand_79 : decode cX5_readCommand 79 = .ok (.iinc 3 1, 3) := by decide +kernel
theorem dX5_readCommand_82 : decode cX5_readCommand 82 = .ok (.goto (-49), 3) := by decide +kernel
theorem dX5_readCommand_85 : decode cX5_readCommand 85 = .ok (.aload_n 0, 1) := by decide +kernel
theorem dX5_readCommand_86 : decode cX5_readCommand 86 = .ok (.bipush 59, 2) := by decide +kernel
theorem dX5_readCommand_88 : decode cX5_readCommand 88 = .ok (.invokevirtual 36, 3) := by decide +kernel
theorem dX5_readCommand_91 : decode cX5_readCommand 91 = .ok (.ireturn, 1) := by decide +kernel
theorem dX5_numbersOf_0 : decode cX5_numbersOf 0 = .ok (.iload_n 1, 1) := by decide +kernel
theorem dX5_numbersOf_1 : decode cX5_numbersOf 1 = .ok (.lookupswitch 71 #[(98, 63), (102, 61), (108, 59), (110, 69), (115, 67), (120, 65)], 59) := by decide +kernel
theorem dX5_numbersOf_60 : decode cX5_numbersOf 60 = .ok (.iconst 3, 1) := by decide +kernel
theorem dX5_numbersOf_61 : decode cX5_numbersOf 61 = .ok (.ireturn, 1) := by decide +kernel
theorem dX5_numbersOf_62 : decode cX5_numbersOf 62 = .ok (.iconst 0, 1) := by decide +kernel
theorem dX5_numbersOf_63 : decode cX5_numbersOf 63 = .ok (.ireturn, 1) := by decide +kernel
theorem dX5_numbersOf_64 : decode cX5_numbersOf 64 = .ok (.iconst 3, 1) := by decide +kernel
theorem dX5_numbersOf_65 : decode cX5_numbersOf 65 = .ok (.ireturn, 1) := by decide +kernel
theorem dX5_numbersOf_66 : decode cX5_numbersOf 66 = .ok (.iconst 1, 1) := by decide +kernel
theorem dX5_numbersOf_67 : decode cX5_numbersOf 67 = .ok (.ireturn, 1) := by decide +kernel
theorem dX5_numbersOf_68 : decode cX5_numbersOf 68 = .ok (.iconst 2, 1) := by decide +kernel
theorem dX5_numbersOf_69 : decode cX5_numbersOf 69 = .ok (.ireturn, 1) := by decide +kernel
theorem dX5_numbersOf_70 : decode cX5_numbersOf 70 = .ok (.iconst 1, 1) := by decide +kernel
theorem dX5_numbersOf_71 : decode cX5_numbersOf 71 = .ok (.ireturn, 1) := by decide +kernel
theorem dX5_numbersOf_72 : decode cX5_numbersOf 72 = .ok (.iconst (-1), 1) := by decide +kernel
theorem dX5_numbersOf_73 : decode cX5_numbersOf 73 = .ok (.ireturn, 1) := by decide +kernel
set_option maxRecDepth 20000 in
theorem ggX5_readNumber_X5_at : GoodIn wsX5_readNumber wsX5_at := goodIn_r _ [10, 11, 12, 13, 14, 15, 16, 17] (by decide +kernel) (by decide +kernel)
set_option maxRecDepth 20000 in
theorem gX5_readNumber_X5_at : GoodIn wsX5_readNumber (wsV RX5 21 RX5 yX5_at wsX5_at) := goodIn_app (goodIn_of _ (by decide +kernel)) ggX5_readNumber_X5_at
theorem dX5_readNumber_0 : decode cX5_readNumber 0 = .ok (.iconst (-1), 1) := by decide +kernel
theorem dX5_readNumber_1 : decode cX5_readNumber 1 = .ok (.istore_n 1, 1) := by decide +kernel
theorem dX5_readNumber_2 : decode cX5_readNumber 2 = .ok (.iconst 0, 1) := by decide +kernel
theorem dX5_readNumber_3 : decode cX5_readNumber 3 = .ok (.istore_n 2, 1) := by decide +kernel
theorem dX5_readNumber_4 : decode cX5_readNumber 4 = .ok (.iload_n 2, 1) := by decide +kernel
theorem dX5_readNumber_5 : decode cX5_readNumber 5 = .ok (.iconst 3, 1) := by decide +kernel
theorem dX5_readNumber_6 : decode cX5_readNumber 6 = .ok (.if_icmp .ge 56, 3) := by decide +kernel
theorem dX5_readNumber_9 : decode cX5_readNumber 9 = .ok (.aload_n 0, 1) := by decide +kernel
theorem dX5_readNumber_10 : decode cX5_readNumber 10 = .ok (.aload_n 0, 1) := by decide +kernel
theorem dX5_readNumber_11 : decode cX5_readNumber 11 = .ok (.getfield 29, 3) := by decide +kernel
theorem dX5_readNumber_14 : decode cX5_readNumber 14 = .ok (.invokevirtual 21, 3) := by decide +kernel
theorem dX5_readNumber_17 : decode cX5_readNumber 17 = .ok (.istore_n 3, 1) := by decide +kernel
theorem dX5_readNumber_18 : decode cX5_readNumber 18 = .ok (.iload_n 3, 1) := by decide +kernel
theorem dX5_readNumber_19 : decode cX5_readNumber 19 = .ok (.bipush 48, 2) := by decide +kernel
theorem dX5_readNumber_21 : decode cX5_readNumber 21 = .ok (.if_icmp .lt 9, 3) := by decide +kernel
theorem dX5_readNumber_24 : decode cX5_readNumber 24 = .ok (.iload_n 3, 1) := by decide +kernel
theorem dX5_readNumber_25 : decode cX5_readNumber 25 = .ok (.bipush 57, 2) := by decide +kernel
theorem dX5_readNumber_27 : decode cX5_readNumber 27 = .ok (.if_icmp .le 5, 3) := by decide +kernel
theorem dX5_readNumber_30 : decode cX5_readNumber 30 = .ok (.iload_n 1, 1) := by decide +kernel
theorem dX5_readNumber_31 : decode cX5_readNumber 31 = .ok (.ireturn, 1) := by decide +kernel
theorem dX5_readNumber_32 : decode cX5_readNumber 32 = .ok (.iload_n 1, 1) := by decide +kernel
theorem dX5_readNumber_33 : decode cX5_readNumber 33 = .ok (.iconst 0, 1) := by decide +kernel
theorem dX5_readNumber_34 : decode cX5_readNumber 34 = .ok (.invokestatic 44, 3) := by decide +kernel
theorem dX5_readNumber_37 : decode cX5_readNumber 37 = .ok (.bipush 10, 2) := by decide +kernel
theorem dX5_readNumber_39 : decode cX5_readNumber 39 = .ok (.imul, 1) := by decide +kernel
theorem dX5_readNumber_40 : decode cX5_readNumber 40 = .ok (.iload_n 3, 1) := by decide +kernel
theorem dX5_readNumber_41 : decode cX5_readNumber 41 = .ok (.bipush 48, 2) := by decide +kernel
theorem dX5_readNumber_43 : decode cX5_readNumber 43 = .ok (.isub, 1) := by decide +kernel
theorem dX5_readNumber_44 : decode cX5_readNumber 44 = .ok (.iadd, 1) := by decide +kernel
theorem dX5_readNumber_45 : decode cX5_readNumber 45 = .ok (.istore_n 1, 1) := by decide +kernel
theorem dX5_readNumber_46 : decode cX5_readNumber 46 = .ok (.aload_n 0, 1) := by decide +kernel
theorem dX5_readNumber_47 : decode cX5_readNumber 47 = .ok (.dup, 1) := by decide +kernel
theorem dX5_readNumber_48 : decode cX5_readNumber 48 = .ok (.getfield 29, 3) := by decide +kernel
theorem dX5_readNumber_51 : decode cX5_readNumber 51 = .ok (.iconst 1, 1) := by decide +kernel
theorem dX5_readNumber_52 : decode cX5_readNumber 52 = .ok (.iadd, 1) := by decide +kernel
theorem dX5_readNumber_53 : decode cX5_readNumber 53 = .ok (.putfield 29, 3) := by decide +kernel
theorem dX5_readNumber_56 : decode cX5_readNumber 56 = .ok (.iinc 2 1, 3) := by decide +kernel
theorem dX5_readNumber_59 : decode cX5_readNumber 59 = .ok (.goto (-55), 3) := by decide +kernel
theorem dX5_readNumber_62 : decode cX5_readNumber 62 = .ok (.iload_n 1, 1) := by decide +kernel
theorem dX5_readNumber_63 : decode cX5_readNumber 63 = .ok (.ireturn, 1) := by decide +kernel
set_option maxRecDepth 20000 in
theorem ggX5_passes_X5_at : GoodIn wsX5_passes wsX5_at := goodIn_r _ [6, 7, 8, 9, 10, 11, 12, 13] (by decide +kernel) (by decide +kernel)
set_option maxRecDepth 20000 in
theorem gX5_passes_X5_at : GoodIn wsX5_passes (wsV RX5 21 RX5 yX5_at wsX5_at) := goodIn_app (goodIn_of _ (by decide +kernel)) ggX5_passes_X5_at
theorem dX5_passes_0 : decode cX5_passes 0 = .ok (.aload_n 0, 1) := by decide +kernel
theorem dX5_passes_1 : decode cX5_passes 1 = .ok (.aload_n 0, 1) := by decide +kernel
theorem dX5_passes_2 : decode cX5_passes 2 = .ok (.getfield 29, 3) := by decide +kernel
theorem dX5_passes_5 : decode cX5_passes 5 = .ok (.invokevirtual 21, 3) := by decide +kernel
theorem dX5_passes_8 : decode cX5_passes 8 = .ok (.iload_n 1, 1) := by decide +kernel
theorem dX5_passes_9 : decode cX5_passes 9 = .ok (.if_icmp .eq 5, 3) := by decide +kernel
theorem dX5_passes_12 : decode cX5_passes 12 = .ok (.iconst 0, 1) := by decide +kernel
theorem dX5_passes_13 : decode cX5_passes 13 = .ok (.ireturn, 1) := by decide +kernel
theorem dX5_passes_14 : decode cX5_passes 14 = .ok (.aload_n 0, 1) := by decide +kernel
theorem dX5_passes_15 : decode cX5_passes 15 = .ok (.dup, 1) := by decide +kernel
theorem dX5_passes_16 : decode cX5_passes 16 = .ok (.getfield 29, 3) := by decide +kernel
theorem dX5_passes_19 : decode cX5_passes 19 = .ok (.iconst 1, 1) := by decide +kernel
theorem dX5_passes_20 : decode cX5_passes 20 = .ok (.iadd, 1) := by decide +kernel
theorem dX5_passes_21 : decode cX5_passes 21 = .ok (.putfield 29, 3) := by decide +kernel
theorem dX5_passes_24 : decode cX5_passes 24 = .ok (.iconst 1, 1) := by decide +kernel
theorem dX5_passes_25 : decode cX5_passes 25 = .ok (.ireturn, 1) := by decide +kernel
theorem dX5_at_0 : decode cX5_at 0 = .ok (.iload_n 1, 1) := by decide +kernel
theorem dX5_at_1 : decode cX5_at 1 = .ok (.ifCond .lt 20, 3) := by decide +kernel
theorem dX5_at_4 : decode cX5_at 4 = .ok (.iload_n 1, 1) := by decide +kernel
theorem dX5_at_5 : decode cX5_at 5 = .ok (.aload_n 0, 1) := by decide +kernel
theorem dX5_at_6 : decode cX5_at 6 = .ok (.getfield 17, 3) := by decide +kernel
theorem dX5_at_9 : decode cX5_at 9 = .ok (.if_icmp .ge 12, 3) := by decide +kernel
theorem dX5_at_12 : decode cX5_at 12 = .ok (.aload_n 0, 1) := by decide +kernel
theorem dX5_at_13 : decode cX5_at 13 = .ok (.getfield 9, 3) := by decide +kernel
theorem dX5_at_16 : decode cX5_at 16 = .ok (.iload_n 1, 1) := by decide +kernel
theorem dX5_at_17 : decode cX5_at 17 = .ok (.caload, 1) := by decide +kernel
theorem dX5_at_18 : decode cX5_at 18 = .ok (.goto 4, 3) := by decide +kernel
theorem dX5_at_21 : decode cX5_at 21 = .ok (.iconst 0, 1) := by decide +kernel
theorem dX5_at_22 : decode cX5_at 22 = .ok (.ireturn, 1) := by decide +kernel
set_option maxRecDepth 20000 in
theorem ggX6_init_X1_init : GoodIn wsX6_init wsX1_init := goodIn_r _ [25, 26, 2, 3, 27, 28, 29, 30, 31, 32, 33, 34, 35, 36, 37, 38, 39, 40, 41, 42, 43, 44, 45, 46, 47, 48, 49, 50, 51, 52, 53, 54, 55, 56, 57, 58, 59, 60, 61, 62, 115, 116, 117, 118, 119, 120, 121, 122, 123, 124, 125, 85, 86, 87, 88, 89, 90, 91, 92, 93, 94, 126, 127, 128, 129, 130, 131, 132] (by decide +kernel) (by decide +kernel)
set_option maxRecDepth 20000 in
theorem gX6_init_X1_init : GoodIn wsX6_init (wsX1_init) := ggX6_init_X1_init
set_option maxRecDepth 20000 in
theorem ggX6_init_X0_init : GoodIn wsX6_init wsX0_init := goodIn_r _ [65, 66, 2, 3, 67, 68, 5, 6, 69, 24, 25, 26, 27, 28, 29, 30, 31, 32, 33, 34, 35, 36, 37, 38, 39, 40, 41, 42, 43, 44, 45, 46, 47, 48, 49, 50, 51, 52, 53, 54, 55, 56, 57, 58, 59, 60, 61, 62, 102, 103, 85, 86, 87, 88, 89, 90, 91, 92, 93, 94, 115, 116, 117, 118, 119, 120, 121, 122, 123, 124, 125, 126, 127, 128, 129, 130, 131, 132] (by decide +kernel) (by decide +kernel)
set_option maxRecDepth 20000 in
theorem gX6_init_X0_init : GoodIn wsX6_init (wsX0_init) := ggX6_init_X0_init
set_option maxRecDepth 20000 in
theorem ggX6_init_X5_init : GoodIn wsX6_init wsX5_init := goodIn_r _ [72, 73, 2, 3, 74, 75, 37, 76, 104, 105, 106, 107, 108] (by decide +kernel) (by decide +kernel)
set_option maxRecDepth 20000 in
theorem gX6_init_X5_init : GoodIn wsX6_init (wsX5_init) := ggX6_init_X5_init
set_option maxRecDepth 20000 in
theorem ggX6_init_X3_init : GoodIn wsX6_init wsX3_init := goodIn_r _ [79, 80, 2, 3, 81, 5, 6, 82, 83, 84, 24, 25, 26, 27, 28, 29, 30, 31, 32, 33, 34, 35, 36, 37, 38, 39, 40, 41, 42, 43, 44, 45, 46, 47, 48, 49, 50, 51, 52, 53, 54, 55, 56, 57, 58, 59, 60, 61, 62, 85, 86, 87, 88, 89, 90, 91, 92, 93, 94, 109, 110, 111, 112, 113, 114, 115, 116, 117, 118, 119, 120, 121, 122, 123, 124, 125, 126, 127, 128, 129, 130, 131, 132] (by decide +kernel) (by decide +kernel)
set_option maxRecDepth 20000 in
theorem gX6_init_X3_init : GoodIn wsX6_init (wsX3_init) := ggX6_init_X3_init
