set_option maxRecDepth 20000 in
theorem ggX6_sleep_X1_passNights : GoodIn wsX6_sleep wsX1_passNights := goodIn_r _ [62, 23, 25, 63, 64, 65, 13, 66, 16, 22, 15, 28, 67, 68, 69, 70, 26, 27, 71, 72, 73, 74, 17, 75, 76, 77, 49, 78, 58, 55, 56, 54, 79, 80, 81, 82, 51, 83, 84, 85, 86, 53, 57, 87, 88, 89, 32, 90, 44, 34, 36, 91, 92, 93, 94, 95, 96, 97, 98, 42, 99, 100, 101, 102, 103, 104, 105, 106, 107, 108, 109, 110, 37, 43, 111, 112, 113, 114, 133, 134, 135, 136, 137, 138, 139, 140, 141, 142, 154, 155, 156, 157, 158, 159, 160, 143, 144, 145, 146, 147, 148, 149, 150, 151, 152, 153] (by decide +kernel) (by decide +kernel)
set_option maxRecDepth 20000 in
theorem gX6_sleep_X1_passNights : GoodIn wsX6_sleep (wsV RX6 77 RX1 yX1_passNights wsX1_passNights) := goodIn_app (goodIn_of _ (by decide +kernel)) ggX6_sleep_X1_passNights
set_option maxRecDepth 20000 in
theorem ggX6_sleep_X6_recorded : GoodIn wsX6_sleep wsX6_recorded := goodIn_r _ [119, 1, 120, 121, 122, 6, 123, 8, 9, 124, 125, 126, 127, 128, 129, 130, 131, 132] (by decide +kernel) (by decide +kernel)
set_option maxRecDepth 20000 in
theorem gX6_sleep_X6_recorded : GoodIn wsX6_sleep (wsV RX6 55 RX6 yX6_recorded wsX6_recorded) := goodIn_app (goodIn_of _ (by decide +kernel)) ggX6_sleep_X6_recorded
theorem dX6_sleep_0 : decode cX6_sleep 0 = .ok (.aload_n 0, 1) := by decide +kernel
theorem dX6_sleep_1 : decode cX6_sleep 1 = .ok (.getfield 25, 3) := by decide +kernel
theorem dX6_sleep_4 : decode cX6_sleep 4 = .ok (.aload_n 0, 1) := by decide +kernel
theorem dX6_sleep_5 : decode cX6_sleep 5 = .ok (.getfield 10, 3) := by decide +kernel
theorem dX6_sleep_8 : decode cX6_sleep 8 = .ok (.invokevirtual 47, 3) := by decide +kernel
theorem dX6_sleep_11 : decode cX6_sleep 11 = .ok (.aload_n 0, 1) := by decide +kernel
theorem dX6_sleep_12 : decode cX6_sleep 12 = .ok (.aload_n 0, 1) := by decide +kernel
theorem dX6_sleep_13 : decode cX6_sleep 13 = .ok (.getfield 10, 3) := by decide +kernel
theorem dX6_sleep_16 : decode cX6_sleep 16 = .ok (.iload_n 1, 1) := by decide +kernel
theorem dX6_sleep_17 : decode cX6_sleep 17 = .ok (.invokevirtual 77, 3) := by decide +kernel
theorem dX6_sleep_20 : decode cX6_sleep 20 = .ok (.invokevirtual 55, 3) := by decide +kernel
theorem dX6_sleep_23 : decode cX6_sleep 23 = .ok (.ireturn, 1) := by decide +kernel
set_option maxRecDepth 20000 in
theorem ggX6_set_X0_prepare : GoodIn wsX6_set wsX0_prepare := goodIn_r _ [7, 8, 9, 10, 11, 12, 13, 14, 15, 16, 17, 18, 19, 20, 21, 22, 23, 24, 25, 26, 27, 28, 29, 30, 31, 32, 33, 34, 35, 36, 37, 38, 39, 40, 41, 42, 43, 44, 45, 46, 47, 48, 49, 50, 51, 52, 53, 54, 55, 56, 57, 58, 81, 82, 83, 84, 85, 86, 87, 88, 89, 90, 91, 92, 93, 94, 95, 96, 97, 98, 99, 100, 101, 102, 103, 104, 105, 106, 107, 108, 109, 110] (by decide +kernel) (by decide +kernel)
set_option maxRecDepth 20000 in
theorem gX6_set_X0_prepare : GoodIn wsX6_set (wsV RX6 47 RX0 yX0_prepare wsX0_prepare) := goodIn_app (goodIn_of _ (by decide +kernel)) ggX6_set_X0_prepare
set_option maxRecDepth 20000 in
theorem ggX6_set_X1_changeSetting : GoodIn wsX6_set wsX1_changeSetting := goodIn_r _ [62, 63, 64, 22, 83, 84, 85, 86, 87, 88, 89, 90, 91, 92] (by decide +kernel) (by decide +kernel)
set_option maxRecDepth 20000 in
theorem gX6_set_X1_changeSetting : GoodIn wsX6_set (wsV RX6 80 RX1 yX1_changeSetting wsX1_changeSetting) := goodIn_app (goodIn_of _ (by decide +kernel)) ggX6_set_X1_changeSetting
set_option maxRecDepth 20000 in
theorem ggX6_set_X6_recorded : GoodIn wsX6_set wsX6_recorded := goodIn_r _ [69, 1, 70, 71, 72, 6, 73, 8, 9, 74, 75, 76, 77, 78, 79, 80, 81, 82] (by decide +kernel) (by decide +kernel)
set_option maxRecDepth 20000 in
theorem gX6_set_X6_recorded : GoodIn wsX6_set (wsV RX6 55 RX6 yX6_recorded wsX6_recorded) := goodIn_app (goodIn_of _ (by decide +kernel)) ggX6_set_X6_recorded
theorem dX6_set_0 : decode cX6_set 0 = .ok (.aload_n 0, 1) := by decide +kernel
theorem dX6_set_1 : decode cX6_set 1 = .ok (.getfield 25, 3) := by decide +kernel
theorem dX6_set_4 : decode cX6_set 4 = .ok (.aload_n 0, 1) := by decide +kernel
theorem dX6_set_5 : decode cX6_set 5 = .ok (.getfield 10, 3) := by decide +kernel
theorem dX6_set_8 : decode cX6_set 8 = .ok (.invokevirtual 47, 3) := by decide +kernel
theorem dX6_set_11 : decode cX6_set 11 = .ok (.aload_n 0, 1) := by decide +kernel
theorem dX6_set_12 : decode cX6_set 12 = .ok (.aload_n 0, 1) := by decide +kernel
theorem dX6_set_13 : decode cX6_set 13 = .ok (.getfield 10, 3) := by decide +kernel
theorem dX6_set_16 : decode cX6_set 16 = .ok (.iload_n 1, 1) := by decide +kernel
theorem dX6_set_17 : decode cX6_set 17 = .ok (.iload_n 2, 1) := by decide +kernel
theorem dX6_set_18 : decode cX6_set 18 = .ok (.invokevirtual 80, 3) := by decide +kernel
theorem dX6_set_21 : decode cX6_set 21 = .ok (.invokevirtual 55, 3) := by decide +kernel
theorem dX6_set_24 : decode cX6_set 24 = .ok (.ireturn, 1) := by decide +kernel
set_option maxRecDepth 20000 in
theorem ggX6_lotOf_X4_isKind : GoodIn wsX6_lotOf wsX4_isKind := goodIn_r _ [8] (by decide +kernel) (by decide +kernel)
set_option maxRecDepth 20000 in
theorem gX6_lotOf_X4_isKind : GoodIn wsX6_lotOf (va_wsS RX6 83 yX4_isKind wsX4_isKind) := goodIn_app (goodIn_of _ (by decide +kernel)) ggX6_lotOf_X4_isKind
set_option maxRecDepth 20000 in
theorem ggX6_lotOf_X4_find : GoodIn wsX6_lotOf wsX4_find := goodIn_r _ [12, 13, 14, 32, 33, 34, 35, 36, 37, 38, 39, 40, 41, 42] (by decide +kernel) (by decide +kernel)
set_option maxRecDepth 20000 in
theorem gX6_lotOf_X4_find : GoodIn wsX6_lotOf (wsV RX6 93 RX4 yX4_find wsX4_find) := goodIn_app (goodIn_of _ (by decide +kernel)) ggX6_lotOf_X4_find
theorem dX6_lotOf_0 : decode cX6_lotOf 0 = .ok (.iload_n 1, 1) := by decide +kernel
theorem dX6_lotOf_1 : decode cX6_lotOf 1 = .ok (.invokestatic 83, 3) := by decide +kernel
theorem dX6_lotOf_4 : decode cX6_lotOf 4 = .ok (.ifCond .eq 16, 3) := by decide +kernel
theorem dX6_lotOf_7 : decode cX6_lotOf 7 = .ok (.iload_n 3, 1) := by decide +kernel
theorem dX6_lotOf_8 : decode cX6_lotOf 8 = .ok (.ifCond .lt 12, 3) := by decide +kernel
theorem dX6_lotOf_11 : decode cX6_lotOf 11 = .ok (.iload_n 3, 1) := by decide +kernel
theorem dX6_lotOf_12 : decode cX6_lotOf 12 = .ok (.iconst 1, 1) := by decide +kernel
theorem dX6_lotOf_13 : decode cX6_lotOf 13 = .ok (.if_icmp .gt 7, 3) := by decide +kernel
theorem dX6_lotOf_16 : decode cX6_lotOf 16 = .ok (.iload_n 2, 1) := by decide +kernel
theorem dX6_lotOf_17 : decode cX6_lotOf 17 = .ok (.ifCond .ge 5, 3) := by decide +kernel
theorem dX6_lotOf_20 : decode cX6_lotOf 20 = .ok (.iconst (-1), 1) := by decide +kernel
theorem dX6_lotOf_21 : decode cX6_lotOf 21 = .ok (.ireturn, 1) := by decide +kernel
theorem dX6_lotOf_22 : decode cX6_lotOf 22 = .ok (.aload_n 0, 1) := by decide +kernel
theorem dX6_lotOf_23 : decode cX6_lotOf 23 = .ok (.getfield 10, 3) := by decide +kernel
theorem dX6_lotOf_26 : decode cX6_lotOf 26 = .ok (.getfield 89, 3) := by decide +kernel
theorem dX6_lotOf_29 : decode cX6_lotOf 29 = .ok (.iload_n 1, 1) := by decide +kernel
theorem dX6_lotOf_30 : decode cX6_lotOf 30 = .ok (.iload_n 2, 1) := by decide +kernel
theorem dX6_lotOf_31 : decode cX6_lotOf 31 = .ok (.invokevirtual 93, 3) := by decide +kernel
theorem dX6_lotOf_34 : decode cX6_lotOf 34 = .ok (.istore 4, 2) := by decide +kernel
theorem dX6_lotOf_36 : decode cX6_lotOf 36 = .ok (.iload 4, 2) := by decide +kernel
theorem dX6_lotOf_38 : decode cX6_lotOf 38 = .ok (.ifCond .ge 6, 3) := by decide +kernel
theorem dX6_lotOf_41 : decode cX6_lotOf 41 = .ok (.bipush (-4), 2) := by decide +kernel
theorem dX6_lotOf_43 : decode cX6_lotOf 43 = .ok (.ireturn, 1) := by decide +kernel
theorem dX6_lotOf_44 : decode cX6_lotOf 44 = .ok (.iload_n 3, 1) := by decide +kernel
theorem dX6_lotOf_45 : decode cX6_lotOf 45 = .ok (.ifCond .ne 19, 3) := by decide +kernel
theorem dX6_lotOf_48 : decode cX6_lotOf 48 = .ok (.aload_n 0, 1) := by decide +kernel
theorem dX6_lotOf_49 : decode cX6_lotOf 49 = .ok (.getfield 10, 3) := by decide +kernel
theorem dX6_lotOf_52 : decode cX6_lotOf 52 = .ok (.getfield 89, 3) := by decide +kernel
theorem dX6_lotOf_55 : decode cX6_lotOf 55 = .ok (.getfield 96, 3) := by decide +kernel
theorem dX6_lotOf_58 : decode cX6_lotOf 58 = .ok (.iload 4, 2) := by decide +kernel
theorem dX6_lotOf_60 : decode cX6_lotOf 60 = .ok (.iaload, 1) := by decide +kernel
theorem dX6_lotOf_61 : decode cX6_lotOf 61 = .ok (.goto 16, 3) := by decide +kernel
theorem dX6_lotOf_64 : decode cX6_lotOf 64 = .ok (.aload_n 0, 1) := by decide +kernel
theorem dX6_lotOf_65 : decode cX6_lotOf 65 = .ok (.getfield 10, 3) := by decide +kernel
theorem dX6_lotOf_68 : decode cX6_lotOf 68 = .ok (.getfield 89, 3) := by decide +kernel
theorem dX6_lotOf_71 : decode cX6_lotOf 71 = .ok (.getfield 100, 3) := by decide +kernel
theorem dX6_lotOf_74 : decode cX6_lotOf 74 = .ok (.iload 4, 2) := by decide +kernel
theorem dX6_lotOf_76 : decode cX6_lotOf 76 = .ok (.iaload, 1) := by decide +kernel
theorem dX6_lotOf_77 : decode cX6_lotOf 77 = .ok (.ireturn, 1) := by decide +kernel
set_option maxRecDepth 20000 in
theorem ggX6_storeOf_X4_isKind : GoodIn wsX6_storeOf wsX4_isKind := goodIn_r _ [9] (by decide +kernel) (by decide +kernel)
set_option maxRecDepth 20000 in
theorem gX6_storeOf_X4_isKind : GoodIn wsX6_storeOf (va_wsS RX6 83 yX4_isKind wsX4_isKind) := goodIn_app (goodIn_of _ (by decide +kernel)) ggX6_storeOf_X4_isKind
set_option maxRecDepth 20000 in
theorem ggX6_storeOf_X4_stock : GoodIn wsX6_storeOf wsX4_stock := goodIn_r _ [13, 14, 15, 16, 45, 46, 47, 48, 49, 50, 51, 52, 53, 54, 55] (by decide +kernel) (by decide +kernel)
set_option maxRecDepth 20000 in
theorem gX6_storeOf_X4_stock : GoodIn wsX6_storeOf (wsV RX6 103 RX4 yX4_stock wsX4_stock) := goodIn_app (goodIn_of _ (by decide +kernel)) ggX6_storeOf_X4_stock
set_option maxRecDepth 20000 in
theorem ggX6_storeOf_X4_lotsOfKind : GoodIn wsX6_storeOf wsX4_lotsOfKind := goodIn_r _ [20, 14, 15, 45, 46, 47, 48, 49, 50, 51, 52, 53, 54, 55] (by decide +kernel) (by decide +kernel)
set_option maxRecDepth 20000 in
theorem gX6_storeOf_X4_lotsOfKind : GoodIn wsX6_storeOf (wsV RX6 115 RX4 yX4_lotsOfKind wsX4_lotsOfKind) := goodIn_app (goodIn_of _ (by decide +kernel)) ggX6_storeOf_X4_lotsOfKind
set_option maxRecDepth 20000 in
theorem ggX6_storeOf_X4_amountOnPallet : GoodIn wsX6_storeOf wsX4_amountOnPallet := goodIn_r _ [24, 25, 26, 27, 45, 46, 47, 48, 49, 50, 51, 52, 53, 54, 55] (by decide +kernel) (by decide +kernel)
set_option maxRecDepth 20000 in
theorem gX6_storeOf_X4_amountOnPallet : GoodIn wsX6_storeOf (wsV RX6 118 RX4 yX4_amountOnPallet wsX4_amountOnPallet) := goodIn_app (goodIn_of _ (by decide +kernel)) ggX6_storeOf_X4_amountOnPallet
theorem dX6_storeOf_0 : decode cX6_storeOf 0 = .ok (.iload_n 1, 1) := by decide +kernel
theorem dX6_storeOf_1 : decode cX6_storeOf 1 = .ok (.invokestatic 83, 3) := by decide +kernel
theorem dX6_storeOf_4 : decode cX6_storeOf 4 = .ok (.ifCond .ne 5, 3) := by decide +kernel
theorem dX6_storeOf_7 : decode cX6_storeOf 7 = .ok (.iconst (-1), 1) := by decide +kernel
theorem dX6_storeOf_8 : decode cX6_storeOf 8 = .ok (.ireturn, 1) := by decide +kernel
theorem dX6_storeOf_9 : decode cX6_storeOf 9 = .ok (.aload_n 0, 1) := by decide +kernel
theorem dX6_storeOf_10 : decode cX6_storeOf 10 = .ok (.getfield 10, 3) := by decide +kernel
theorem dX6_storeOf_13 : decode cX6_storeOf 13 = .ok (.getfield 89, 3) := by decide +kernel
theorem dX6_storeOf_16 : decode cX6_storeOf 16 = .ok (.astore_n 3, 1) := by decide +kernel
theorem dX6_storeOf_17 : decode cX6_storeOf 17 = .ok (.iload_n 2, 1) := by decide +kernel
theorem dX6_storeOf_18 : decode cX6_storeOf 18 = .ok (.tableswitch 77 0 5 #[38, 44, 51, 58, 65, 71], 38) := by decide +kernel
theorem dX6_storeOf_56 : decode cX6_storeOf 56 = .ok (.aload_n 3, 1) := by decide +kernel
theorem dX6_storeOf_57 : decode cX6_storeOf 57 = .ok (.iload_n 1, 1) := by decide +kernel
theorem dX6_storeOf_58 : decode cX6_storeOf 58 = .ok (.invokevirtual 103, 3) := by decide +kernel
theorem dX6_storeOf_61 : decode cX6_storeOf 61 = .ok (.ireturn, 1) := by decide +kernel
theorem dX6_storeOf_62 : decode cX6_storeOf 62 = .ok (.aload_n 3, 1) := by decide +kernel
theorem dX6_storeOf_63 : decode cX6_storeOf 63 = .ok (.getfield 106, 3) := by decide +kernel
theorem dX6_storeOf_66 : decode cX6_storeOf 66 = .ok (.iload_n 1, 1) := by decide +kernel
theorem dX6_storeOf_67 : decode cX6_storeOf 67 = .ok (.iaload, 1) := by decide +kernel
theorem dX6_storeOf_68 : decode cX6_storeOf 68 = .ok (.ireturn, 1) := by decide +kernel
theorem dX6_storeOf_69 : decode cX6_storeOf 69 = .ok (.aload_n 3, 1) := by decide +kernel
theorem dX6_storeOf_70 : decode cX6_storeOf 70 = .ok (.getfield 109, 3) := by decide +kernel
theorem dX6_storeOf_73 : decode cX6_storeOf 73 = .ok (.iload_n 1, 1) := by decide +kernel
theorem dX6_storeOf_74 : decode cX6_storeOf 74 = .ok (.iaload, 1) := by decide +kernel
theorem dX6_storeOf_75 : decode cX6_storeOf 75 = .ok (.ireturn, 1) := by decide +kernel
theorem dX6_storeOf_76 : decode cX6_storeOf 76 = .ok (.aload_n 3, 1) := by decide +kernel
theorem dX6_storeOf_77 : decode cX6_storeOf 77 = .ok (.getfield 112, 3) := by decide +kernel
theorem dX6_storeOf_80 : decode cX6_storeOf 80 = .ok (.iload_n 1, 1) := by decide +kernel
theorem dX6_storeOf_81 : decode cX6_storeOf 81 = .ok (.iaload, 1) := by decide +kernel
theorem dX6_storeOf_82 : decode cX6_storeOf 82 = .ok (.ireturn, 1) := by decide +kernel
theorem dX6_storeOf_83 : decode cX6_storeOf 83 = .ok (.aload_n 3, 1) := by decide +kernel
theorem dX6_storeOf_84 : decode cX6_storeOf 84 = .ok (.iload_n 1, 1) := by decide +kernel
theorem dX6_storeOf_85 : decode cX6_storeOf 85 = .ok (.invokevirtual 115, 3) := by decide +kernel
theorem dX6_storeOf_88 : decode cX6_storeOf 88 = .ok (.ireturn, 1) := by decide +kernel
theorem dX6_storeOf_89 : decode cX6_storeOf 89 = .ok (.aload_n 3, 1) := by decide +kernel
theorem dX6_storeOf_90 : decode cX6_storeOf 90 = .ok (.iload_n 1, 1) := by decide +kernel
theorem dX6_storeOf_91 : decode cX6_storeOf 91 = .ok (.invokevirtual 118, 3) := by decide +kernel
theorem dX6_storeOf_94 : decode cX6_storeOf 94 = .ok (.ireturn, 1) := by decide +kernel
theorem dX6_storeOf_95 : decode cX6_storeOf 95 = .ok (.iconst (-1), 1) := by decide +kernel
theorem dX6_storeOf_96 : decode cX6_storeOf 96 = .ok (.ireturn, 1) := by decide +kernel
set_option maxRecDepth 20000 in
theorem ggX6_partyOf_X2_has : GoodIn wsX6_partyOf wsX2_has := goodIn_r _ [17, 18, 36, 37, 38, 39, 40, 41, 42] (by decide +kernel) (by decide +kernel)
set_option maxRecDepth 20000 in
theorem gX6_partyOf_X2_has : GoodIn wsX6_partyOf (wsV RX6 125 RX2 yX2_has wsX2_has) := goodIn_app (goodIn_of _ (by decide +kernel)) ggX6_partyOf_X2_has
theorem dX6_partyOf_0 : decode cX6_partyOf 0 = .ok (.aload_n 0, 1) := by decide +kernel
theorem dX6_partyOf_1 : decode cX6_partyOf 1 = .ok (.getfield 10, 3) := by decide +kernel
theorem dX6_partyOf_4 : decode cX6_partyOf 4 = .ok (.getfield 121, 3) := by decide +kernel
theorem dX6_partyOf_7 : decode cX6_partyOf 7 = .ok (.astore_n 3, 1) := by decide +kernel
theorem dX6_partyOf_8 : decode cX6_partyOf 8 = .ok (.aload_n 3, 1) := by decide +kernel
theorem dX6_partyOf_9 : decode cX6_partyOf 9 = .ok (.iload_n 1, 1) := by decide +kernel
theorem dX6_partyOf_10 : decode cX6_partyOf 10 = .ok (.invokevirtual 125, 3) := by decide +kernel
theorem dX6_partyOf_13 : decode cX6_partyOf 13 = .ok (.ifCond .ne 5, 3) := by decide +kernel
theorem dX6_partyOf_16 : decode cX6_partyOf 16 = .ok (.iconst (-1), 1) := by decide +kernel
theorem dX6_partyOf_17 : decode cX6_partyOf 17 = .ok (.ireturn, 1) := by decide +kernel
theorem dX6_partyOf_18 : decode cX6_partyOf 18 = .ok (.iload_n 2, 1) := by decide +kernel
theorem dX6_partyOf_19 : decode cX6_partyOf 19 = .ok (.tableswitch 115 0 6 #[41, 48, 55, 62, 69, 76, 97], 41) := by decide +kernel
theorem dX6_partyOf_60 : decode cX6_partyOf 60 = .ok (.aload_n 3, 1) := by decide +kernel
theorem dX6_partyOf_61 : decode cX6_partyOf 61 = .ok (.getfield 130, 3) := by decide +kernel
theorem dX6_partyOf_64 : decode cX6_partyOf 64 = .ok (.iload_n 1, 1) := by decide +kernel
theorem dX6_partyOf_65 : decode cX6_partyOf 65 = .ok (.iaload, 1) := by decide +kernel
theorem dX6_partyOf_66 : decode cX6_partyOf 66 = .ok (.ireturn, 1) := by decide +kernel
theorem dX6_partyOf_67 : decode cX6_partyOf 67 = .ok (.aload_n 3, 1) := by decide +kernel
theorem dX6_partyOf_68 : decode cX6_partyOf 68 = .ok (.getfield 133, 3) := by decide +kernel
theorem dX6_partyOf_71 : decode cX6_partyOf 71 = .ok (.iload_n 1, 1) := by decide +kernel
theorem dX6_partyOf_72 : decode cX6_partyOf 72 = .ok (.iaload, 1) := by decide +kernel
theorem dX6_partyOf_73 : decode cX6_partyOf 73 = .ok (.ireturn, 1) := by decide +kernel
theorem dX6_partyOf_74 : decode cX6_partyOf 74 = .ok (.aload_n 3, 1) := by decide +kernel
theorem dX6_partyOf_75 : decode cX6_partyOf 75 = .ok (.getfield 136, 3) := by decide +kernel
theorem dX6_partyOf_78 : decode cX6_partyOf 78 = .ok (.iload_n 1, 1) := by decide +kernel
theorem dX6_partyOf_79 : decode cX6_partyOf 79 = .ok (.iaload, 1) := by decide +kernel
theorem dX6_partyOf_80 : decode cX6_partyOf 80 = .ok (.ireturn, 1) := by decide +kernel
theorem dX6_partyOf_81 : decode cX6_partyOf 81 = .ok (.aload_n 3, 1) := by decide +kernel
theorem dX6_partyOf_82 : decode cX6_partyOf 82 = .ok (.getfield 139, 3) := by decide +kernel
theorem dX6_partyOf_85 : decode cX6_partyOf 85 = .ok (.iload_n 1, 1) := by decide +kernel
theorem dX6_partyOf_86 : decode cX6_partyOf 86 = .ok (.iaload, 1) := by decide +kernel
theorem dX6_partyOf_87 : decode cX6_partyOf 87 = .ok (.ireturn, 1) := by decide +kernel
theorem dX6_partyOf_88 : decode cX6_partyOf 88 = .ok (.aload_n 3, 1) := by decide +kernel
theorem dX6_partyOf_89 : decode cX6_partyOf 89 = .ok (.getfield 142, 3) := by decide +kernel
theorem dX6_partyOf_92 : decode cX6_partyOf 92 = .ok (.iload_n 1, 1) := by decide +kernel
theorem dX6_partyOf_93 : decode cX6_partyOf 93 = .ok (.iaload, 1) := by decide +kernel
theorem dX6_partyOf_94 : decode cX6_partyOf 94 = .ok (.ireturn, 1) := by decide +kernel
theorem dX6_partyOf_95 : decode cX6_partyOf 95 = .ok (.aload_n 3, 1) := by decide +kernel
theorem dX6_partyOf_96 : decode cX6_partyOf 96 = .ok (.getfield 145, 3) := by decide +kernel
theorem dX6_partyOf_99 : decode cX6_partyOf 99 = .ok (.iload_n 1, 1) := by decide +kernel
theorem dX6_partyOf_100 : decode cX6_partyOf 100 = .ok (.iaload, 1) := by decide +kernel
theorem dX6_partyOf_101 : decode cX6_partyOf 101 = .ok (.ifCond .ge 8, 3) := by decide +kernel
theorem dX6_partyOf_104 : decode cX6_partyOf 104 = .ok (.bipush (-4), 2) := by decide +kernel
theorem dX6_partyOf_106 : decode cX6_partyOf 106 = .ok (.goto 9, 3) := by decide +kernel
theorem dX6_partyOf_109 : decode cX6_partyOf 109 = .ok (.aload_n 3, 1) := by decide +kernel
theorem dX6_partyOf_110 : decode cX6_partyOf 110 = .ok (.getfield 145, 3) := by decide +kernel
theorem dX6_partyOf_113 : decode cX6_partyOf 113 = .ok (.iload_n 1, 1) := by decide +kernel
theorem dX6_partyOf_114 : decode cX6_partyOf 114 = .ok (.iaload, 1) := by decide +kernel
theorem dX6_partyOf_115 : decode cX6_partyOf 115 = .ok (.ireturn, 1) := by decide +kernel
theorem dX6_partyOf_116 : decode cX6_partyOf 116 = .ok (.iconst 0, 1) := by decide +kernel
theorem dX6_partyOf_117 : decode cX6_partyOf 117 = .ok (.aload_n 3, 1) := by decide +kernel
theorem dX6_partyOf_118 : decode cX6_partyOf 118 = .ok (.getfield 142, 3) := by decide +kernel
theorem dX6_partyOf_121 : decode cX6_partyOf 121 = .ok (.iload_n 1, 1) := by decide +kernel
theorem dX6_partyOf_122 : decode cX6_partyOf 122 = .ok (.iaload, 1) := by decide +kernel
theorem dX6_partyOf_123 : decode cX6_partyOf 123 = .ok (.aload_n 3, 1) := by decide +kernel
theorem dX6_partyOf_124 : decode cX6_partyOf 124 = .ok (.getfield 136, 3) := by decide +kernel
theorem dX6_partyOf_127 : decode cX6_partyOf 127 = .ok (.iload_n 1, 1) := by decide +kernel
theorem dX6_partyOf_128 : decode cX6_partyOf 128 = .ok (.iaload, 1) := by decide +kernel
theorem dX6_partyOf_129 : decode cX6_partyOf 129 = .ok (.isub, 1) := by decide +kernel
theorem dX6_partyOf_130 : decode cX6_partyOf 130 = .ok (.invokestatic 148, 3) := by decide +kernel
theorem dX6_partyOf_133 : decode cX6_partyOf 133 = .ok (.ireturn, 1) := by decide +kernel
theorem dX6_partyOf_134 : decode cX6_partyOf 134 = .ok (.iconst (-1), 1) := by decide +kernel
theorem dX6_partyOf_135 : decode cX6_partyOf 135 = .ok (.ireturn, 1) := by decide +kernel
set_option maxRecDepth 20000 in
theorem ggX6_count_X2_withStatus : GoodIn wsX6_count wsX2_withStatus := goodIn_r _ [21, 22, 23, 58, 59, 60, 61, 62, 63, 64] (by decide +kernel) (by decide +kernel)
set_option maxRecDepth 20000 in
theorem gX6_count_X2_withStatus : GoodIn wsX6_count (wsV RX6 157 RX2 yX2_withStatus wsX2_withStatus) := goodIn_app (goodIn_of _ (by decide +kernel)) ggX6_count_X2_withStatus
set_option maxRecDepth 20000 in
theorem ggX6_count_X2_guests : GoodIn wsX6_count wsX2_guests := goodIn_r _ [27, 22, 23, 28, 58, 59, 60, 61, 62, 63, 64] (by decide +kernel) (by decide +kernel)
set_option maxRecDepth 20000 in
theorem gX6_count_X2_guests : GoodIn wsX6_count (wsV RX6 160 RX2 yX2_guests wsX2_guests) := goodIn_app (goodIn_of _ (by decide +kernel)) ggX6_count_X2_guests
set_option maxRecDepth 20000 in
theorem ggX6_count_X1_isStorm : GoodIn wsX6_count wsX1_isStorm := goodIn_r _ [33, 34, 35, 48, 49, 50, 51, 52, 53, 54, 55, 56, 57] (by decide +kernel) (by decide +kernel)
set_option maxRecDepth 20000 in
theorem gX6_count_X1_isStorm : GoodIn wsX6_count (wsV RX6 165 RX1 yX1_isStorm wsX1_isStorm) := goodIn_app (goodIn_of _ (by decide +kernel)) ggX6_count_X1_isStorm
set_option maxRecDepth 20000 in
theorem ggX6_count_X1_settingAt : GoodIn wsX6_count wsX1_settingAt := goodIn_r _ [39, 40, 48, 49, 50, 51, 52, 53, 54, 55, 56, 57] (by decide +kernel) (by decide +kernel)
set_option maxRecDepth 20000 in
theorem gX6_count_X1_settingAt : GoodIn wsX6_count (wsV RX6 191 RX1 yX1_settingAt wsX1_settingAt) := goodIn_app (goodIn_of _ (by decide +kernel)) ggX6_count_X1_settingAt
theorem dX6_count_0 : decode cX6_count 0 = .ok (.iload_n 1, 1) := by decide +kernel
theorem dX6_count_1 : decode cX6_count 1 = .ok (.tableswitch 225 0 14 #[75, 86, 98, 110, 121, 129, 145, 153, 164, 172, 180, 188, 196, 204, 212], 75) := by decide +kernel
theorem dX6_count_76 : decode cX6_count 76 = .ok (.aload_n 0, 1) := by decide +kernel
theorem dX6_count_77 : decode cX6_count 77 = .ok (.getfield 10, 3) := by decide +kernel
theorem dX6_count_80 : decode cX6_count 80 = .ok (.getfield 121, 3) := by decide +kernel
theorem dX6_count_83 : decode cX6_count 83 = .ok (.getfield 153, 3) := by decide +kernel
theorem dX6_count_86 : decode cX6_count 86 = .ok (.ireturn, 1) := by decide +kernel
theorem dX6_count_87 : decode cX6_count 87 = .ok (.aload_n 0, 1) := by decide +kernel
theorem dX6_count_88 : decode cX6_count 88 = .ok (.getfield 10, 3) := by decide +kernel
theorem dX6_count_91 : decode cX6_count 91 = .ok (.getfield 121, 3) := by decide +kernel
theorem dX6_count_94 : decode cX6_count 94 = .ok (.iconst 0, 1) := by decide +kernel
theorem dX6_count_95 : decode cX6_count 95 = .ok (.invokevirtual 157, 3) := by decide +kernel
theorem dX6_count_98 : decode cX6_count 98 = .ok (.ireturn, 1) := by decide +kernel
theorem dX6_count_99 : decode cX6_count 99 = .ok (.aload_n 0, 1) := by decide +kernel
theorem dX6_count_100 : decode cX6_count 100 = .ok (.getfield 10, 3) := by decide +kernel
theorem dX6_count_103 : decode cX6_count 103 = .ok (.getfield 121, 3) := by decide +kernel
theorem dX6_count_106 : decode cX6_count 106 = .ok (.iconst 1, 1) := by decide +kernel
theorem dX6_count_107 : decode cX6_count 107 = .ok (.invokevirtual 157, 3) := by decide +kernel
theorem dX6_count_110 : decode cX6_count 110 = .ok (.ireturn, 1) := by decide +kernel
theorem dX6_count_111 : decode cX6_count 111 = .ok (.aload_n 0, 1) := by decide +kernel
theorem dX6_count_112 : decode cX6_count 112 = .ok (.getfield 10, 3) := by decide +kernel
theorem dX6_count_115 : decode cX6_count 115 = .ok (.getfield 121, 3) := by decide +kernel
theorem dX6_count_118 : decode cX6_count 118 = .ok (.invokevirtual 160, 3) := by decide +kernel
theorem dX6_count_121 : decode cX6_count 121 = .ok (.ireturn, 1) := by decide +kernel
theorem dX6_count_122 : decode cX6_count 122 = .ok (.aload_n 0, 1) := by decide +kernel
theorem dX6_count_123 : decode cX6_count 123 = .ok (.getfield 10, 3) := by decide +kernel
theorem dX6_count_126 : decode cX6_count 126 = .ok (.getfield 163, 3) := by decide +kernel
theorem dX6_count_129 : decode cX6_count 129 = .ok (.ireturn, 1) := by decide +kernel
theorem dX6_count_130 : decode cX6_count 130 = .ok (.aload_n 0, 1) := by decide +kernel
theorem dX6_count_131 : decode cX6_count 131 = .ok (.getfield 10, 3) := by decide +kernel
theorem dX6_count_134 : decode cX6_count 134 = .ok (.invokevirtual 165, 3) := by decide +kernel
theorem dX6_count_137 : decode cX6_count 137 = .ok (.ifCond .eq 7, 3) := by decide +kernel
theorem dX6_count_140 : decode cX6_count 140 = .ok (.iconst 1, 1) := by decide +kernel
theorem dX6_count_141 : decode cX6_count 141 = .ok (.goto 4, 3) := by decide +kernel
theorem dX6_count_144 : decode cX6_count 144 = .ok (.iconst 0, 1) := by decide +kernel
theorem dX6_count_145 : decode cX6_count 145 = .ok (.ireturn, 1) := by decide +kernel
theorem dX6_count_146 : decode cX6_count 146 = .ok (.aload_n 0, 1) := by decide +kernel
theorem dX6_count_147 : decode cX6_count 147 = .ok (.getfield 10, 3) := by decide +kernel
theorem dX6_count_150 : decode cX6_count 150 = .ok (.getfield 169, 3) := by decide +kernel
theorem dX6_count_153 : decode cX6_count 153 = .ok (.ireturn, 1) := by decide +kernel
theorem dX6_count_154 : decode cX6_count 154 = .ok (.aload_n 0, 1) := by decide +kernel
theorem dX6_count_155 : decode cX6_count 155 = .ok (.getfield 10, 3) := by decide +kernel
theorem dX6_count_158 : decode cX6_count 158 = .ok (.getfield 89, 3) := by decide +kernel
theorem dX6_count_161 : decode cX6_count 161 = .ok (.getfield 172, 3) := by decide +kernel
theorem dX6_count_164 : decode cX6_count 164 = .ok (.ireturn, 1) := by decide +kernel
theorem dX6_count_165 : decode cX6_count 165 = .ok (.aload_n 0, 1) := by decide +kernel
theorem dX6_count_166 : decode cX6_count 166 = .ok (.getfield 10, 3) := by decide +kernel
theorem dX6_count_169 : decode cX6_count 169 = .ok (.getfield 175, 3) := by decide +kernel
theorem dX6_count_172 : decode cX6_count 172 = .ok (.ireturn, 1) := by decide +kernel
theorem dX6_count_173 : decode cX6_count 173 = .ok (.aload_n 0, 1) := by decide +kernel
theorem dX6_count_174 : decode cX6_count 174 = .ok (.getfield 10, 3) := by decide +kernel
theorem dX6_count_177 : decode cX6_count 177 = .ok (.getfield 178, 3) := by decide +kernel
theorem dX6_count_180 : decode cX6_count 180 = .ok (.ireturn, 1) := by decide +kernel
theorem dX6_count_181 : decode cX6_count 181 = .ok (.aload_n 0, 1) := by decide +kernel
theorem dX6_count_182 : decode cX6_count 182 = .ok (.getfield 10, 3) := by decide +kernel
theorem dX6_count_185 : decode cX6_count 185 = .ok (.getfield 181, 3) := by decide +kernel
theorem dX6_count_188 : decode cX6_count 188 = .ok (.ireturn, 1) := by decide +kernel
theorem dX6_count_189 : decode cX6_count 189 = .ok (.aload_n 0, 1) := by decide +kernel
theorem dX6_count_190 : decode cX6_count 190 = .ok (.getfield 10, 3) := by decide +kernel
theorem dX6_count_193 : decode cX6_count 193 = .ok (.getfield 184, 3) := by decide +kernel
theorem dX6_count_196 : decode cX6_count 196 = .ok (.ireturn, 1) := by decide +kernel
theorem dX6_count_197 : decode cX6_count 197 = .ok (.aload_n 0, 1) := by decide +kernel
theorem dX6_count_198 : decode cX6_count 198 = .ok (.getfield 25, 3) := by decide +kernel
theorem dX6_count_201 : decode cX6_count 201 = .ok (.getfield 187, 3) := by decide +kernel
theorem dX6_count_204 : decode cX6_count 204 = .ok (.ireturn, 1) := by decide +kernel
theorem dX6_count_205 : decode cX6_count 205 = .ok (.aload_n 0, 1) := by decide +kernel
theorem dX6_count_206 : decode cX6_count 206 = .ok (.getfield 32, 3) := by decide +kernel
theorem dX6_count_209 : decode cX6_count 209 = .ok (.getfield 190, 3) := by decide +kernel
theorem dX6_count_212 : decode cX6_count 212 = .ok (.ireturn, 1) := by decide +kernel
theorem dX6_count_213 : decode cX6_count 213 = .ok (.aload_n 0, 1) := by decide +kernel
theorem dX6_count_214 : decode cX6_count 214 = .ok (.getfield 43, 3) := by decide +kernel
theorem dX6_count_217 : decode cX6_count 217 = .ok (.ifCond .eq 7, 3) := by decide +kernel
theorem dX6_count_220 : decode cX6_count 220 = .ok (.iconst 1, 1) := by decide +kernel
theorem dX6_count_221 : decode cX6_count 221 = .ok (.goto 4, 3) := by decide +kernel
theorem dX6_count_224 : decode cX6_count 224 = .ok (.iconst 0, 1) := by decide +kernel
theorem dX6_count_225 : decode cX6_count 225 = .ok (.ireturn, 1) := by decide +kernel
theorem dX6_count_226 : decode cX6_count 226 = .ok (.aload_n 0, 1) := by decide +kernel
theorem dX6_count_227 : decode cX6_count 227 = .ok (.getfield 10, 3) := by decide +kernel
theorem dX6_count_230 : decode cX6_count 230 = .ok (.iload_n 1, 1) := by decide +kernel
theorem dX6_count_231 : decode cX6_count 231 = .ok (.bipush 20, 2) := by decide +kernel
theorem dX6_count_233 : decode cX6_count 233 = .ok (.isub, 1) := by decide +kernel
theorem dX6_count_234 : decode cX6_count 234 = .ok (.invokevirtual 191, 3) := by decide +kernel
theorem dX6_count_237 : decode cX6_count 237 = .ok (.ireturn, 1) := by decide +kernel
set_option maxRecDepth 20000 in
theorem ggX6_goneOn_X2_has : GoodIn wsX6_goneOn wsX2_has := goodIn_r _ [8, 9, 140, 141, 142, 143, 144, 145, 146] (by decide +kernel) (by decide +kernel)
set_option maxRecDepth 20000 in
theorem gX6_goneOn_X2_has : GoodIn wsX6_goneOn (wsV RX6 125 RX2 yX2_has wsX2_has) := goodIn_app (goodIn_of _ (by decide +kernel)) ggX6_goneOn_X2_has
set_option maxRecDepth 20000 in
theorem ggX6_goneOn_X2_isAwaited : GoodIn wsX6_goneOn wsX2_isAwaited := goodIn_r _ [13, 14, 15, 5, 6, 7, 8, 9, 140, 141, 142, 143, 144, 145, 146] (by decide +kernel) (by decide +kernel)
set_option maxRecDepth 20000 in
theorem gX6_goneOn_X2_isAwaited : GoodIn wsX6_goneOn (wsV RX6 194 RX2 yX2_isAwaited wsX2_isAwaited) := goodIn_app (goodIn_of _ (by decide +kernel)) ggX6_goneOn_X2_isAwaited
set_option maxRecDepth 20000 in
theorem ggX6_goneOn_X1_copyFrom : GoodIn wsX6_goneOn wsX1_copyFrom := goodIn_r _ [20, 21, 22, 23, 24, 25, 26, 27, 28, 29, 30, 31, 32, 33, 34, 35, 36, 37, 38, 39, 40, 41, 42, 43, 44, 45, 46, 47, 48, 49, 50, 51, 52, 53, 54, 7, 55, 56, 57, 58, 59, 14, 60, 61, 9, 130, 131, 132, 133, 134, 135, 136, 137, 138, 139, 147, 148, 149, 150, 151, 152, 153, 154, 155, 156, 157, 140, 141, 142, 143, 144, 145, 146] (by decide +kernel) (by decide +kernel)
set_option maxRecDepth 20000 in
theorem gX6_goneOn_X1_copyFrom : GoodIn wsX6_goneOn (wsV RX6 197 RX1 yX1_copyFrom wsX1_copyFrom) := goodIn_app (goodIn_of _ (by decide +kernel)) ggX6_goneOn_X1_copyFrom
set_option maxRecDepth 20000 in
theorem ggX6_goneOn_X1_dayWhenGone : GoodIn wsX6_goneOn wsX1_dayWhenGone := goodIn_r _ [65, 22, 29, 66, 11, 12, 7, 13, 14, 15, 5, 6, 8, 9, 67, 68, 69, 19, 70, 28, 21, 34, 71, 72, 73, 74, 31, 32, 33, 75, 76, 77, 78, 23, 79, 80, 81, 82, 60, 59, 83, 84, 85, 86, 56, 87, 88, 89, 90, 58, 61, 91, 92, 93, 38, 94, 50, 40, 42, 95, 96, 97, 98, 99, 100, 101, 102, 48, 103, 104, 105, 106, 107, 108, 109, 110, 111, 112, 113, 114, 43, 49, 115, 116, 117, 118, 119, 120, 121, 122, 130, 131, 132, 133, 134, 135, 136, 137, 138, 139, 140, 141, 142, 143, 144, 145, 146, 147, 148, 149, 150, 151, 152, 153, 154, 155, 156, 157] (by decide +kernel) (by decide +kernel)
set_option maxRecDepth 20000 in
theorem gX6_goneOn_X1_dayWhenGone : GoodIn wsX6_goneOn (wsV RX6 200 RX1 yX1_dayWhenGone wsX1_dayWhenGone) := goodIn_app (goodIn_of _ (by decide +kernel)) ggX6_goneOn_X1_dayWhenGone
theorem dX6_goneOn_0 : decode cX6_goneOn 0 = .ok (.aload_n 0, 1) := by decide +kernel
theorem dX6_goneOn_1 : decode cX6_goneOn 1 = .ok (.getfield 10, 3) := by decide +kernel
theorem dX6_goneOn_4 : decode cX6_goneOn 4 = .ok (.getfield 121, 3) := by decide +kernel
theorem dX6_goneOn_7 : decode cX6_goneOn 7 = .ok (.iload_n 1, 1) := by decide +kernel
theorem dX6_goneOn_8 : decode cX6_goneOn 8 = .ok (.invokevirtual 125, 3) := by decide +kernel
theorem dX6_goneOn_11 : decode cX6_goneOn 11 = .ok (.ifCond .ne 5, 3) := by decide +kernel
theorem dX6_goneOn_14 : decode cX6_goneOn 14 = .ok (.iconst (-1), 1) := by decide +kernel
theorem dX6_goneOn_15 : decode cX6_goneOn 15 = .ok (.ireturn, 1) := by decide +kernel
theorem dX6_goneOn_16 : decode cX6_goneOn 16 = .ok (.aload_n 0, 1) := by decide +kernel
theorem dX6_goneOn_17 : decode cX6_goneOn 17 = .ok (.getfield 10, 3) := by decide +kernel
theorem dX6_goneOn_20 : decode cX6_goneOn 20 = .ok (.getfield 121, 3) := by decide +kernel
theorem dX6_goneOn_23 : decode cX6_goneOn 23 = .ok (.iload_n 1, 1) := by decide +kernel
theorem dX6_goneOn_24 : decode cX6_goneOn 24 = .ok (.invokevirtual 194, 3) := by decide +kernel
theorem dX6_goneOn_27 : decode cX6_goneOn 27 = .ok (.ifCond .ne 6, 3) := by decide +kernel
theorem dX6_goneOn_30 : decode cX6_goneOn 30 = .ok (.bipush (-2), 2) := by decide +kernel
theorem dX6_goneOn_32 : decode cX6_goneOn 32 = .ok (.ireturn, 1) := by decide +kernel
theorem dX6_goneOn_33 : decode cX6_goneOn 33 = .ok (.aload_n 0, 1) := by decide +kernel
theorem dX6_goneOn_34 : decode cX6_goneOn 34 = .ok (.getfield 16, 3) := by decide +kernel
theorem dX6_goneOn_37 : decode cX6_goneOn 37 = .ok (.aload_n 0, 1) := by decide +kernel
theorem dX6_goneOn_38 : decode cX6_goneOn 38 = .ok (.getfield 10, 3) := by decide +kernel
theorem dX6_goneOn_41 : decode cX6_goneOn 41 = .ok (.invokevirtual 197, 3) := by decide +kernel
theorem dX6_goneOn_44 : decode cX6_goneOn 44 = .ok (.aload_n 0, 1) := by decide +kernel
theorem dX6_goneOn_45 : decode cX6_goneOn 45 = .ok (.getfield 16, 3) := by decide +kernel
theorem dX6_goneOn_48 : decode cX6_goneOn 48 = .ok (.iload_n 1, 1) := by decide +kernel
theorem dX6_goneOn_49 : decode cX6_goneOn 49 = .ok (.invokevirtual 200, 3) := by decide +kernel
theorem dX6_goneOn_52 : decode cX6_goneOn 52 = .ok (.ireturn, 1) := by decide +kernel
set_option maxRecDepth 20000 in
theorem ggX6_outOn_X4_isKind : GoodIn wsX6_outOn wsX4_isKind := goodIn_r _ [6] (by decide +kernel) (by decide +kernel)
set_option maxRecDepth 20000 in
theorem gX6_outOn_X4_isKind : GoodIn wsX6_outOn (va_wsS RX6 83 yX4_isKind wsX4_isKind) := goodIn_app (goodIn_of _ (by decide +kernel)) ggX6_outOn_X4_isKind
set_option maxRecDepth 20000 in
theorem ggX6_outOn_X1_copyFrom : GoodIn wsX6_outOn wsX1_copyFrom := goodIn_r _ [11, 12, 13, 14, 15, 16, 17, 18, 19, 20, 21, 22, 23, 24, 25, 26, 27, 28, 5, 29, 30, 31, 32, 33, 34, 35, 36, 37, 38, 39, 40, 41, 42, 43, 44, 45, 46, 47, 48, 49, 50, 51, 52, 53, 54, 122, 123, 124, 125, 126, 127, 128, 129, 130, 131, 132, 133, 134, 135, 136, 137, 138, 139, 140, 141, 142, 143, 144, 145, 146, 147, 148, 149] (by decide +kernel) (by decide +kernel)
set_option maxRecDepth 20000 in
theorem gX6_outOn_X1_copyFrom : GoodIn wsX6_outOn (wsV RX6 197 RX1 yX1_copyFrom wsX1_copyFrom) := goodIn_app (goodIn_of _ (by decide +kernel)) ggX6_outOn_X1_copyFrom
set_option maxRecDepth 20000 in
theorem ggX6_outOn_X1_dayWhenOut : GoodIn wsX6_outOn wsX1_dayWhenOut := goodIn_r _ [58, 13, 12, 20, 59, 60, 61, 45, 62, 54, 51, 63, 64, 65, 10, 66, 19, 25, 67, 68, 69, 70, 22, 23, 24, 71, 72, 73, 74, 14, 75, 76, 77, 78, 52, 50, 79, 80, 81, 82, 47, 83, 84, 85, 86, 49, 53, 87, 88, 89, 5, 90, 40, 30, 32, 91, 92, 93, 94, 95, 96, 97, 98, 38, 99, 100, 101, 102, 103, 104, 105, 106, 107, 108, 109, 110, 33, 39, 111, 112, 113, 114, 122, 123, 124, 125, 126, 127, 128, 129, 130, 131, 143, 144, 145, 146, 147, 148, 149, 132, 133, 134, 135, 136, 137, 138, 139, 140, 141, 142] (by decide +kernel) (by decide +kernel)
set_option maxRecDepth 20000 in
theorem gX6_outOn_X1_dayWhenOut : GoodIn wsX6_outOn (wsV RX6 203 RX1 yX1_dayWhenOut wsX1_dayWhenOut) := goodIn_app (goodIn_of _ (by decide +kernel)) ggX6_outOn_X1_dayWhenOut
theorem dX6_outOn_0 : decode cX6_outOn 0 = .ok (.iload_n 1, 1) := by decide +kernel
theorem dX6_outOn_1 : decode cX6_outOn 1 = .ok (.invokestatic 83, 3) := by decide +kernel
theorem dX6_outOn_4 : decode cX6_outOn 4 = .ok (.ifCond .ne 5, 3) := by decide +kernel
theorem dX6_outOn_7 : decode cX6_outOn 7 = .ok (.iconst (-1), 1) := by decide +kernel
theorem dX6_outOn_8 : decode cX6_outOn 8 = .ok (.ireturn, 1) := by decide +kernel
theorem dX6_outOn_9 : decode cX6_outOn 9 = .ok (.aload_n 0, 1) := by decide +kernel
theorem dX6_outOn_10 : decode cX6_outOn 10 = .ok (.getfield 16, 3) := by decide +kernel
theorem dX6_outOn_13 : decode cX6_outOn 13 = .ok (.aload_n 0, 1) := by decide +kernel
theorem dX6_outOn_14 : decode cX6_outOn 14 = .ok (.getfield 10, 3) := by decide +kernel
theorem dX6_outOn_17 : decode cX6_outOn 17 = .ok (.invokevirtual 197, 3) := by decide +kernel
theorem dX6_outOn_20 : decode cX6_outOn 20 = .ok (.aload_n 0, 1) := by decide +kernel
theorem dX6_outOn_21 : decode cX6_outOn 21 = .ok (.getfield 16, 3) := by decide +kernel
theorem dX6_outOn_24 : decode cX6_outOn 24 = .ok (.iload_n 1, 1) := by decide +kernel
theorem dX6_outOn_25 : decode cX6_outOn 25 = .ok (.invokevirtual 203, 3) := by decide +kernel
theorem dX6_outOn_28 : decode cX6_outOn 28 = .ok (.ireturn, 1) := by decide +kernel
set_option maxRecDepth 20000 in
theorem ggX6_most_X1_mayBeBooked : GoodIn wsX6_most wsX1_mayBeBooked := goodIn_r _ [9, 10, 129, 130, 131, 132, 133, 134, 135, 136, 137, 138] (by decide +kernel) (by decide +kernel)
set_option maxRecDepth 20000 in
theorem gX6_most_X1_mayBeBooked : GoodIn wsX6_most (wsV RX6 206 RX1 yX1_mayBeBooked wsX1_mayBeBooked) := goodIn_app (goodIn_of _ (by decide +kernel)) ggX6_most_X1_mayBeBooked
set_option maxRecDepth 20000 in
theorem ggX6_most_X1_copyFrom : GoodIn wsX6_most wsX1_copyFrom := goodIn_r _ [14, 15, 16, 17, 18, 19, 20, 21, 22, 10, 23, 24, 25, 26, 27, 28, 29, 30, 31, 32, 33, 34, 35, 36, 37, 38, 39, 40, 41, 42, 43, 44, 45, 46, 47, 48, 49, 50, 51, 52, 53, 54, 55, 56, 57, 129, 130, 131, 132, 133, 134, 135, 136, 137, 138, 146, 147, 148, 149, 150, 151, 152, 153, 154, 155, 156, 139, 140, 141, 142, 143, 144, 145] (by decide +kernel) (by decide +kernel)
set_option maxRecDepth 20000 in
theorem gX6_most_X1_copyFrom : GoodIn wsX6_most (wsV RX6 197 RX1 yX1_copyFrom wsX1_copyFrom) := goodIn_app (goodIn_of _ (by decide +kernel)) ggX6_most_X1_copyFrom
set_option maxRecDepth 20000 in
theorem ggX6_most_X1_wouldSuffice : GoodIn wsX6_most wsX1_wouldSuffice := goodIn_r _ [61, 16, 62, 63, 64, 48, 65, 57, 50, 52, 53, 54, 55, 56, 66, 67, 68, 69, 70, 71, 72, 8, 73, 10, 22, 15, 27, 74, 75, 76, 77, 24, 25, 26, 78, 79, 80, 81, 17, 82, 83, 84, 85, 86, 87, 88, 89, 90, 91, 92, 93, 94, 95, 96, 31, 97, 43, 33, 35, 98, 99, 100, 101, 102, 103, 104, 105, 41, 106, 107, 108, 109, 110, 111, 112, 113, 114, 115, 116, 117, 36, 42, 118, 119, 120, 121, 129, 130, 131, 132, 133, 134, 135, 136, 137, 138, 139, 140, 141, 142, 143, 144, 145, 146, 147, 148, 149, 150, 151, 152, 153, 154, 155, 156] (by decide +kernel) (by decide +kernel)
set_option maxRecDepth 20000 in
theorem gX6_most_X1_wouldSuffice : GoodIn wsX6_most (wsV RX6 210 RX1 yX1_wouldSuffice wsX1_wouldSuffice) := goodIn_app (goodIn_of _ (by decide +kernel)) ggX6_most_X1_wouldSuffice
theorem dX6_most_0 : decode cX6_most 0 = .ok (.aload_n 0, 1) := by decide +kernel
theorem dX6_most_1 : decode cX6_most 1 = .ok (.getfield 10, 3) := by decide +kernel
theorem dX6_most_4 : decode cX6_most 4 = .ok (.iconst 1, 1) := by decide +kernel
theorem dX6_most_5 : decode cX6_most 5 = .ok (.iload_n 1, 1) := by decide +kernel
theorem dX6_most_6 : decode cX6_most 6 = .ok (.iload_n 2, 1) := by decide +kernel
theorem dX6_most_7 : decode cX6_most 7 = .ok (.invokevirtual 206, 3) := by decide +kernel
theorem dX6_most_10 : decode cX6_most 10 = .ok (.ifCond .ne 5, 3) := by decide +kernel
theorem dX6_most_13 : decode cX6_most 13 = .ok (.iconst (-1), 1) := by decide +kernel
theorem dX6_most_14 : decode cX6_most 14 = .ok (.ireturn, 1) := by decide +kernel
theorem dX6_most_15 : decode cX6_most 15 = .ok (.aload_n 0, 1) := by decide +kernel
theorem dX6_most_16 : decode cX6_most 16 = .ok (.getfield 10, 3) := by decide +kernel
theorem dX6_most_19 : decode cX6_most 19 = .ok (.getfield 121, 3) := by decide +kernel
theorem dX6_most_22 : decode cX6_most 22 = .ok (.getfield 153, 3) := by decide +kernel
theorem dX6_most_25 : decode cX6_most 25 = .ok (.bipush 16, 2) := by decide +kernel
theorem dX6_most_27 : decode cX6_most 27 = .ok (.if_icmp .lt 6, 3) := by decide +kernel
theorem dX6_most_30 : decode cX6_most 30 = .ok (.bipush (-3), 2) := by decide +kernel
theorem dX6_most_32 : decode cX6_most 32 = .ok (.ireturn, 1) := by decide +kernel
theorem dX6_most_33 : decode cX6_most 33 = .ok (.bipush 6, 2) := by decide +kernel
theorem dX6_most_35 : decode cX6_most 35 = .ok (.istore_n 3, 1) := by decide +kernel
theorem dX6_most_36 : decode cX6_most 36 = .ok (.iload_n 3, 1) := by decide +kernel
theorem dX6_most_37 : decode cX6_most 37 = .ok (.iconst 1, 1) := by decide +kernel
theorem dX6_most_38 : decode cX6_most 38 = .ok (.if_icmp .lt 35, 3) := by decide +kernel
theorem dX6_most_41 : decode cX6_most 41 = .ok (.aload_n 0, 1) := by decide +kernel
theorem dX6_most_42 : decode cX6_most 42 = .ok (.getfield 16, 3) := by decide +kernel
theorem dX6_most_45 : decode cX6_most 45 = .ok (.aload_n 0, 1) := by decide +kernel
theorem dX6_most_46 : decode cX6_most 46 = .ok (.getfield 10, 3) := by decide +kernel
theorem dX6_most_49 : decode cX6_most 49 = .ok (.invokevirtual 197, 3) := by decide +kernel
theorem dX6_most_52 : decode cX6_most 52 = .ok (.aload_n 0, 1) := by decide +kernel
theorem dX6_most_53 : decode cX6_most 53 = .ok (.getfield 16, 3) := by decide +kernel
theorem dX6_most_56 : decode cX6_most 56 = .ok (.iload_n 3, 1) := by decide +kernel
theorem dX6_most_57 : decode cX6_most 57 = .ok (.iload_n 1, 1) := by decide +kernel
theorem dX6_most_58 : decode cX6_most 58 = .ok (.iload_n 2, 1) := by decide +kernel
theorem dX6_most_59 : decode cX6_most 59 = .ok (.invokevirtual 210, 3) := by decide +kernel
theorem dX6_most_62 : decode cX6_most 62 = .ok (.ifCond .eq 5, 3) := by decide +kernel
theorem dX6_most_65 : decode cX6_most 65 = .ok (.iload_n 3, 1) := by decide +kernel
theorem dX6_most_66 : decode cX6_most 66 = .ok (.ireturn, 1) := by decide +kernel
theorem dX6_most_67 : decode cX6_most 67 = .ok (.iinc 3 (-1), 3) := by decide +kernel
theorem dX6_most_70 : decode cX6_most 70 = .ok (.goto (-34), 3) := by decide +kernel
theorem dX6_most_73 : decode cX6_most 73 = .ok (.iconst 0, 1) := by decide +kernel
theorem dX6_most_74 : decode cX6_most 74 = .ok (.ireturn, 1) := by decide +kernel
set_option maxRecDepth 20000 in
theorem ggX6_keep_X1_copyFrom : GoodIn wsX6_keep wsX1_copyFrom := goodIn_r _ [9, 10, 11, 12, 13, 14, 15, 16, 17, 18, 19, 20, 21, 22, 23, 24, 25, 26, 27, 28, 29, 30, 31, 32, 33, 34, 35, 36, 37, 38, 39, 40, 41, 42, 43, 44, 45, 46, 47, 48, 49, 50, 51, 52, 53, 61, 62, 63, 64, 65, 66, 67, 68, 69, 70, 71, 72, 73, 74, 75, 76, 77, 78, 79, 80, 81, 82, 83, 84, 85, 86, 87, 88] (by decide +kernel) (by decide +kernel)
set_option maxRecDepth 20000 in
theorem gX6_keep_X1_copyFrom : GoodIn wsX6_keep (wsV RX6 197 RX1 yX1_copyFrom wsX1_copyFrom) := goodIn_app (goodIn_of _ (by decide +kernel)) ggX6_keep_X1_copyFrom
theorem dX6_keep_0 : decode cX6_keep 0 = .ok (.aload_n 0, 1) := by decide +kernel
theorem dX6_keep_1 : decode cX6_keep 1 = .ok (.getfield 19, 3) := by decide +kernel
theorem dX6_keep_4 : decode cX6_keep 4 = .ok (.aload_n 0, 1) := by decide +kernel
theorem dX6_keep_5 : decode cX6_keep 5 = .ok (.getfield 10, 3) := by decide +kernel
theorem dX6_keep_8 : decode cX6_keep 8 = .ok (.invokevirtual 197, 3) := by decide +kernel
theorem dX6_keep_11 : decode cX6_keep 11 = .ok (.aload_n 0, 1) := by decide +kernel
theorem dX6_keep_12 : decode cX6_keep 12 = .ok (.iconst 1, 1) := by decide +kernel
theorem dX6_keep_13 : decode cX6_keep 13 = .ok (.putfield 43, 3) := by decide +kernel
theorem dX6_keep_16 : decode cX6_keep 16 = .ok (.aload_n 0, 1) := by decide +kernel
theorem dX6_keep_17 : decode cX6_keep 17 = .ok (.getfield 10, 3) := by decide +kernel
theorem dX6_keep_20 : decode cX6_keep 20 = .ok (.getfield 163, 3) := by decide +kernel
theorem dX6_keep_23 : decode cX6_keep 23 = .ok (.ireturn, 1) := by decide +kernel
set_option maxRecDepth 20000 in
theorem ggX6_restore_X0_prepare : GoodIn wsX6_restore wsX0_prepare := goodIn_r _ [10, 11, 12, 13, 14, 15, 16, 17, 18, 19, 20, 21, 22, 23, 24, 25, 26, 27, 28, 29, 30, 31, 32, 33, 34, 35, 36, 37, 38, 39, 40, 41, 42, 43, 44, 45, 46, 47, 48, 49, 50, 51, 52, 53, 54, 55, 56, 57, 58, 59, 60, 61, 89, 90, 79, 80, 81, 82, 83, 84, 85, 86, 87, 88, 91, 92, 93, 94, 95, 96, 97, 98, 99, 100, 101, 102, 103, 104, 105, 106, 107, 108] (by decide +kernel) (by decide +kernel)
set_option maxRecDepth 20000 in
theorem gX6_restore_X0_prepare : GoodIn wsX6_restore (wsV RX6 47 RX0 yX0_prepare wsX0_prepare) := goodIn_app (goodIn_of _ (by decide +kernel)) ggX6_restore_X0_prepare
set_option maxRecDepth 20000 in
theorem ggX6_restore_X1_copyFrom : GoodIn wsX6_restore wsX1_copyFrom := goodIn_r _ [17, 18, 19, 20, 21, 22, 23, 24, 25, 26, 27, 28, 29, 30, 31, 32, 33, 34, 35, 36, 37, 38, 39, 40, 41, 42, 43, 44, 45, 46, 47, 48, 49, 50, 51, 52, 53, 54, 55, 56, 57, 58, 59, 60, 61, 79, 80, 81, 82, 83, 84, 85, 86, 87, 88, 91, 92, 93, 94, 95, 96, 97, 98, 99, 100, 101, 102, 103, 104, 105, 106, 107, 108] (by decide +kernel) (by decide +kernel)
set_option maxRecDepth 20000 in
theorem gX6_restore_X1_copyFrom : GoodIn wsX6_restore (wsV RX6 197 RX1 yX1_copyFrom wsX1_copyFrom) := goodIn_app (goodIn_of _ (by decide +kernel)) ggX6_restore_X1_copyFrom
set_option maxRecDepth 20000 in
theorem ggX6_restore_X6_recorded : GoodIn wsX6_restore wsX6_recorded := goodIn_r _ [67, 2, 68, 69, 70, 9, 71, 11, 12, 72, 73, 74, 75, 76, 77, 78, 89, 90] (by decide +kernel) (by decide +kernel)
set_option maxRecDepth 20000 in
theorem gX6_restore_X6_recorded : GoodIn wsX6_restore (wsV RX6 55 RX6 yX6_recorded wsX6_recorded) := goodIn_app (goodIn_of _ (by decide +kernel)) ggX6_restore_X6_recorded
theorem dX6_restore_0 : decode cX6_restore 0 = .ok (.aload_n 0, 1) := by decide +kernel
theorem dX6_restore_1 : decode cX6_restore 1 = .ok (.getfield 43, 3) := by decide +kernel
theorem dX6_restore_4 : decode cX6_restore 4 = .ok (.ifCond .ne 6, 3) := by decide +kernel
theorem dX6_restore_7 : decode cX6_restore 7 = .ok (.bipush (-2), 2) := by decide +kernel
theorem dX6_restore_9 : decode cX6_restore 9 = .ok (.ireturn, 1) := by decide +kernel
theorem dX6_restore_10 : decode cX6_restore 10 = .ok (.aload_n 0, 1) := by decide +kernel
theorem dX6_restore_11 : decode cX6_restore 11 = .ok (.getfield 25, 3) := by decide +kernel
theorem dX6_restore_14 : decode cX6_restore 14 = .ok (.aload_n 0, 1) := by decide +kernel
theorem dX6_restore_15 : decode cX6_restore 15 = .ok (.getfield 10, 3) := by decide +kernel
theorem dX6_restore_18 : decode cX6_restore 18 = .ok (.invokevirtual 47, 3) := by decide +kernel
theorem dX6_restore_21 : decode cX6_restore 21 = .ok (.aload_n 0, 1) := by decide +kernel
theorem dX6_restore_22 : decode cX6_restore 22 = .ok (.getfield 10, 3) := by decide +kernel
theorem dX6_restore_25 : decode cX6_restore 25 = .ok (.aload_n 0, 1) := by decide +kernel
theorem dX6_restore_26 : decode cX6_restore 26 = .ok (.getfield 19, 3) := by decide +kernel
theorem dX6_restore_29 : decode cX6_restore 29 = .ok (.invokevirtual 197, 3) := by decide +kernel
theorem dX6_restore_32 : decode cX6_restore 32 = .ok (.aload_n 0, 1) := by decide +kernel
theorem dX6_restore_33 : decode cX6_restore 33 = .ok (.aload_n 0, 1) := by decide +kernel
theorem dX6_restore_34 : decode cX6_restore 34 = .ok (.getfield 10, 3) := by decide +kernel
theorem dX6_restore_37 : decode cX6_restore 37 = .ok (.getfield 163, 3) := by decide +kernel
theorem dX6_restore_40 : decode cX6_restore 40 = .ok (.invokevirtual 55, 3) := by decide +kernel
theorem dX6_restore_43 : decode cX6_restore 43 = .ok (.ireturn, 1) := by decide +kernel
set_option maxRecDepth 20000 in
theorem ggX6_undo_X0_takeBack : GoodIn wsX6_undo wsX0_takeBack := goodIn_r _ [8, 9, 10, 11, 12, 13, 14, 15, 16, 17, 18, 19, 20, 21, 22, 23, 24, 25, 26, 27, 28, 29, 30, 31, 32, 33, 34, 35, 36, 37, 38, 39, 40, 41, 42, 43, 44, 45, 46, 47, 48, 49, 50, 51, 52, 53, 54, 55, 56, 57, 58, 59, 67, 68, 69, 70, 71, 72, 73, 74, 75, 76, 77, 78, 79, 80, 81, 82, 83, 84, 85, 86, 87, 88, 89, 90, 91, 92, 93, 94, 95, 96] (by decide +kernel) (by decide +kernel)
set_option maxRecDepth 20000 in
theorem gX6_undo_X0_takeBack : GoodIn wsX6_undo (wsV RX6 213 RX0 yX0_takeBack wsX0_takeBack) := goodIn_app (goodIn_of _ (by decide +kernel)) ggX6_undo_X0_takeBack
theorem dX6_undo_0 : decode cX6_undo 0 = .ok (.aload_n 0, 1) := by decide +kernel
theorem dX6_undo_1 : decode cX6_undo 1 = .ok (.getfield 25, 3) := by decide +kernel
theorem dX6_undo_4 : decode cX6_undo 4 = .ok (.getfield 187, 3) := by decide +kernel
theorem dX6_undo_7 : decode cX6_undo 7 = .ok (.ifCond .ne 6, 3) := by decide +kernel
theorem dX6_undo_10 : decode cX6_undo 10 = .ok (.bipush (-2), 2) := by decide +kernel
theorem dX6_undo_12 : decode cX6_undo 12 = .ok (.ireturn, 1) := by decide +kernel
theorem dX6_undo_13 : decode cX6_undo 13 = .ok (.aload_n 0, 1) := by decide +kernel
theorem dX6_undo_14 : decode cX6_undo 14 = .ok (.getfield 25, 3) := by decide +kernel
theorem dX6_undo_17 : decode cX6_undo 17 = .ok (.aload_n 0, 1) := by decide +kernel
theorem dX6_undo_18 : decode cX6_undo 18 = .ok (.getfield 10, 3) := by decide +kernel
theorem dX6_undo_21 : decode cX6_undo 21 = .ok (.invokevirtual 213, 3) := by decide +kernel
theorem dX6_undo_24 : decode cX6_undo 24 = .ok (.aload_n 0, 1) := by decide +kernel
theorem dX6_undo_25 : decode cX6_undo 25 = .ok (.getfield 25, 3) := by decide +kernel
theorem dX6_undo_28 : decode cX6_undo 28 = .ok (.getfield 187, 3) := by decide +kernel
theorem dX6_undo_31 : decode cX6_undo 31 = .ok (.ireturn, 1) := by decide +kernel
set_option maxRecDepth 20000 in
theorem ggX6_type_X5_append : GoodIn wsX6_type wsX5_append := goodIn_r _ [7, 8, 9, 17, 18, 19, 20, 21] (by decide +kernel) (by decide +kernel)
set_option maxRecDepth 20000 in
theorem gX6_type_X5_append : GoodIn wsX6_type (wsV RX6 216 RX5 yX5_append wsX5_append) := goodIn_app (goodIn_of _ (by decide +kernel)) ggX6_type_X5_append
theorem dX6_type_0 : decode cX6_type 0 = .ok (.iload_n 1, 1) := by decide +kernel
theorem dX6_type_1 : decode cX6_type 1 = .ok (.bipush 32, 2) := by decide +kernel
theorem dX6_type_3 : decode cX6_type 3 = .ok (.if_icmp .lt 9, 3) := by decide +kernel
theorem dX6_type_6 : decode cX6_type 6 = .ok (.iload_n 1, 1) := by decide +kernel
theorem dX6_type_7 : decode cX6_type 7 = .ok (.bipush 126, 2) := by decide +kernel
theorem dX6_type_9 : decode cX6_type 9 = .ok (.if_icmp .le 5, 3) := by decide +kernel
theorem dX6_type_12 : decode cX6_type 12 = .ok (.iconst (-1), 1) := by decide +kernel
theorem dX6_type_13 : decode cX6_type 13 = .ok (.ireturn, 1) := by decide +kernel
theorem dX6_type_14 : decode cX6_type 14 = .ok (.aload_n 0, 1) := by decide +kernel
theorem dX6_type_15 : decode cX6_type 15 = .ok (.getfield 32, 3) := by decide +kernel
theorem dX6_type_18 : decode cX6_type 18 = .ok (.getfield 190, 3) := by decide +kernel
theorem dX6_type_21 : decode cX6_type 21 = .ok (.bipush 60, 2) := by decide +kernel
theorem dX6_type_23 : decode cX6_type 23 = .ok (.if_icmp .lt 6, 3) := by decide +kernel
theorem dX6_type_26 : decode cX6_type 26 = .ok (.bipush (-3), 2) := by decide +kernel
theorem dX6_type_28 : decode cX6_type 28 = .ok (.ireturn, 1) := by decide +kernel
theorem dX6_type_29 : decode cX6_type 29 = .ok (.aload_n 0, 1) := by decide +kernel
theorem dX6_type_30 : decode cX6_type 30 = .ok (.getfield 32, 3) := by decide +kernel
theorem dX6_type_33 : decode cX6_type 33 = .ok (.iload_n 1, 1) := by decide +kernel
theorem dX6_type_34 : decode cX6_type 34 = .ok (.invokevirtual 216, 3) := by decide +kernel
theorem dX6_type_37 : decode cX6_type 37 = .ok (.aload_n 0, 1) := by decide +kernel
theorem dX6_type_38 : decode cX6_type 38 = .ok (.getfield 32, 3) := by decide +kernel
theorem dX6_type_41 : decode cX6_type 41 = .ok (.getfield 190, 3) := by decide +kernel
theorem dX6_type_44 : decode cX6_type 44 = .ok (.ireturn, 1) := by decide +kernel
theorem dX6_clearText_0 : decode cX6_clearText 0 = .ok (.aload_n 0, 1) := by decide +kernel
theorem dX6_clearText_1 : decode cX6_clearText 1 = .ok (.getfield 32, 3) := by decide +kernel
theorem dX6_clearText_4 : decode cX6_clearText 4 = .ok (.getfield 190, 3) := by decide +kernel
theorem dX6_clearText_7 : decode cX6_clearText 7 = .ok (.istore_n 1, 1) := by decide +kernel
theorem dX6_clearText_8 : decode cX6_clearText 8 = .ok (.aload_n 0, 1) := by decide +kernel
theorem dX6_clearText_9 : decode cX6_clearText 9 = .ok (.getfield 32, 3) := by decide +kernel
theorem dX6_clearText_12 : decode cX6_clearText 12 = .ok (.iconst 0, 1) := by decide +kernel
theorem dX6_clearText_13 : decode cX6_clearText 13 = .ok (.putfield 190, 3) := by decide +kernel
theorem dX6_clearText_16 : decode cX6_clearText 16 = .ok (.iload_n 1, 1) := by decide +kernel
theorem dX6_clearText_17 : decode cX6_clearText 17 = .ok (.ireturn, 1) := by decide +kernel
