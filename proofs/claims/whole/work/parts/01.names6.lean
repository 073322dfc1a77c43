theorem dX7_isStorm_11 : decode cX7_isStorm 11 = .ok (.sipush 203, 3) := by decide +kernel
theorem dX7_isStorm_14 : decode cX7_isStorm 14 = .ok (.iload_n 1, 1) := by decide +kernel
theorem dX7_isStorm_15 : decode cX7_isStorm 15 = .ok (.iadd, 1) := by decide +kernel
theorem dX7_isStorm_16 : decode cX7_isStorm 16 = .ok (.iaload, 1) := by decide +kernel
theorem dX7_isStorm_17 : decode cX7_isStorm 17 = .ok (.iconst 1, 1) := by decide +kernel
theorem dX7_isStorm_18 : decode cX7_isStorm 18 = .ok (.if_icmp .ne 7, 3) := by decide +kernel
theorem dX7_isStorm_21 : decode cX7_isStorm 21 = .ok (.iconst 1, 1) := by decide +kernel
theorem dX7_isStorm_22 : decode cX7_isStorm 22 = .ok (.goto 4, 3) := by decide +kernel
theorem dX7_isStorm_25 : decode cX7_isStorm 25 = .ok (.iconst 0, 1) := by decide +kernel
theorem dX7_isStorm_26 : decode cX7_isStorm 26 = .ok (.ireturn, 1) := by decide +kernel
set_option maxRecDepth 20000 in
theorem ggX7_guests_X7_ofParty : GoodIn wsX7_guests wsX7_ofParty := goodIn_r _ [6, 1, 7, 8, 9, 10, 11, 12, 13, 14, 15, 16, 17, 18, 19, 20] (by decide +kernel) (by decide +kernel)
set_option maxRecDepth 20000 in
theorem gX7_guests_X7_ofParty : GoodIn wsX7_guests (wsV RX7 54 RX7 yX7_ofParty wsX7_ofParty) := goodIn_app (goodIn_of _ (by decide +kernel)) ggX7_guests_X7_ofParty
theorem dX7_guests_0 : decode cX7_guests 0 = .ok (.iconst 0, 1) := by decide +kernel
theorem dX7_guests_1 : decode cX7_guests 1 = .ok (.istore_n 1, 1) := by decide +kernel
theorem dX7_guests_2 : decode cX7_guests 2 = .ok (.iconst 0, 1) := by decide +kernel
theorem dX7_guests_3 : decode cX7_guests 3 = .ok (.istore_n 2, 1) := by decide +kernel
theorem dX7_guests_4 : decode cX7_guests 4 = .ok (.iload_n 2, 1) := by decide +kernel
theorem dX7_guests_5 : decode cX7_guests 5 = .ok (.aload_n 0, 1) := by decide +kernel
theorem dX7_guests_6 : decode cX7_guests 6 = .ok (.getfield 7, 3) := by decide +kernel
theorem dX7_guests_9 : decode cX7_guests 9 = .ok (.iconst 4, 1) := by decide +kernel
theorem dX7_guests_10 : decode cX7_guests 10 = .ok (.iaload, 1) := by decide +kernel
theorem dX7_guests_11 : decode cX7_guests 11 = .ok (.if_icmp .ge 32, 3) := by decide +kernel
theorem dX7_guests_14 : decode cX7_guests 14 = .ok (.iload_n 1, 1) := by decide +kernel
theorem dX7_guests_15 : decode cX7_guests 15 = .ok (.aload_n 0, 1) := by decide +kernel
theorem dX7_guests_16 : decode cX7_guests 16 = .ok (.iload_n 2, 1) := by decide +kernel
theorem dX7_guests_17 : decode cX7_guests 17 = .ok (.iconst 3, 1) := by decide +kernel
theorem dX7_guests_18 : decode cX7_guests 18 = .ok (.invokevirtual 54, 3) := by decide +kernel
theorem dX7_guests_21 : decode cX7_guests 21 = .ok (.iconst 1, 1) := by decide +kernel
theorem dX7_guests_22 : decode cX7_guests 22 = .ok (.if_icmp .ne 12, 3) := by decide +kernel
theorem dX7_guests_25 : decode cX7_guests 25 = .ok (.aload_n 0, 1) := by decide +kernel
theorem dX7_guests_26 : decode cX7_guests 26 = .ok (.iload_n 2, 1) := by decide +kernel
theorem dX7_guests_27 : decode cX7_guests 27 = .ok (.iconst 0, 1) := by decide +kernel
theorem dX7_guests_28 : decode cX7_guests 28 = .ok (.invokevirtual 54, 3) := by decide +kernel
theorem dX7_guests_31 : decode cX7_guests 31 = .ok (.goto 4, 3) := by decide +kernel
theorem dX7_guests_34 : decode cX7_guests 34 = .ok (.iconst 0, 1) := by decide +kernel
theorem dX7_guests_35 : decode cX7_guests 35 = .ok (.iadd, 1) := by decide +kernel
theorem dX7_guests_36 : decode cX7_guests 36 = .ok (.istore_n 1, 1) := by decide +kernel
theorem dX7_guests_37 : decode cX7_guests 37 = .ok (.iinc 2 1, 3) := by decide +kernel
theorem dX7_guests_40 : decode cX7_guests 40 = .ok (.goto (-36), 3) := by decide +kernel
theorem dX7_guests_43 : decode cX7_guests 43 = .ok (.iload_n 1, 1) := by decide +kernel
theorem dX7_guests_44 : decode cX7_guests 44 = .ok (.ireturn, 1) := by decide +kernel
set_option maxRecDepth 20000 in
theorem ggX7_partiesOf_X7_ofParty : GoodIn wsX7_partiesOf wsX7_ofParty := goodIn_r _ [6, 1, 7, 8, 9, 10, 11, 12, 13, 14, 15, 16, 17, 18, 19, 20] (by decide +kernel) (by decide +kernel)
set_option maxRecDepth 20000 in
theorem gX7_partiesOf_X7_ofParty : GoodIn wsX7_partiesOf (wsV RX7 54 RX7 yX7_ofParty wsX7_ofParty) := goodIn_app (goodIn_of _ (by decide +kernel)) ggX7_partiesOf_X7_ofParty
theorem dX7_partiesOf_0 : decode cX7_partiesOf 0 = .ok (.iconst 0, 1) := by decide +kernel
theorem dX7_partiesOf_1 : decode cX7_partiesOf 1 = .ok (.istore_n 2, 1) := by decide +kernel
theorem dX7_partiesOf_2 : decode cX7_partiesOf 2 = .ok (.iconst 0, 1) := by decide +kernel
theorem dX7_partiesOf_3 : decode cX7_partiesOf 3 = .ok (.istore_n 3, 1) := by decide +kernel
theorem dX7_partiesOf_4 : decode cX7_partiesOf 4 = .ok (.iload_n 3, 1) := by decide +kernel
theorem dX7_partiesOf_5 : decode cX7_partiesOf 5 = .ok (.aload_n 0, 1) := by decide +kernel
theorem dX7_partiesOf_6 : decode cX7_partiesOf 6 = .ok (.getfield 7, 3) := by decide +kernel
theorem dX7_partiesOf_9 : decode cX7_partiesOf 9 = .ok (.iconst 4, 1) := by decide +kernel
theorem dX7_partiesOf_10 : decode cX7_partiesOf 10 = .ok (.iaload, 1) := by decide +kernel
theorem dX7_partiesOf_11 : decode cX7_partiesOf 11 = .ok (.if_icmp .ge 27, 3) := by decide +kernel
theorem dX7_partiesOf_14 : decode cX7_partiesOf 14 = .ok (.iload_n 2, 1) := by decide +kernel
theorem dX7_partiesOf_15 : decode cX7_partiesOf 15 = .ok (.aload_n 0, 1) := by decide +kernel
theorem dX7_partiesOf_16 : decode cX7_partiesOf 16 = .ok (.iload_n 3, 1) := by decide +kernel
theorem dX7_partiesOf_17 : decode cX7_partiesOf 17 = .ok (.iconst 3, 1) := by decide +kernel
theorem dX7_partiesOf_18 : decode cX7_partiesOf 18 = .ok (.invokevirtual 54, 3) := by decide +kernel
theorem dX7_partiesOf_21 : decode cX7_partiesOf 21 = .ok (.iload_n 1, 1) := by decide +kernel
theorem dX7_partiesOf_22 : decode cX7_partiesOf 22 = .ok (.if_icmp .ne 7, 3) := by decide +kernel
theorem dX7_partiesOf_25 : decode cX7_partiesOf 25 = .ok (.iconst 1, 1) := by decide +kernel
theorem dX7_partiesOf_26 : decode cX7_partiesOf 26 = .ok (.goto 4, 3) := by decide +kernel
theorem dX7_partiesOf_29 : decode cX7_partiesOf 29 = .ok (.iconst 0, 1) := by decide +kernel
theorem dX7_partiesOf_30 : decode cX7_partiesOf 30 = .ok (.iadd, 1) := by decide +kernel
theorem dX7_partiesOf_31 : decode cX7_partiesOf 31 = .ok (.istore_n 2, 1) := by decide +kernel
theorem dX7_partiesOf_32 : decode cX7_partiesOf 32 = .ok (.iinc 3 1, 3) := by decide +kernel
theorem dX7_partiesOf_35 : decode cX7_partiesOf 35 = .ok (.goto (-31), 3) := by decide +kernel
theorem dX7_partiesOf_38 : decode cX7_partiesOf 38 = .ok (.iload_n 2, 1) := by decide +kernel
theorem dX7_partiesOf_39 : decode cX7_partiesOf 39 = .ok (.ireturn, 1) := by decide +kernel
set_option maxRecDepth 20000 in
theorem ggX7_isAny_X7_partiesOf : GoodIn wsX7_isAny wsX7_partiesOf := goodIn_r _ [5, 6, 7, 8, 9, 4, 10, 11, 12, 13, 14, 15, 16, 17, 18, 19, 20, 21, 22, 23, 24] (by decide +kernel) (by decide +kernel)
set_option maxRecDepth 20000 in
theorem gX7_isAny_X7_partiesOf : GoodIn wsX7_isAny (wsV RX7 57 RX7 yX7_partiesOf wsX7_partiesOf) := goodIn_app (goodIn_of _ (by decide +kernel)) ggX7_isAny_X7_partiesOf
theorem dX7_isAny_0 : decode cX7_isAny 0 = .ok (.aload_n 0, 1) := by decide +kernel
theorem dX7_isAny_1 : decode cX7_isAny 1 = .ok (.iconst 0, 1) := by decide +kernel
theorem dX7_isAny_2 : decode cX7_isAny 2 = .ok (.invokevirtual 57, 3) := by decide +kernel
theorem dX7_isAny_5 : decode cX7_isAny 5 = .ok (.aload_n 0, 1) := by decide +kernel
theorem dX7_isAny_6 : decode cX7_isAny 6 = .ok (.iconst 1, 1) := by decide +kernel
theorem dX7_isAny_7 : decode cX7_isAny 7 = .ok (.invokevirtual 57, 3) := by decide +kernel
theorem dX7_isAny_10 : decode cX7_isAny 10 = .ok (.iadd, 1) := by decide +kernel
theorem dX7_isAny_11 : decode cX7_isAny 11 = .ok (.ifCond .le 7, 3) := by decide +kernel
theorem dX7_isAny_14 : decode cX7_isAny 14 = .ok (.iconst 1, 1) := by decide +kernel
theorem dX7_isAny_15 : decode cX7_isAny 15 = .ok (.goto 4, 3) := by decide +kernel
theorem dX7_isAny_18 : decode cX7_isAny 18 = .ok (.iconst 0, 1) := by decide +kernel
theorem dX7_isAny_19 : decode cX7_isAny 19 = .ok (.ireturn, 1) := by decide +kernel
set_option maxRecDepth 20000 in
theorem ggX7_leave_X7_ofParty : GoodIn wsX7_leave wsX7_ofParty := goodIn_r _ [6, 1, 11, 12, 13, 14, 15, 16, 17, 18, 19, 20, 21, 22, 23, 24] (by decide +kernel) (by decide +kernel)
set_option maxRecDepth 20000 in
theorem gX7_leave_X7_ofParty : GoodIn wsX7_leave (wsV RX7 54 RX7 yX7_ofParty wsX7_ofParty) := goodIn_app (goodIn_of _ (by decide +kernel)) ggX7_leave_X7_ofParty
set_option maxRecDepth 20000 in
theorem ggX7_leave_X7_setParty : GoodIn wsX7_leave wsX7_setParty := goodIn_r _ [10, 1, 11, 12, 13, 14, 15, 16, 17, 18, 19, 20, 21, 22, 23, 24] (by decide +kernel) (by decide +kernel)
set_option maxRecDepth 20000 in
theorem gX7_leave_X7_setParty : GoodIn wsX7_leave (wsV RX7 60 RX7 yX7_setParty wsX7_setParty) := goodIn_app (goodIn_of _ (by decide +kernel)) ggX7_leave_X7_setParty
theorem dX7_leave_0 : decode cX7_leave 0 = .ok (.iconst 0, 1) := by decide +kernel
theorem dX7_leave_1 : decode cX7_leave 1 = .ok (.istore_n 1, 1) := by decide +kernel
theorem dX7_leave_2 : decode cX7_leave 2 = .ok (.iload_n 1, 1) := by decide +kernel
theorem dX7_leave_3 : decode cX7_leave 3 = .ok (.aload_n 0, 1) := by decide +kernel
theorem dX7_leave_4 : decode cX7_leave 4 = .ok (.getfield 7, 3) := by decide +kernel
theorem dX7_leave_7 : decode cX7_leave 7 = .ok (.iconst 4, 1) := by decide +kernel
theorem dX7_leave_8 : decode cX7_leave 8 = .ok (.iaload, 1) := by decide +kernel
theorem dX7_leave_9 : decode cX7_leave 9 = .ok (.if_icmp .ge 41, 3) := by decide +kernel
theorem dX7_leave_12 : decode cX7_leave 12 = .ok (.aload_n 0, 1) := by decide +kernel
theorem dX7_leave_13 : decode cX7_leave 13 = .ok (.iload_n 1, 1) := by decide +kernel
theorem dX7_leave_14 : decode cX7_leave 14 = .ok (.iconst 3, 1) := by decide +kernel
theorem dX7_leave_15 : decode cX7_leave 15 = .ok (.invokevirtual 54, 3) := by decide +kernel
theorem dX7_leave_18 : decode cX7_leave 18 = .ok (.iconst 1, 1) := by decide +kernel
theorem dX7_leave_19 : decode cX7_leave 19 = .ok (.if_icmp .ne 25, 3) := by decide +kernel
theorem dX7_leave_22 : decode cX7_leave 22 = .ok (.aload_n 0, 1) := by decide +kernel
theorem dX7_leave_23 : decode cX7_leave 23 = .ok (.iload_n 1, 1) := by decide +kernel
theorem dX7_leave_24 : decode cX7_leave 24 = .ok (.iconst 4, 1) := by decide +kernel
theorem dX7_leave_25 : decode cX7_leave 25 = .ok (.invokevirtual 54, 3) := by decide +kernel
theorem dX7_leave_28 : decode cX7_leave 28 = .ok (.aload_n 0, 1) := by decide +kernel
theorem dX7_leave_29 : decode cX7_leave 29 = .ok (.iload_n 1, 1) := by decide +kernel
theorem dX7_leave_30 : decode cX7_leave 30 = .ok (.iconst 2, 1) := by decide +kernel
theorem dX7_leave_31 : decode cX7_leave 31 = .ok (.invokevirtual 54, 3) := by decide +kernel
theorem dX7_leave_34 : decode cX7_leave 34 = .ok (.if_icmp .lt 10, 3) := by decide +kernel
theorem dX7_leave_37 : decode cX7_leave 37 = .ok (.aload_n 0, 1) := by decide +kernel
theorem dX7_leave_38 : decode cX7_leave 38 = .ok (.iload_n 1, 1) := by decide +kernel
theorem dX7_leave_39 : decode cX7_leave 39 = .ok (.iconst 3, 1) := by decide +kernel
theorem dX7_leave_40 : decode cX7_leave 40 = .ok (.iconst 2, 1) := by decide +kernel
theorem dX7_leave_41 : decode cX7_leave 41 = .ok (.invokevirtual 60, 3) := by decide +kernel
theorem dX7_leave_44 : decode cX7_leave 44 = .ok (.iinc 1 1, 3) := by decide +kernel
theorem dX7_leave_47 : decode cX7_leave 47 = .ok (.goto (-45), 3) := by decide +kernel
theorem dX7_leave_50 : decode cX7_leave 50 = .ok (.return_, 1) := by decide +kernel
set_option maxRecDepth 20000 in
theorem ggX7_arrives_X7_ofParty : GoodIn wsX7_arrives wsX7_ofParty := goodIn_r _ [6, 1, 19, 20, 21, 22, 23, 24, 25, 26, 27, 28, 29, 30, 31, 32] (by decide +kernel) (by decide +kernel)
set_option maxRecDepth 20000 in
theorem gX7_arrives_X7_ofParty : GoodIn wsX7_arrives (wsV RX7 54 RX7 yX7_ofParty wsX7_ofParty) := goodIn_app (goodIn_of _ (by decide +kernel)) ggX7_arrives_X7_ofParty
set_option maxRecDepth 20000 in
theorem ggX7_arrives_X7_setParty : GoodIn wsX7_arrives wsX7_setParty := goodIn_r _ [10, 1, 19, 20, 21, 22, 23, 24, 25, 26, 27, 28, 29, 30, 31, 32] (by decide +kernel) (by decide +kernel)
set_option maxRecDepth 20000 in
theorem gX7_arrives_X7_setParty : GoodIn wsX7_arrives (wsV RX7 60 RX7 yX7_setParty wsX7_setParty) := goodIn_app (goodIn_of _ (by decide +kernel)) ggX7_arrives_X7_setParty
set_option maxRecDepth 20000 in
theorem ggX7_arrives_X7_isStorm : GoodIn wsX7_arrives wsX7_isStorm := goodIn_r _ [14, 1, 19, 20, 21, 22, 23, 24, 25, 26, 27, 28, 29, 30, 31, 32] (by decide +kernel) (by decide +kernel)
set_option maxRecDepth 20000 in
theorem gX7_arrives_X7_isStorm : GoodIn wsX7_arrives (wsV RX7 64 RX7 yX7_isStorm wsX7_isStorm) := goodIn_app (goodIn_of _ (by decide +kernel)) ggX7_arrives_X7_isStorm
set_option maxRecDepth 20000 in
theorem ggX7_arrives_X7_guests : GoodIn wsX7_arrives wsX7_guests := goodIn_r _ [18, 1, 2, 3, 4, 5, 6, 19, 20, 21, 22, 23, 24, 25, 26, 27, 28, 29, 30, 31, 32] (by decide +kernel) (by decide +kernel)
set_option maxRecDepth 20000 in
theorem gX7_arrives_X7_guests : GoodIn wsX7_arrives (wsV RX7 68 RX7 yX7_guests wsX7_guests) := goodIn_app (goodIn_of _ (by decide +kernel)) ggX7_arrives_X7_guests
theorem dX7_arrives_0 : decode cX7_arrives 0 = .ok (.aload_n 0, 1) := by decide +kernel
theorem dX7_arrives_1 : decode cX7_arrives 1 = .ok (.iload_n 1, 1) := by decide +kernel
theorem dX7_arrives_2 : decode cX7_arrives 2 = .ok (.iconst 1, 1) := by decide +kernel
theorem dX7_arrives_3 : decode cX7_arrives 3 = .ok (.invokevirtual 54, 3) := by decide +kernel
theorem dX7_arrives_6 : decode cX7_arrives 6 = .ok (.aload_n 0, 1) := by decide +kernel
theorem dX7_arrives_7 : decode cX7_arrives 7 = .ok (.iload_n 1, 1) := by decide +kernel
theorem dX7_arrives_8 : decode cX7_arrives 8 = .ok (.iconst 2, 1) := by decide +kernel
theorem dX7_arrives_9 : decode cX7_arrives 9 = .ok (.invokevirtual 54, 3) := by decide +kernel
theorem dX7_arrives_12 : decode cX7_arrives 12 = .ok (.iadd, 1) := by decide +kernel
theorem dX7_arrives_13 : decode cX7_arrives 13 = .ok (.aload_n 0, 1) := by decide +kernel
theorem dX7_arrives_14 : decode cX7_arrives 14 = .ok (.getfield 7, 3) := by decide +kernel
theorem dX7_arrives_17 : decode cX7_arrives 17 = .ok (.iconst 0, 1) := by decide +kernel
theorem dX7_arrives_18 : decode cX7_arrives 18 = .ok (.iaload, 1) := by decide +kernel
theorem dX7_arrives_19 : decode cX7_arrives 19 = .ok (.if_icmp .gt 13, 3) := by decide +kernel
theorem dX7_arrives_22 : decode cX7_arrives 22 = .ok (.aload_n 0, 1) := by decide +kernel
theorem dX7_arrives_23 : decode cX7_arrives 23 = .ok (.iload_n 1, 1) := by decide +kernel
theorem dX7_arrives_24 : decode cX7_arrives 24 = .ok (.iconst 3, 1) := by decide +kernel
theorem dX7_arrives_25 : decode cX7_arrives 25 = .ok (.iconst 3, 1) := by decide +kernel
theorem dX7_arrives_26 : decode cX7_arrives 26 = .ok (.invokevirtual 60, 3) := by decide +kernel
theorem dX7_arrives_29 : decode cX7_arrives 29 = .ok (.goto 99, 3) := by decide +kernel
theorem dX7_arrives_32 : decode cX7_arrives 32 = .ok (.aload_n 0, 1) := by decide +kernel
theorem dX7_arrives_33 : decode cX7_arrives 33 = .ok (.aload_n 0, 1) := by decide +kernel
theorem dX7_arrives_34 : decode cX7_arrives 34 = .ok (.getfield 7, 3) := by decide +kernel
theorem dX7_arrives_37 : decode cX7_arrives 37 = .ok (.iconst 0, 1) := by decide +kernel
theorem dX7_arrives_38 : decode cX7_arrives 38 = .ok (.iaload, 1) := by decide +kernel
theorem dX7_arrives_39 : decode cX7_arrives 39 = .ok (.invokevirtual 64, 3) := by decide +kernel
theorem dX7_arrives_42 : decode cX7_arrives 42 = .ok (.ifCond .ne 86, 3) := by decide +kernel
theorem dX7_arrives_45 : decode cX7_arrives 45 = .ok (.aload_n 0, 1) := by decide +kernel
theorem dX7_arrives_46 : decode cX7_arrives 46 = .ok (.invokevirtual 68, 3) := by decide +kernel
theorem dX7_arrives_49 : decode cX7_arrives 49 = .ok (.aload_n 0, 1) := by decide +kernel
theorem dX7_arrives_50 : decode cX7_arrives 50 = .ok (.iload_n 1, 1) := by decide +kernel
theorem dX7_arrives_51 : decode cX7_arrives 51 = .ok (.iconst 0, 1) := by decide +kernel
theorem dX7_arrives_52 : decode cX7_arrives 52 = .ok (.invokevirtual 54, 3) := by decide +kernel
theorem dX7_arrives_55 : decode cX7_arrives 55 = .ok (.iadd, 1) := by decide +kernel
theorem dX7_arrives_56 : decode cX7_arrives 56 = .ok (.aload_n 0, 1) := by decide +kernel
theorem dX7_arrives_57 : decode cX7_arrives 57 = .ok (.getfield 7, 3) := by decide +kernel
theorem dX7_arrives_60 : decode cX7_arrives 60 = .ok (.bipush 10, 2) := by decide +kernel
theorem dX7_arrives_62 : decode cX7_arrives 62 = .ok (.iaload, 1) := by decide +kernel
theorem dX7_arrives_63 : decode cX7_arrives 63 = .ok (.if_icmp .gt 7, 3) := by decide +kernel
theorem dX7_arrives_66 : decode cX7_arrives 66 = .ok (.iconst 1, 1) := by decide +kernel
theorem dX7_arrives_67 : decode cX7_arrives 67 = .ok (.goto 4, 3) := by decide +kernel
theorem dX7_arrives_70 : decode cX7_arrives 70 = .ok (.iconst 0, 1) := by decide +kernel
theorem dX7_arrives_71 : decode cX7_arrives 71 = .ok (.istore_n 2, 1) := by decide +kernel
theorem dX7_arrives_72 : decode cX7_arrives 72 = .ok (.aload_n 0, 1) := by decide +kernel
theorem dX7_arrives_73 : decode cX7_arrives 73 = .ok (.iload_n 1, 1) := by decide +kernel
theorem dX7_arrives_74 : decode cX7_arrives 74 = .ok (.iconst 3, 1) := by decide +kernel
theorem dX7_arrives_75 : decode cX7_arrives 75 = .ok (.iload_n 2, 1) := by decide +kernel
theorem dX7_arrives_76 : decode cX7_arrives 76 = .ok (.ifCond .eq 7, 3) := by decide +kernel
theorem dX7_arrives_79 : decode cX7_arrives 79 = .ok (.iconst 1, 1) := by decide +kernel
theorem dX7_arrives_80 : decode cX7_arrives 80 = .ok (.goto 4, 3) := by decide +kernel
theorem dX7_arrives_83 : decode cX7_arrives 83 = .ok (.iconst 3, 1) := by decide +kernel
theorem dX7_arrives_84 : decode cX7_arrives 84 = .ok (.invokevirtual 60, 3) := by decide +kernel
theorem dX7_arrives_87 : decode cX7_arrives 87 = .ok (.aload_n 0, 1) := by decide +kernel
theorem dX7_arrives_88 : decode cX7_arrives 88 = .ok (.iload_n 1, 1) := by decide +kernel
theorem dX7_arrives_89 : decode cX7_arrives 89 = .ok (.iconst 5, 1) := by decide +kernel
theorem dX7_arrives_90 : decode cX7_arrives 90 = .ok (.iload_n 2, 1) := by decide +kernel
theorem dX7_arrives_91 : decode cX7_arrives 91 = .ok (.ifCond .eq 14, 3) := by decide +kernel
theorem dX7_arrives_94 : decode cX7_arrives 94 = .ok (.aload_n 0, 1) := by decide +kernel
theorem dX7_arrives_95 : decode cX7_arrives 95 = .ok (.getfield 7, 3) := by decide +kernel
theorem dX7_arrives_98 : decode cX7_arrives 98 = .ok (.iconst 0, 1) := by decide +kernel
theorem dX7_arrives_99 : decode cX7_arrives 99 = .ok (.iaload, 1) := by decide +kernel
theorem dX7_arrives_100 : decode cX7_arrives 100 = .ok (.iconst 1, 1) := by decide +kernel
theorem dX7_arrives_101 : decode cX7_arrives 101 = .ok (.iadd, 1) := by decide +kernel
theorem dX7_arrives_102 : decode cX7_arrives 102 = .ok (.goto 4, 3) := by decide +kernel
theorem dX7_arrives_105 : decode cX7_arrives 105 = .ok (.iconst 0, 1) := by decide +kernel
theorem dX7_arrives_106 : decode cX7_arrives 106 = .ok (.invokevirtual 60, 3) := by decide +kernel
theorem dX7_arrives_109 : decode cX7_arrives 109 = .ok (.aload_n 0, 1) := by decide +kernel
theorem dX7_arrives_110 : decode cX7_arrives 110 = .ok (.getfield 7, 3) := by decide +kernel
theorem dX7_arrives_113 : decode cX7_arrives 113 = .ok (.bipush 9, 2) := by decide +kernel
theorem dX7_arrives_115 : decode cX7_arrives 115 = .ok (.dup2, 1) := by decide +kernel
theorem dX7_arrives_116 : decode cX7_arrives 116 = .ok (.iaload, 1) := by decide +kernel
theorem dX7_arrives_117 : decode cX7_arrives 117 = .ok (.iload_n 2, 1) := by decide +kernel
theorem dX7_arrives_118 : decode cX7_arrives 118 = .ok (.ifCond .eq 7, 3) := by decide +kernel
theorem dX7_arrives_121 : decode cX7_arrives 121 = .ok (.iconst 0, 1) := by decide +kernel
theorem dX7_arrives_122 : decode cX7_arrives 122 = .ok (.goto 4, 3) := by decide +kernel
theorem dX7_arrives_125 : decode cX7_arrives 125 = .ok (.iconst 1, 1) := by decide +kernel
theorem dX7_arrives_126 : decode cX7_arrives 126 = .ok (.iadd, 1) := by decide +kernel
theorem dX7_arrives_127 : decode cX7_arrives 127 = .ok (.iastore, 1) := by decide +kernel
theorem dX7_arrives_128 : decode cX7_arrives 128 = .ok (.return_, 1) := by decide +kernel
set_option maxRecDepth 20000 in
theorem ggX7_sups_X7_stock : GoodIn wsX7_sups wsX7_stock := goodIn_r _ [6, 1, 7, 8, 9, 5, 10, 23, 24, 25, 26, 27, 28, 29, 30, 31, 32, 33, 34, 35, 36] (by decide +kernel) (by decide +kernel)
set_option maxRecDepth 20000 in
theorem gX7_sups_X7_stock : GoodIn wsX7_sups (wsV RX7 72 RX7 yX7_stock wsX7_stock) := goodIn_app (goodIn_of _ (by decide +kernel)) ggX7_sups_X7_stock
set_option maxRecDepth 20000 in
theorem ggX7_sups_X7_uses : GoodIn wsX7_sups wsX7_uses := goodIn_r _ [14, 1, 15, 16, 17, 5, 18, 7, 8, 9, 10, 19, 20, 21, 22, 23, 24, 25, 26, 27, 28, 29, 30, 31, 32, 33, 34, 35, 36] (by decide +kernel) (by decide +kernel)
set_option maxRecDepth 20000 in
theorem gX7_sups_X7_uses : GoodIn wsX7_sups (wsV RX7 75 RX7 yX7_uses wsX7_uses) := goodIn_app (goodIn_of _ (by decide +kernel)) ggX7_sups_X7_uses
theorem dX7_sups_0 : decode cX7_sups 0 = .ok (.aload_n 0, 1) := by decide +kernel
theorem dX7_sups_1 : decode cX7_sups 1 = .ok (.getfield 7, 3) := by decide +kernel
theorem dX7_sups_4 : decode cX7_sups 4 = .ok (.bipush 11, 2) := by decide +kernel
theorem dX7_sups_6 : decode cX7_sups 6 = .ok (.iaload, 1) := by decide +kernel
theorem dX7_sups_7 : decode cX7_sups 7 = .ok (.istore_n 2, 1) := by decide +kernel
theorem dX7_sups_8 : decode cX7_sups 8 = .ok (.aload_n 0, 1) := by decide +kernel
theorem dX7_sups_9 : decode cX7_sups 9 = .ok (.iconst 0, 1) := by decide +kernel
theorem dX7_sups_10 : decode cX7_sups 10 = .ok (.invokevirtual 72, 3) := by decide +kernel
theorem dX7_sups_13 : decode cX7_sups 13 = .ok (.aload_n 0, 1) := by decide +kernel
theorem dX7_sups_14 : decode cX7_sups 14 = .ok (.getfield 7, 3) := by decide +kernel
theorem dX7_sups_17 : decode cX7_sups 17 = .ok (.bipush 12, 2) := by decide +kernel
theorem dX7_sups_19 : decode cX7_sups 19 = .ok (.iaload, 1) := by decide +kernel
theorem dX7_sups_20 : decode cX7_sups 20 = .ok (.iload_n 1, 1) := by decide +kernel
theorem dX7_sups_21 : decode cX7_sups 21 = .ok (.imul, 1) := by decide +kernel
theorem dX7_sups_22 : decode cX7_sups 22 = .ok (.iload_n 2, 1) := by decide +kernel
theorem dX7_sups_23 : decode cX7_sups 23 = .ok (.imul, 1) := by decide +kernel
theorem dX7_sups_24 : decode cX7_sups 24 = .ok (.if_icmp .ge 7, 3) := by decide +kernel
theorem dX7_sups_27 : decode cX7_sups 27 = .ok (.iconst 1, 1) := by decide +kernel
theorem dX7_sups_28 : decode cX7_sups 28 = .ok (.goto 4, 3) := by decide +kernel
theorem dX7_sups_31 : decode cX7_sups 31 = .ok (.iconst 0, 1) := by decide +kernel
theorem dX7_sups_32 : decode cX7_sups 32 = .ok (.istore_n 3, 1) := by decide +kernel
theorem dX7_sups_33 : decode cX7_sups 33 = .ok (.iload_n 3, 1) := by decide +kernel
theorem dX7_sups_34 : decode cX7_sups 34 = .ok (.ifCond .eq 7, 3) := by decide +kernel
theorem dX7_sups_37 : decode cX7_sups 37 = .ok (.iconst 1, 1) := by decide +kernel
theorem dX7_sups_38 : decode cX7_sups 38 = .ok (.goto 4, 3) := by decide +kernel
theorem dX7_sups_41 : decode cX7_sups 41 = .ok (.iload_n 2, 1) := by decide +kernel
theorem dX7_sups_42 : decode cX7_sups 42 = .ok (.istore 4, 2) := by decide +kernel
theorem dX7_sups_44 : decode cX7_sups 44 = .ok (.aload_n 0, 1) := by decide +kernel
theorem dX7_sups_45 : decode cX7_sups 45 = .ok (.iconst 0, 1) := by decide +kernel
theorem dX7_sups_46 : decode cX7_sups 46 = .ok (.iload 4, 2) := by decide +kernel
theorem dX7_sups_48 : decode cX7_sups 48 = .ok (.iload_n 1, 1) := by decide +kernel
theorem dX7_sups_49 : decode cX7_sups 49 = .ok (.imul, 1) := by decide +kernel
theorem dX7_sups_50 : decode cX7_sups 50 = .ok (.aload_n 0, 1) := by decide +kernel
theorem dX7_sups_51 : decode cX7_sups 51 = .ok (.iconst 1, 1) := by decide +kernel
theorem dX7_sups_52 : decode cX7_sups 52 = .ok (.iload_n 1, 1) := by decide +kernel
theorem dX7_sups_53 : decode cX7_sups 53 = .ok (.invokevirtual 75, 3) := by decide +kernel
theorem dX7_sups_56 : decode cX7_sups 56 = .ok (.iadd, 1) := by decide +kernel
theorem dX7_sups_57 : decode cX7_sups 57 = .ok (.invokevirtual 75, 3) := by decide +kernel
theorem dX7_sups_60 : decode cX7_sups 60 = .ok (.istore 5, 2) := by decide +kernel
theorem dX7_sups_62 : decode cX7_sups 62 = .ok (.aload_n 0, 1) := by decide +kernel
theorem dX7_sups_63 : decode cX7_sups 63 = .ok (.getfield 7, 3) := by decide +kernel
theorem dX7_sups_66 : decode cX7_sups 66 = .ok (.iconst 5, 1) := by decide +kernel
theorem dX7_sups_67 : decode cX7_sups 67 = .ok (.dup2, 1) := by decide +kernel
theorem dX7_sups_68 : decode cX7_sups 68 = .ok (.iaload, 1) := by decide +kernel
theorem dX7_sups_69 : decode cX7_sups 69 = .ok (.iload 5, 2) := by decide +kernel
theorem dX7_sups_71 : decode cX7_sups 71 = .ok (.iload_n 1, 1) := by decide +kernel
theorem dX7_sups_72 : decode cX7_sups 72 = .ok (.if_icmp .ge 8, 3) := by decide +kernel
theorem dX7_sups_75 : decode cX7_sups 75 = .ok (.iload 5, 2) := by decide +kernel
theorem dX7_sups_77 : decode cX7_sups 77 = .ok (.goto 4, 3) := by decide +kernel
theorem dX7_sups_80 : decode cX7_sups 80 = .ok (.iload_n 1, 1) := by decide +kernel
theorem dX7_sups_81 : decode cX7_sups 81 = .ok (.iadd, 1) := by decide +kernel
theorem dX7_sups_82 : decode cX7_sups 82 = .ok (.iastore, 1) := by decide +kernel
theorem dX7_sups_83 : decode cX7_sups 83 = .ok (.aload_n 0, 1) := by decide +kernel
theorem dX7_sups_84 : decode cX7_sups 84 = .ok (.getfield 7, 3) := by decide +kernel
theorem dX7_sups_87 : decode cX7_sups 87 = .ok (.bipush 8, 2) := by decide +kernel
theorem dX7_sups_89 : decode cX7_sups 89 = .ok (.dup2, 1) := by decide +kernel
theorem dX7_sups_90 : decode cX7_sups 90 = .ok (.iaload, 1) := by decide +kernel
theorem dX7_sups_91 : decode cX7_sups 91 = .ok (.iload_n 1, 1) := by decide +kernel
theorem dX7_sups_92 : decode cX7_sups 92 = .ok (.ifCond .le 13, 3) := by decide +kernel
theorem dX7_sups_95 : decode cX7_sups 95 = .ok (.iload 4, 2) := by decide +kernel
theorem dX7_sups_97 : decode cX7_sups 97 = .ok (.iload_n 2, 1) := by decide +kernel
theorem dX7_sups_98 : decode cX7_sups 98 = .ok (.if_icmp .ge 7, 3) := by decide +kernel
theorem dX7_sups_101 : decode cX7_sups 101 = .ok (.iconst 1, 1) := by decide +kernel
theorem dX7_sups_102 : decode cX7_sups 102 = .ok (.goto 4, 3) := by decide +kernel
theorem dX7_sups_105 : decode cX7_sups 105 = .ok (.iconst 0, 1) := by decide +kernel
theorem dX7_sups_106 : decode cX7_sups 106 = .ok (.iadd, 1) := by decide +kernel
theorem dX7_sups_107 : decode cX7_sups 107 = .ok (.iastore, 1) := by decide +kernel
theorem dX7_sups_108 : decode cX7_sups 108 = .ok (.return_, 1) := by decide +kernel
set_option maxRecDepth 20000 in
theorem ggX7_heats_X7_isStorm : GoodIn wsX7_heats wsX7_isStorm := goodIn_r _ [6, 1, 23, 24, 25, 26, 27, 28, 29, 30, 31, 32, 33, 34, 35, 36] (by decide +kernel) (by decide +kernel)
set_option maxRecDepth 20000 in
theorem gX7_heats_X7_isStorm : GoodIn wsX7_heats (wsV RX7 64 RX7 yX7_isStorm wsX7_isStorm) := goodIn_app (goodIn_of _ (by decide +kernel)) ggX7_heats_X7_isStorm
set_option maxRecDepth 20000 in
theorem ggX7_heats_X7_uses : GoodIn wsX7_heats wsX7_uses := goodIn_r _ [10, 1, 11, 12, 13, 5, 14, 15, 16, 17, 18, 19, 20, 21, 22, 23, 24, 25, 26, 27, 28, 29, 30, 31, 32, 33, 34, 35, 36] (by decide +kernel) (by decide +kernel)
set_option maxRecDepth 20000 in
theorem gX7_heats_X7_uses : GoodIn wsX7_heats (wsV RX7 75 RX7 yX7_uses wsX7_uses) := goodIn_app (goodIn_of _ (by decide +kernel)) ggX7_heats_X7_uses
theorem dX7_heats_0 : decode cX7_heats 0 = .ok (.iload_n 1, 1) := by decide +kernel
theorem dX7_heats_1 : decode cX7_heats 1 = .ok (.ifCond .ne 7, 3) := by decide +kernel
theorem dX7_heats_4 : decode cX7_heats 4 = .ok (.iconst 0, 1) := by decide +kernel
theorem dX7_heats_5 : decode cX7_heats 5 = .ok (.goto 27, 3) := by decide +kernel
theorem dX7_heats_8 : decode cX7_heats 8 = .ok (.iload_n 1, 1) := by decide +kernel
theorem dX7_heats_9 : decode cX7_heats 9 = .ok (.iconst 3, 1) := by decide +kernel
theorem dX7_heats_10 : decode cX7_heats 10 = .ok (.iadd, 1) := by decide +kernel
theorem dX7_heats_11 : decode cX7_heats 11 = .ok (.iconst 4, 1) := by decide +kernel
theorem dX7_heats_12 : decode cX7_heats 12 = .ok (.idiv, 1) := by decide +kernel
theorem dX7_heats_13 : decode cX7_heats 13 = .ok (.aload_n 0, 1) := by decide +kernel
theorem dX7_heats_14 : decode cX7_heats 14 = .ok (.aload_n 0, 1) := by decide +kernel
theorem dX7_heats_15 : decode cX7_heats 15 = .ok (.getfield 7, 3) := by decide +kernel
theorem dX7_heats_18 : decode cX7_heats 18 = .ok (.iconst 0, 1) := by decide +kernel
theorem dX7_heats_19 : decode cX7_heats 19 = .ok (.iaload, 1) := by decide +kernel
theorem dX7_heats_20 : decode cX7_heats 20 = .ok (.invokevirtual 64, 3) := by decide +kernel
theorem dX7_heats_23 : decode cX7_heats 23 = .ok (.ifCond .eq 7, 3) := by decide +kernel
theorem dX7_heats_26 : decode cX7_heats 26 = .ok (.iconst 1, 1) := by decide +kernel
theorem dX7_heats_27 : decode cX7_heats 27 = .ok (.goto 4, 3) := by decide +kernel
theorem dX7_heats_30 : decode cX7_heats 30 = .ok (.iconst 0, 1) := by decide +kernel
theorem dX7_heats_31 : decode cX7_heats 31 = .ok (.iadd, 1) := by decide +kernel
theorem dX7_heats_32 : decode cX7_heats 32 = .ok (.istore_n 2, 1) := by decide +kernel
theorem dX7_heats_33 : decode cX7_heats 33 = .ok (.aload_n 0, 1) := by decide +kernel
theorem dX7_heats_34 : decode cX7_heats 34 = .ok (.getfield 7, 3) := by decide +kernel
theorem dX7_heats_37 : decode cX7_heats 37 = .ok (.bipush 6, 2) := by decide +kernel
theorem dX7_heats_39 : decode cX7_heats 39 = .ok (.dup2, 1) := by decide +kernel
theorem dX7_heats_40 : decode cX7_heats 40 = .ok (.iaload, 1) := by decide +kernel
theorem dX7_heats_41 : decode cX7_heats 41 = .ok (.aload_n 0, 1) := by decide +kernel
theorem dX7_heats_42 : decode cX7_heats 42 = .ok (.iconst 2, 1) := by decide +kernel
theorem dX7_heats_43 : decode cX7_heats 43 = .ok (.iload_n 2, 1) := by decide +kernel
theorem dX7_heats_44 : decode cX7_heats 44 = .ok (.invokevirtual 75, 3) := by decide +kernel
theorem dX7_heats_47 : decode cX7_heats 47 = .ok (.ifCond .le 7, 3) := by decide +kernel
theorem dX7_heats_50 : decode cX7_heats 50 = .ok (.iconst 1, 1) := by decide +kernel
theorem dX7_heats_51 : decode cX7_heats 51 = .ok (.goto 4, 3) := by decide +kernel
theorem dX7_heats_54 : decode cX7_heats 54 = .ok (.iconst 0, 1) := by decide +kernel
theorem dX7_heats_55 : decode cX7_heats 55 = .ok (.iadd, 1) := by decide +kernel
theorem dX7_heats_56 : decode cX7_heats 56 = .ok (.iastore, 1) := by decide +kernel
theorem dX7_heats_57 : decode cX7_heats 57 = .ok (.return_, 1) := by decide +kernel
set_option maxRecDepth 20000 in
theorem ggX7_night_X7_isStorm : GoodIn wsX7_night wsX7_isStorm := goodIn_r _ [6, 1, 59, 60, 61, 62, 63, 64, 65, 66, 67, 68, 69, 70, 71, 72] (by decide +kernel) (by decide +kernel)
set_option maxRecDepth 20000 in
theorem gX7_night_X7_isStorm : GoodIn wsX7_night (wsV RX7 64 RX7 yX7_isStorm wsX7_isStorm) := goodIn_app (goodIn_of _ (by decide +kernel)) ggX7_night_X7_isStorm
set_option maxRecDepth 20000 in
theorem ggX7_night_X7_leave : GoodIn wsX7_night wsX7_leave := goodIn_r _ [10, 1, 11, 12, 13, 5, 14, 15, 16, 17, 18, 59, 60, 61, 62, 63, 64, 65, 66, 67, 68, 69, 70, 71, 72] (by decide +kernel) (by decide +kernel)
set_option maxRecDepth 20000 in
theorem gX7_night_X7_leave : GoodIn wsX7_night (wsV RX7 78 RX7 yX7_leave wsX7_leave) := goodIn_app (goodIn_of _ (by decide +kernel)) ggX7_night_X7_leave
set_option maxRecDepth 20000 in
theorem ggX7_night_X7_ofParty : GoodIn wsX7_night wsX7_ofParty := goodIn_r _ [14, 1, 59, 60, 61, 62, 63, 64, 65, 66, 67, 68, 69, 70, 71, 72] (by decide +kernel) (by decide +kernel)
set_option maxRecDepth 20000 in
theorem gX7_night_X7_ofParty : GoodIn wsX7_night (wsV RX7 54 RX7 yX7_ofParty wsX7_ofParty) := goodIn_app (goodIn_of _ (by decide +kernel)) ggX7_night_X7_ofParty
set_option maxRecDepth 20000 in
theorem ggX7_night_X7_arrives : GoodIn wsX7_night wsX7_arrives := goodIn_r _ [22, 1, 11, 12, 13, 5, 14, 15, 16, 17, 18, 2, 3, 4, 6, 23, 24, 25, 26, 59, 60, 61, 62, 63, 64, 65, 66, 67, 68, 69, 70, 71, 72] (by decide +kernel) (by decide +kernel)
set_option maxRecDepth 20000 in
theorem gX7_night_X7_arrives : GoodIn wsX7_night (wsV RX7 81 RX7 yX7_arrives wsX7_arrives) := goodIn_app (goodIn_of _ (by decide +kernel)) ggX7_night_X7_arrives
set_option maxRecDepth 20000 in
theorem ggX7_night_X7_guests : GoodIn wsX7_night wsX7_guests := goodIn_r _ [26, 1, 11, 12, 13, 5, 14, 59, 60, 61, 62, 63, 64, 65, 66, 67, 68, 69, 70, 71, 72] (by decide +kernel) (by decide +kernel)
set_option maxRecDepth 20000 in
theorem gX7_night_X7_guests : GoodIn wsX7_night (wsV RX7 68 RX7 yX7_guests wsX7_guests) := goodIn_app (goodIn_of _ (by decide +kernel)) ggX7_night_X7_guests
set_option maxRecDepth 20000 in
theorem ggX7_night_X7_sups : GoodIn wsX7_night wsX7_sups := goodIn_r _ [30, 1, 31, 32, 33, 5, 34, 35, 36, 37, 38, 39, 40, 41, 42, 43, 44, 45, 46, 47, 48, 49, 50, 59, 60, 61, 62, 63, 64, 65, 66, 67, 68, 69, 70, 71, 72] (by decide +kernel) (by decide +kernel)
set_option maxRecDepth 20000 in
theorem gX7_night_X7_sups : GoodIn wsX7_night (wsV RX7 84 RX7 yX7_sups wsX7_sups) := goodIn_app (goodIn_of _ (by decide +kernel)) ggX7_night_X7_sups
set_option maxRecDepth 20000 in
theorem ggX7_night_X7_heats : GoodIn wsX7_night wsX7_heats := goodIn_r _ [54, 1, 2, 3, 4, 5, 6, 39, 40, 41, 42, 43, 44, 45, 46, 35, 36, 37, 38, 47, 48, 49, 50, 59, 60, 61, 62, 63, 64, 65, 66, 67, 68, 69, 70, 71, 72] (by decide +kernel) (by decide +kernel)
set_option maxRecDepth 20000 in
theorem gX7_night_X7_heats : GoodIn wsX7_night (wsV RX7 87 RX7 yX7_heats wsX7_heats) := goodIn_app (goodIn_of _ (by decide +kernel)) ggX7_night_X7_heats
set_option maxRecDepth 20000 in
theorem ggX7_night_X7_setParty : GoodIn wsX7_night wsX7_setParty := goodIn_r _ [18, 1, 59, 60, 61, 62, 63, 64, 65, 66, 67, 68, 69, 70, 71, 72] (by decide +kernel) (by decide +kernel)
set_option maxRecDepth 20000 in
theorem gX7_night_X7_setParty : GoodIn wsX7_night (wsV RX7 60 RX7 yX7_setParty wsX7_setParty) := goodIn_app (goodIn_of _ (by decide +kernel)) ggX7_night_X7_setParty
set_option maxRecDepth 20000 in
theorem ggX7_night_X7_spoils : GoodIn wsX7_night wsX7_spoils := goodIn_r _ [58, 1, 35, 36, 37, 5, 38, 47, 48, 49, 50, 59, 60, 61, 62, 63, 64, 65, 66, 67, 68, 69, 70, 71, 72] (by decide +kernel) (by decide +kernel)
set_option maxRecDepth 20000 in
theorem gX7_night_X7_spoils : GoodIn wsX7_night (wsV RX7 90 RX7 yX7_spoils wsX7_spoils) := goodIn_app (goodIn_of _ (by decide +kernel)) ggX7_night_X7_spoils
theorem dX7_night_0 : decode cX7_night 0 = .ok (.aload_n 0, 1) := by decide +kernel
theorem dX7_night_1 : decode cX7_night 1 = .ok (.aload_n 0, 1) := by decide +kernel
theorem dX7_night_2 : decode cX7_night 2 = .ok (.getfield 7, 3) := by decide +kernel
theorem dX7_night_5 : decode cX7_night 5 = .ok (.iconst 0, 1) := by decide +kernel
theorem dX7_night_6 : decode cX7_night 6 = .ok (.iaload, 1) := by decide +kernel
theorem dX7_night_7 : decode cX7_night 7 = .ok (.invokevirtual 64, 3) := by decide +kernel
theorem dX7_night_10 : decode cX7_night 10 = .ok (.ifCond .ne 7, 3) := by decide +kernel
theorem dX7_night_13 : decode cX7_night 13 = .ok (.aload_n 0, 1) := by decide +kernel
theorem dX7_night_14 : decode cX7_night 14 = .ok (.invokevirtual 78, 3) := by decide +kernel
theorem dX7_night_17 : decode cX7_night 17 = .ok (.iconst 0, 1) := by decide +kernel
theorem dX7_night_18 : decode cX7_night 18 = .ok (.istore_n 1, 1) := by decide +kernel
theorem dX7_night_19 : decode cX7_night 19 = .ok (.iload_n 1, 1) := by decide +kernel
theorem dX7_night_20 : decode cX7_night 20 = .ok (.aload_n 0, 1) := by decide +kernel
theorem dX7_night_21 : decode cX7_night 21 = .ok (.getfield 7, 3) := by decide +kernel
theorem dX7_night_24 : decode cX7_night 24 = .ok (.iconst 4, 1) := by decide +kernel
theorem dX7_night_25 : decode cX7_night 25 = .ok (.iaload, 1) := by decide +kernel
theorem dX7_night_26 : decode cX7_night 26 = .ok (.if_icmp .ge 38, 3) := by decide +kernel
theorem dX7_night_29 : decode cX7_night 29 = .ok (.aload_n 0, 1) := by decide +kernel
theorem dX7_night_30 : decode cX7_night 30 = .ok (.iload_n 1, 1) := by decide +kernel
theorem dX7_night_31 : decode cX7_night 31 = .ok (.iconst 3, 1) := by decide +kernel
theorem dX7_night_32 : decode cX7_night 32 = .ok (.invokevirtual 54, 3) := by decide +kernel
theorem dX7_night_35 : decode cX7_night 35 = .ok (.ifCond .ne 23, 3) := by decide +kernel
theorem dX7_night_38 : decode cX7_night 38 = .ok (.aload_n 0, 1) := by decide +kernel
theorem dX7_night_39 : decode cX7_night 39 = .ok (.iload_n 1, 1) := by decide +kernel
theorem dX7_night_40 : decode cX7_night 40 = .ok (.iconst 1, 1) := by decide +kernel
theorem dX7_night_41 : decode cX7_night 41 = .ok (.invokevirtual 54, 3) := by decide +kernel
theorem dX7_night_44 : decode cX7_night 44 = .ok (.aload_n 0, 1) := by decide +kernel
theorem dX7_night_45 : decode cX7_night 45 = .ok (.getfield 7, 3) := by decide +kernel
theorem dX7_night_48 : decode cX7_night 48 = .ok (.iconst 0, 1) := by decide +kernel
theorem dX7_night_49 : decode cX7_night 49 = .ok (.iaload, 1) := by decide +kernel
theorem dX7_night_50 : decode cX7_night 50 = .ok (.if_icmp .gt 8, 3) := by decide +kernel
theorem dX7_night_53 : decode cX7_night 53 = .ok (.aload_n 0, 1) := by decide +kernel
theorem dX7_night_54 : decode cX7_night 54 = .ok (.iload_n 1, 1) := by decide +kernel
theorem dX7_night_55 : decode cX7_night 55 = .ok (.invokevirtual 81, 3) := by decide +kernel
theorem dX7_night_58 : decode cX7_night 58 = .ok (.iinc 1 1, 3) := by decide +kernel
theorem dX7_night_61 : decode cX7_night 61 = .ok (.goto (-42), 3) := by decide +kernel
theorem dX7_night_64 : decode cX7_night 64 = .ok (.aload_n 0, 1) := by decide +kernel
theorem dX7_night_65 : decode cX7_night 65 = .ok (.invokevirtual 68, 3) := by decide +kernel
theorem dX7_night_68 : decode cX7_night 68 = .ok (.istore_n 1, 1) := by decide +kernel
theorem dX7_night_69 : decode cX7_night 69 = .ok (.aload_n 0, 1) := by decide +kernel
theorem dX7_night_70 : decode cX7_night 70 = .ok (.iload_n 1, 1) := by decide +kernel
theorem dX7_night_71 : decode cX7_night 71 = .ok (.invokevirtual 84, 3) := by decide +kernel
theorem dX7_night_74 : decode cX7_night 74 = .ok (.aload_n 0, 1) := by decide +kernel
theorem dX7_night_75 : decode cX7_night 75 = .ok (.iload_n 1, 1) := by decide +kernel
theorem dX7_night_76 : decode cX7_night 76 = .ok (.invokevirtual 87, 3) := by decide +kernel
theorem dX7_night_79 : decode cX7_night 79 = .ok (.aload_n 0, 1) := by decide +kernel
theorem dX7_night_80 : decode cX7_night 80 = .ok (.getfield 7, 3) := by decide +kernel
theorem dX7_night_83 : decode cX7_night 83 = .ok (.bipush 7, 2) := by decide +kernel
theorem dX7_night_85 : decode cX7_night 85 = .ok (.dup2, 1) := by decide +kernel
theorem dX7_night_86 : decode cX7_night 86 = .ok (.iaload, 1) := by decide +kernel
theorem dX7_night_87 : decode cX7_night 87 = .ok (.iload_n 1, 1) := by decide +kernel
theorem dX7_night_88 : decode cX7_night 88 = .ok (.iadd, 1) := by decide +kernel
theorem dX7_night_89 : decode cX7_night 89 = .ok (.iastore, 1) := by decide +kernel
theorem dX7_night_90 : decode cX7_night 90 = .ok (.iconst 0, 1) := by decide +kernel
theorem dX7_night_91 : decode cX7_night 91 = .ok (.istore_n 2, 1) := by decide +kernel
theorem dX7_night_92 : decode cX7_night 92 = .ok (.iload_n 2, 1) := by decide +kernel
theorem dX7_night_93 : decode cX7_night 93 = .ok (.aload_n 0, 1) := by decide +kernel
theorem dX7_night_94 : decode cX7_night 94 = .ok (.getfield 7, 3) := by decide +kernel
theorem dX7_night_97 : decode cX7_night 97 = .ok (.iconst 4, 1) := by decide +kernel
theorem dX7_night_98 : decode cX7_night 98 = .ok (.iaload, 1) := by decide +kernel
theorem dX7_night_99 : decode cX7_night 99 = .ok (.if_icmp .ge 37, 3) := by decide +kernel
theorem dX7_night_102 : decode cX7_night 102 = .ok (.aload_n 0, 1) := by decide +kernel
theorem dX7_night_103 : decode cX7_night 103 = .ok (.iload_n 2, 1) := by decide +kernel
theorem dX7_night_104 : decode cX7_night 104 = .ok (.iconst 4, 1) := by decide +kernel
theorem dX7_night_105 : decode cX7_night 105 = .ok (.aload_n 0, 1) := by decide +kernel
theorem dX7_night_106 : decode cX7_night 106 = .ok (.iload_n 2, 1) := by decide +kernel
theorem dX7_night_107 : decode cX7_night 107 = .ok (.iconst 4, 1) := by decide +kernel
theorem dX7_night_108 : decode cX7_night 108 = .ok (.invokevirtual 54, 3) := by decide +kernel
theorem dX7_night_111 : decode cX7_night 111 = .ok (.aload_n 0, 1) := by decide +kernel
theorem dX7_night_112 : decode cX7_night 112 = .ok (.iload_n 2, 1) := by decide +kernel
theorem dX7_night_113 : decode cX7_night 113 = .ok (.iconst 3, 1) := by decide +kernel
theorem dX7_night_114 : decode cX7_night 114 = .ok (.invokevirtual 54, 3) := by decide +kernel
theorem dX7_night_117 : decode cX7_night 117 = .ok (.iconst 1, 1) := by decide +kernel
theorem dX7_night_118 : decode cX7_night 118 = .ok (.if_icmp .ne 7, 3) := by decide +kernel
theorem dX7_night_121 : decode cX7_night 121 = .ok (.iconst 1, 1) := by decide +kernel
theorem dX7_night_122 : decode cX7_night 122 = .ok (.goto 4, 3) := by decide +kernel
theorem dX7_night_125 : decode cX7_night 125 = .ok (.iconst 0, 1) := by decide +kernel
theorem dX7_night_126 : decode cX7_night 126 = .ok (.iadd, 1) := by decide +kernel
theorem dX7_night_127 : decode cX7_night 127 = .ok (.invokevirtual 60, 3) := by decide +kernel
theorem dX7_night_130 : decode cX7_night 130 = .ok (.iinc 2 1, 3) := by decide +kernel
theorem dX7_night_133 : decode cX7_night 133 = .ok (.goto (-41), 3) := by decide +kernel
theorem dX7_night_136 : decode cX7_night 136 = .ok (.aload_n 0, 1) := by decide +kernel
theorem dX7_night_137 : decode cX7_night 137 = .ok (.invokevirtual 90, 3) := by decide +kernel
theorem dX7_night_140 : decode cX7_night 140 = .ok (.aload_n 0, 1) := by decide +kernel
theorem dX7_night_141 : decode cX7_night 141 = .ok (.getfield 7, 3) := by decide +kernel
theorem dX7_night_144 : decode cX7_night 144 = .ok (.iconst 0, 1) := by decide +kernel
theorem dX7_night_145 : decode cX7_night 145 = .ok (.dup2, 1) := by decide +kernel
theorem dX7_night_146 : decode cX7_night 146 = .ok (.iaload, 1) := by decide +kernel
theorem dX7_night_147 : decode cX7_night 147 = .ok (.iconst 1, 1) := by decide +kernel
theorem dX7_night_148 : decode cX7_night 148 = .ok (.iadd, 1) := by decide +kernel
theorem dX7_night_149 : decode cX7_night 149 = .ok (.iastore, 1) := by decide +kernel
theorem dX7_night_150 : decode cX7_night 150 = .ok (.return_, 1) := by decide +kernel
set_option maxRecDepth 20000 in
theorem ggX7_adds_X7_setParty : GoodIn wsX7_adds wsX7_setParty := goodIn_r _ [6, 1, 7, 8, 9, 10, 11, 12, 13, 14, 15, 16, 17, 18, 19, 20] (by decide +kernel) (by decide +kernel)
set_option maxRecDepth 20000 in
theorem gX7_adds_X7_setParty : GoodIn wsX7_adds (wsV RX7 60 RX7 yX7_setParty wsX7_setParty) := goodIn_app (goodIn_of _ (by decide +kernel)) ggX7_adds_X7_setParty
theorem dX7_adds_0 : decode cX7_adds 0 = .ok (.aload_n 0, 1) := by decide +kernel
theorem dX7_adds_1 : decode cX7_adds 1 = .ok (.getfield 7, 3) := by decide +kernel
theorem dX7_adds_4 : decode cX7_adds 4 = .ok (.iconst 4, 1) := by decide +kernel
theorem dX7_adds_5 : decode cX7_adds 5 = .ok (.iaload, 1) := by decide +kernel
theorem dX7_adds_6 : decode cX7_adds 6 = .ok (.istore 4, 2) := by decide +kernel
theorem dX7_adds_8 : decode cX7_adds 8 = .ok (.aload_n 0, 1) := by decide +kernel
theorem dX7_adds_9 : decode cX7_adds 9 = .ok (.getfield 7, 3) := by decide +kernel
theorem dX7_adds_12 : decode cX7_adds 12 = .ok (.iconst 4, 1) := by decide +kernel
theorem dX7_adds_13 : decode cX7_adds 13 = .ok (.dup2, 1) := by decide +kernel
theorem dX7_adds_14 : decode cX7_adds 14 = .ok (.iaload, 1) := by decide +kernel
theorem dX7_adds_15 : decode cX7_adds 15 = .ok (.iconst 1, 1) := by decide +kernel
theorem dX7_adds_16 : decode cX7_adds 16 = .ok (.iadd, 1) := by decide +kernel
theorem dX7_adds_17 : decode cX7_adds 17 = .ok (.iastore, 1) := by decide +kernel
theorem dX7_adds_18 : decode cX7_adds 18 = .ok (.aload_n 0, 1) := by decide +kernel
theorem dX7_adds_19 : decode cX7_adds 19 = .ok (.iload 4, 2) := by decide +kernel
theorem dX7_adds_21 : decode cX7_adds 21 = .ok (.iconst 0, 1) := by decide +kernel
theorem dX7_adds_22 : decode cX7_adds 22 = .ok (.iload_n 1, 1) := by decide +kernel
theorem dX7_adds_23 : decode cX7_adds 23 = .ok (.invokevirtual 60, 3) := by decide +kernel
theorem dX7_adds_26 : decode cX7_adds 26 = .ok (.aload_n 0, 1) := by decide +kernel
theorem dX7_adds_27 : decode cX7_adds 27 = .ok (.iload 4, 2) := by decide +kernel
theorem dX7_adds_29 : decode cX7_adds 29 = .ok (.iconst 1, 1) := by decide +kernel
theorem dX7_adds_30 : decode cX7_adds 30 = .ok (.iload_n 2, 1) := by decide +kernel
theorem dX7_adds_31 : decode cX7_adds 31 = .ok (.invokevirtual 60, 3) := by decide +kernel
theorem dX7_adds_34 : decode cX7_adds 34 = .ok (.aload_n 0, 1) := by decide +kernel
theorem dX7_adds_35 : decode cX7_adds 35 = .ok (.iload 4, 2) := by decide +kernel
theorem dX7_adds_37 : decode cX7_adds 37 = .ok (.iconst 2, 1) := by decide +kernel
theorem dX7_adds_38 : decode cX7_adds 38 = .ok (.iload_n 3, 1) := by decide +kernel
theorem dX7_adds_39 : decode cX7_adds 39 = .ok (.invokevirtual 60, 3) := by decide +kernel
theorem dX7_adds_42 : decode cX7_adds 42 = .ok (.aload_n 0, 1) := by decide +kernel
theorem dX7_adds_43 : decode cX7_adds 43 = .ok (.iload 4, 2) := by decide +kernel
theorem dX7_adds_45 : decode cX7_adds 45 = .ok (.iconst 3, 1) := by decide +kernel
theorem dX7_adds_46 : decode cX7_adds 46 = .ok (.iconst 0, 1) := by decide +kernel
theorem dX7_adds_47 : decode cX7_adds 47 = .ok (.invokevirtual 60, 3) := by decide +kernel
theorem dX7_adds_50 : decode cX7_adds 50 = .ok (.aload_n 0, 1) := by decide +kernel
theorem dX7_adds_51 : decode cX7_adds 51 = .ok (.iload 4, 2) := by decide +kernel
theorem dX7_adds_53 : decode cX7_adds 53 = .ok (.iconst 4, 1) := by decide +kernel
theorem dX7_adds_54 : decode cX7_adds 54 = .ok (.iconst 0, 1) := by decide +kernel
theorem dX7_adds_55 : decode cX7_adds 55 = .ok (.invokevirtual 60, 3) := by decide +kernel
theorem dX7_adds_58 : decode cX7_adds 58 = .ok (.aload_n 0, 1) := by decide +kernel
theorem dX7_adds_59 : decode cX7_adds 59 = .ok (.iload 4, 2) := by decide +kernel
theorem dX7_adds_61 : decode cX7_adds 61 = .ok (.iconst 5, 1) := by decide +kernel
theorem dX7_adds_62 : decode cX7_adds 62 = .ok (.iconst 0, 1) := by decide +kernel
theorem dX7_adds_63 : decode cX7_adds 63 = .ok (.invokevirtual 60, 3) := by decide +kernel
theorem dX7_adds_66 : decode cX7_adds 66 = .ok (.return_, 1) := by decide +kernel
set_option maxRecDepth 20000 in
theorem ggX7_isTaken_X7_adds : GoodIn wsX7_isTaken wsX7_adds := goodIn_r _ [7, 2, 8, 9, 10, 6, 11, 76, 77, 78, 79, 80, 81, 82, 83, 84, 85, 86, 87, 88, 89] (by decide +kernel) (by decide +kernel)
set_option maxRecDepth 20000 in
theorem gX7_isTaken_X7_adds : GoodIn wsX7_isTaken (wsV RX7 93 RX7 yX7_adds wsX7_adds) := goodIn_app (goodIn_of _ (by decide +kernel)) ggX7_isTaken_X7_adds
set_option maxRecDepth 20000 in
theorem ggX7_isTaken_X7_isAny : GoodIn wsX7_isTaken wsX7_isAny := goodIn_r _ [15, 16, 17, 18, 6, 19, 2, 20, 21, 22, 23, 76, 77, 78, 79, 80, 81, 82, 83, 84, 85, 86, 87, 88, 89] (by decide +kernel) (by decide +kernel)
set_option maxRecDepth 20000 in
theorem gX7_isTaken_X7_isAny : GoodIn wsX7_isTaken (wsV RX7 96 RX7 yX7_isAny wsX7_isAny) := goodIn_app (goodIn_of _ (by decide +kernel)) ggX7_isTaken_X7_isAny
set_option maxRecDepth 20000 in
theorem ggX7_isTaken_X7_night : GoodIn wsX7_isTaken wsX7_night := goodIn_r _ [27, 2, 28, 29, 30, 6, 31, 32, 33, 34, 35, 20, 21, 22, 23, 8, 9, 10, 11, 36, 37, 38, 39, 40, 41, 42, 43, 44, 45, 46, 47, 48, 49, 50, 51, 52, 53, 54, 55, 56, 57, 58, 59, 60, 61, 62, 63, 64, 65, 66, 67, 68, 69, 70, 71, 72, 73, 74, 75, 76, 77, 78, 79, 80, 81, 82, 83, 84, 85, 86, 87, 88, 89] (by decide +kernel) (by decide +kernel)
set_option maxRecDepth 20000 in
theorem gX7_isTaken_X7_night : GoodIn wsX7_isTaken (wsV RX7 100 RX7 yX7_night wsX7_night) := goodIn_app (goodIn_of _ (by decide +kernel)) ggX7_isTaken_X7_night
theorem dX7_isTaken_0 : decode cX7_isTaken 0 = .ok (.iconst 0, 1) := by decide +kernel
theorem dX7_isTaken_1 : decode cX7_isTaken 1 = .ok (.istore 4, 2) := by decide +kernel
theorem dX7_isTaken_3 : decode cX7_isTaken 3 = .ok (.iload 4, 2) := by decide +kernel
theorem dX7_isTaken_5 : decode cX7_isTaken 5 = .ok (.sipush 599, 3) := by decide +kernel
theorem dX7_isTaken_8 : decode cX7_isTaken 8 = .ok (.if_icmp .ge 23, 3) := by decide +kernel
theorem dX7_isTaken_11 : decode cX7_isTaken 11 = .ok (.aload_n 0, 1) := by decide +kernel
theorem dX7_isTaken_12 : decode cX7_isTaken 12 = .ok (.getfield 25, 3) := by decide +kernel
theorem dX7_isTaken_15 : decode cX7_isTaken 15 = .ok (.iload 4, 2) := by decide +kernel
theorem dX7_isTaken_17 : decode cX7_isTaken 17 = .ok (.aload_n 0, 1) := by decide +kernel
theorem dX7_isTaken_18 : decode cX7_isTaken 18 = .ok (.getfield 7, 3) := by decide +kernel
theorem dX7_isTaken_21 : decode cX7_isTaken 21 = .ok (.iload 4, 2) := by decide +kernel
theorem dX7_isTaken_23 : decode cX7_isTaken 23 = .ok (.iaload, 1) := by decide +kernel
theorem dX7_isTaken_24 : decode cX7_isTaken 24 = .ok (.iastore, 1) := by decide +kernel
theorem dX7_isTaken_25 : decode cX7_isTaken 25 = .ok (.iinc 4 1, 3) := by decide +kernel
theorem dX7_isTaken_28 : decode cX7_isTaken 28 = .ok (.goto (-25), 3) := by decide +kernel
theorem dX7_isTaken_31 : decode cX7_isTaken 31 = .ok (.aload_n 0, 1) := by decide +kernel
theorem dX7_isTaken_32 : decode cX7_isTaken 32 = .ok (.iload_n 1, 1) := by decide +kernel
theorem dX7_isTaken_33 : decode cX7_isTaken 33 = .ok (.iload_n 2, 1) := by decide +kernel
theorem dX7_isTaken_34 : decode cX7_isTaken 34 = .ok (.iload_n 3, 1) := by decide +kernel
theorem dX7_isTaken_35 : decode cX7_isTaken 35 = .ok (.invokevirtual 93, 3) := by decide +kernel
theorem dX7_isTaken_38 : decode cX7_isTaken 38 = .ok (.iconst 1, 1) := by decide +kernel
theorem dX7_isTaken_39 : decode cX7_isTaken 39 = .ok (.istore 4, 2) := by decide +kernel
theorem dX7_isTaken_41 : decode cX7_isTaken 41 = .ok (.iload 4, 2) := by decide +kernel
theorem dX7_isTaken_43 : decode cX7_isTaken 43 = .ok (.ifCond .eq 73, 3) := by decide +kernel
theorem dX7_isTaken_46 : decode cX7_isTaken 46 = .ok (.aload_n 0, 1) := by decide +kernel
theorem dX7_isTaken_47 : decode cX7_isTaken 47 = .ok (.invokevirtual 96, 3) := by decide +kernel
theorem dX7_isTaken_50 : decode cX7_isTaken 50 = .ok (.ifCond .eq 66, 3) := by decide +kernel
theorem dX7_isTaken_53 : decode cX7_isTaken 53 = .ok (.aload_n 0, 1) := by decide +kernel
theorem dX7_isTaken_54 : decode cX7_isTaken 54 = .ok (.invokevirtual 100, 3) := by decide +kernel
theorem dX7_isTaken_57 : decode cX7_isTaken 57 = .ok (.aload_n 0, 1) := by decide +kernel
theorem dX7_isTaken_58 : decode cX7_isTaken 58 = .ok (.getfield 7, 3) := by decide +kernel
theorem dX7_isTaken_61 : decode cX7_isTaken 61 = .ok (.iconst 5, 1) := by decide +kernel
theorem dX7_isTaken_62 : decode cX7_isTaken 62 = .ok (.iaload, 1) := by decide +kernel
theorem dX7_isTaken_63 : decode cX7_isTaken 63 = .ok (.aload_n 0, 1) := by decide +kernel
theorem dX7_isTaken_64 : decode cX7_isTaken 64 = .ok (.getfield 25, 3) := by decide +kernel
theorem dX7_isTaken_67 : decode cX7_isTaken 67 = .ok (.iconst 5, 1) := by decide +kernel
theorem dX7_isTaken_68 : decode cX7_isTaken 68 = .ok (.iaload, 1) := by decide +kernel
theorem dX7_isTaken_69 : decode cX7_isTaken 69 = .ok (.if_icmp .ne 41, 3) := by decide +kernel
theorem dX7_isTaken_72 : decode cX7_isTaken 72 = .ok (.aload_n 0, 1) := by decide +kernel
theorem dX7_isTaken_73 : decode cX7_isTaken 73 = .ok (.getfield 7, 3) := by decide +kernel
theorem dX7_isTaken_76 : decode cX7_isTaken 76 = .ok (.bipush 6, 2) := by decide +kernel
theorem dX7_isTaken_78 : decode cX7_isTaken 78 = .ok (.iaload, 1) := by decide +kernel
theorem dX7_isTaken_79 : decode cX7_isTaken 79 = .ok (.aload_n 0, 1) := by decide +kernel
theorem dX7_isTaken_80 : decode cX7_isTaken 80 = .ok (.getfield 25, 3) := by decide +kernel
theorem dX7_isTaken_83 : decode cX7_isTaken 83 = .ok (.bipush 6, 2) := by decide +kernel
theorem dX7_isTaken_85 : decode cX7_isTaken 85 = .ok (.iaload, 1) := by decide +kernel
theorem dX7_isTaken_86 : decode cX7_isTaken 86 = .ok (.if_icmp .ne 24, 3) := by decide +kernel
theorem dX7_isTaken_89 : decode cX7_isTaken 89 = .ok (.aload_n 0, 1) := by decide +kernel
theorem dX7_isTaken_90 : decode cX7_isTaken 90 = .ok (.getfield 7, 3) := by decide +kernel
theorem dX7_isTaken_93 : decode cX7_isTaken 93 = .ok (.bipush 9, 2) := by decide +kernel
theorem dX7_isTaken_95 : decode cX7_isTaken 95 = .ok (.iaload, 1) := by decide +kernel
theorem dX7_isTaken_96 : decode cX7_isTaken 96 = .ok (.aload_n 0, 1) := by decide +kernel
theorem dX7_isTaken_97 : decode cX7_isTaken 97 = .ok (.getfield 25, 3) := by decide +kernel
theorem dX7_isTaken_100 : decode cX7_isTaken 100 = .ok (.bipush 9, 2) := by decide +kernel
theorem dX7_isTaken_102 : decode cX7_isTaken 102 = .ok (.iaload, 1) := by decide +kernel
theorem dX7_isTaken_103 : decode cX7_isTaken 103 = .ok (.if_icmp .ne 7, 3) := by decide +kernel
theorem dX7_isTaken_106 : decode cX7_isTaken 106 = .ok (.iconst 1, 1) := by decide +kernel
theorem dX7_isTaken_107 : decode cX7_isTaken 107 = .ok (.goto 4, 3) := by decide +kernel
theorem dX7_isTaken_110 : decode cX7_isTaken 110 = .ok (.iconst 0, 1) := by decide +kernel
theorem dX7_isTaken_111 : decode cX7_isTaken 111 = .ok (.istore 4, 2) := by decide +kernel
theorem dX7_isTaken_113 : decode cX7_isTaken 113 = .ok (.goto (-72), 3) := by decide +kernel
theorem dX7_isTaken_116 : decode cX7_isTaken 116 = .ok (.iconst 0, 1) := by decide +kernel
theorem dX7_isTaken_117 : decode cX7_isTaken 117 = .ok (.istore 5, 2) := by decide +kernel
theorem dX7_isTaken_119 : decode cX7_isTaken 119 = .ok (.iload 5, 2) := by decide +kernel
theorem dX7_isTaken_121 : decode cX7_isTaken 121 = .ok (.sipush 599, 3) := by decide +kernel
theorem dX7_isTaken_124 : decode cX7_isTaken 124 = .ok (.if_icmp .ge 23, 3) := by decide +kernel
theorem dX7_isTaken_127 : decode cX7_isTaken 127 = .ok (.aload_n 0, 1) := by decide +kernel
theorem dX7_isTaken_128 : decode cX7_isTaken 128 = .ok (.getfield 7, 3) := by decide +kernel
theorem dX7_isTaken_131 : decode cX7_isTaken 131 = .ok (.iload 5, 2) := by decide +kernel
theorem dX7_isTaken_133 : decode cX7_isTaken 133 = .ok (.aload_n 0, 1) := by decide +kernel
theorem dX7_isTaken_134 : decode cX7_isTaken 134 = .ok (.getfield 25, 3) := by decide +kernel
theorem dX7_isTaken_137 : decode cX7_isTaken 137 = .ok (.iload 5, 2) := by decide +kernel
theorem dX7_isTaken_139 : decode cX7_isTaken 139 = .ok (.iaload, 1) := by decide +kernel
theorem dX7_isTaken_140 : decode cX7_isTaken 140 = .ok (.iastore, 1) := by decide +kernel
theorem dX7_isTaken_141 : decode cX7_isTaken 141 = .ok (.iinc 5 1, 3) := by decide +kernel
theorem dX7_isTaken_144 : decode cX7_isTaken 144 = .ok (.goto (-25), 3) := by decide +kernel
theorem dX7_isTaken_147 : decode cX7_isTaken 147 = .ok (.iload 4, 2) := by decide +kernel
theorem dX7_isTaken_149 : decode cX7_isTaken 149 = .ok (.ireturn, 1) := by decide +kernel
set_option maxRecDepth 20000 in
theorem ggX7_loads_X7_in : GoodIn wsX7_loads wsX7_in := goodIn_r _ [5] (by decide +kernel) (by decide +kernel)
set_option maxRecDepth 20000 in
theorem gX7_loads_X7_in : GoodIn wsX7_loads (va_wsS RX7 50 yX7_in wsX7_in) := goodIn_app (goodIn_of _ (by decide +kernel)) ggX7_loads_X7_in
theorem dX7_loads_0 : decode cX7_loads 0 = .ok (.iload_n 1, 1) := by decide +kernel
theorem dX7_loads_1 : decode cX7_loads 1 = .ok (.iconst 0, 1) := by decide +kernel
theorem dX7_loads_2 : decode cX7_loads 2 = .ok (.iconst 2, 1) := by decide +kernel
theorem dX7_loads_3 : decode cX7_loads 3 = .ok (.invokestatic 50, 3) := by decide +kernel
theorem dX7_loads_6 : decode cX7_loads 6 = .ok (.ifCond .eq 25, 3) := by decide +kernel
theorem dX7_loads_9 : decode cX7_loads 9 = .ok (.iload_n 2, 1) := by decide +kernel
theorem dX7_loads_10 : decode cX7_loads 10 = .ok (.iconst 1, 1) := by decide +kernel
theorem dX7_loads_11 : decode cX7_loads 11 = .ok (.sipush 999, 3) := by decide +kernel
theorem dX7_loads_14 : decode cX7_loads 14 = .ok (.invokestatic 50, 3) := by decide +kernel
theorem dX7_loads_17 : decode cX7_loads 17 = .ok (.ifCond .eq 14, 3) := by decide +kernel
theorem dX7_loads_20 : decode cX7_loads 20 = .ok (.iload_n 3, 1) := by decide +kernel
theorem dX7_loads_21 : decode cX7_loads 21 = .ok (.iconst 0, 1) := by decide +kernel
theorem dX7_loads_22 : decode cX7_loads 22 = .ok (.sipush 365, 3) := by decide +kernel
theorem dX7_loads_25 : decode cX7_loads 25 = .ok (.invokestatic 50, 3) := by decide +kernel
theorem dX7_loads_28 : decode cX7_loads 28 = .ok (.ifCond .ne 5, 3) := by decide +kernel
theorem dX7_loads_31 : decode cX7_loads 31 = .ok (.iconst (-1), 1) := by decide +kernel
theorem dX7_loads_32 : decode cX7_loads 32 = .ok (.ireturn, 1) := by decide +kernel
theorem dX7_loads_33 : decode cX7_loads 33 = .ok (.aload_n 0, 1) := by decide +kernel
theorem dX7_loads_34 : decode cX7_loads 34 = .ok (.getfield 7, 3) := by decide +kernel
theorem dX7_loads_37 : decode cX7_loads 37 = .ok (.iconst 3, 1) := by decide +kernel
theorem dX7_loads_38 : decode cX7_loads 38 = .ok (.iaload, 1) := by decide +kernel
theorem dX7_loads_39 : decode cX7_loads 39 = .ok (.bipush 6, 2) := by decide +kernel
theorem dX7_loads_41 : decode cX7_loads 41 = .ok (.if_icmp .ne 6, 3) := by decide +kernel
theorem dX7_loads_44 : decode cX7_loads 44 = .ok (.bipush (-3), 2) := by decide +kernel
theorem dX7_loads_46 : decode cX7_loads 46 = .ok (.ireturn, 1) := by decide +kernel
theorem dX7_loads_47 : decode cX7_loads 47 = .ok (.bipush 23, 2) := by decide +kernel
theorem dX7_loads_49 : decode cX7_loads 49 = .ok (.iconst 3, 1) := by decide +kernel
theorem dX7_loads_50 : decode cX7_loads 50 = .ok (.aload_n 0, 1) := by decide +kernel
theorem dX7_loads_51 : decode cX7_loads 51 = .ok (.getfield 7, 3) := by decide +kernel
theorem dX7_loads_54 : decode cX7_loads 54 = .ok (.iconst 3, 1) := by decide +kernel
theorem dX7_loads_55 : decode cX7_loads 55 = .ok (.iaload, 1) := by decide +kernel
theorem dX7_loads_56 : decode cX7_loads 56 = .ok (.imul, 1) := by decide +kernel
theorem dX7_loads_57 : decode cX7_loads 57 = .ok (.iadd, 1) := by decide +kernel
theorem dX7_loads_58 : decode cX7_loads 58 = .ok (.istore 4, 2) := by decide +kernel
theorem dX7_loads_60 : decode cX7_loads 60 = .ok (.aload_n 0, 1) := by decide +kernel
theorem dX7_loads_61 : decode cX7_loads 61 = .ok (.getfield 7, 3) := by decide +kernel
theorem dX7_loads_64 : decode cX7_loads 64 = .ok (.iload 4, 2) := by decide +kernel
theorem dX7_loads_66 : decode cX7_loads 66 = .ok (.iload_n 1, 1) := by decide +kernel
theorem dX7_loads_67 : decode cX7_loads 67 = .ok (.iastore, 1) := by decide +kernel
theorem dX7_loads_68 : decode cX7_loads 68 = .ok (.aload_n 0, 1) := by decide +kernel
theorem dX7_loads_69 : decode cX7_loads 69 = .ok (.getfield 7, 3) := by decide +kernel
theorem dX7_loads_72 : decode cX7_loads 72 = .ok (.iload 4, 2) := by decide +kernel
theorem dX7_loads_74 : decode cX7_loads 74 = .ok (.iconst 1, 1) := by decide +kernel
theorem dX7_loads_75 : decode cX7_loads 75 = .ok (.iadd, 1) := by decide +kernel
theorem dX7_loads_76 : decode cX7_loads 76 = .ok (.iload_n 2, 1) := by decide +kernel
theorem dX7_loads_77 : decode cX7_loads 77 = .ok (.iastore, 1) := by decide +kernel
theorem dX7_loads_78 : decode cX7_loads 78 = .ok (.aload_n 0, 1) := by decide +kernel
theorem dX7_loads_79 : decode cX7_loads 79 = .ok (.getfield 7, 3) := by decide +kernel
theorem dX7_loads_82 : decode cX7_loads 82 = .ok (.iload 4, 2) := by decide +kernel
theorem dX7_loads_84 : decode cX7_loads 84 = .ok (.iconst 2, 1) := by decide +kernel
theorem dX7_loads_85 : decode cX7_loads 85 = .ok (.iadd, 1) := by decide +kernel
theorem dX7_loads_86 : decode cX7_loads 86 = .ok (.iload_n 3, 1) := by decide +kernel
theorem dX7_loads_87 : decode cX7_loads 87 = .ok (.iastore, 1) := by decide +kernel
theorem dX7_loads_88 : decode cX7_loads 88 = .ok (.aload_n 0, 1) := by decide +kernel
theorem dX7_loads_89 : decode cX7_loads 89 = .ok (.getfield 7, 3) := by decide +kernel
theorem dX7_loads_92 : decode cX7_loads 92 = .ok (.iconst 3, 1) := by decide +kernel
theorem dX7_loads_93 : decode cX7_loads 93 = .ok (.dup2, 1) := by decide +kernel
theorem dX7_loads_94 : decode cX7_loads 94 = .ok (.iaload, 1) := by decide +kernel
theorem dX7_loads_95 : decode cX7_loads 95 = .ok (.iconst 1, 1) := by decide +kernel
theorem dX7_loads_96 : decode cX7_loads 96 = .ok (.iadd, 1) := by decide +kernel
theorem dX7_loads_97 : decode cX7_loads 97 = .ok (.iastore, 1) := by decide +kernel
theorem dX7_loads_98 : decode cX7_loads 98 = .ok (.aload_n 0, 1) := by decide +kernel
theorem dX7_loads_99 : decode cX7_loads 99 = .ok (.getfield 7, 3) := by decide +kernel
theorem dX7_loads_102 : decode cX7_loads 102 = .ok (.iconst 3, 1) := by decide +kernel
theorem dX7_loads_103 : decode cX7_loads 103 = .ok (.iaload, 1) := by decide +kernel
theorem dX7_loads_104 : decode cX7_loads 104 = .ok (.ireturn, 1) := by decide +kernel
set_option maxRecDepth 20000 in
theorem ggX7_flies_X7_isStorm : GoodIn wsX7_flies wsX7_isStorm := goodIn_r _ [6, 1, 15, 16, 17, 18, 19, 20, 21, 22, 23, 24, 25, 26, 27, 28] (by decide +kernel) (by decide +kernel)
set_option maxRecDepth 20000 in
theorem gX7_flies_X7_isStorm : GoodIn wsX7_flies (wsV RX7 64 RX7 yX7_isStorm wsX7_isStorm) := goodIn_app (goodIn_of _ (by decide +kernel)) ggX7_flies_X7_isStorm
set_option maxRecDepth 20000 in
theorem ggX7_flies_X7_comes : GoodIn wsX7_flies wsX7_comes := goodIn_r _ [10, 1, 11, 12, 13, 5, 14, 15, 16, 17, 18, 19, 20, 21, 22, 23, 24, 25, 26, 27, 28] (by decide +kernel) (by decide +kernel)
set_option maxRecDepth 20000 in
theorem gX7_flies_X7_comes : GoodIn wsX7_flies (wsV RX7 103 RX7 yX7_comes wsX7_comes) := goodIn_app (goodIn_of _ (by decide +kernel)) ggX7_flies_X7_comes
theorem dX7_flies_0 : decode cX7_flies 0 = .ok (.aload_n 0, 1) := by decide +kernel
theorem dX7_flies_1 : decode cX7_flies 1 = .ok (.getfield 7, 3) := by decide +kernel
theorem dX7_flies_4 : decode cX7_flies 4 = .ok (.iconst 3, 1) := by decide +kernel
theorem dX7_flies_5 : decode cX7_flies 5 = .ok (.iaload, 1) := by decide +kernel
theorem dX7_flies_6 : decode cX7_flies 6 = .ok (.istore_n 1, 1) := by decide +kernel
theorem dX7_flies_7 : decode cX7_flies 7 = .ok (.iload_n 1, 1) := by decide +kernel
theorem dX7_flies_8 : decode cX7_flies 8 = .ok (.ifCond .eq 32, 3) := by decide +kernel
theorem dX7_flies_11 : decode cX7_flies 11 = .ok (.aload_n 0, 1) := by decide +kernel
theorem dX7_flies_12 : decode cX7_flies 12 = .ok (.aload_n 0, 1) := by decide +kernel
theorem dX7_flies_13 : decode cX7_flies 13 = .ok (.getfield 7, 3) := by decide +kernel
theorem dX7_flies_16 : decode cX7_flies 16 = .ok (.iconst 0, 1) := by decide +kernel
theorem dX7_flies_17 : decode cX7_flies 17 = .ok (.iaload, 1) := by decide +kernel
theorem dX7_flies_18 : decode cX7_flies 18 = .ok (.invokevirtual 64, 3) := by decide +kernel
theorem dX7_flies_21 : decode cX7_flies 21 = .ok (.ifCond .ne 19, 3) := by decide +kernel
theorem dX7_flies_24 : decode cX7_flies 24 = .ok (.aload_n 0, 1) := by decide +kernel
theorem dX7_flies_25 : decode cX7_flies 25 = .ok (.getfield 7, 3) := by decide +kernel
theorem dX7_flies_28 : decode cX7_flies 28 = .ok (.iconst 1, 1) := by decide +kernel
theorem dX7_flies_29 : decode cX7_flies 29 = .ok (.iaload, 1) := by decide +kernel
theorem dX7_flies_30 : decode cX7_flies 30 = .ok (.aload_n 0, 1) := by decide +kernel
theorem dX7_flies_31 : decode cX7_flies 31 = .ok (.getfield 7, 3) := by decide +kernel
theorem dX7_flies_34 : decode cX7_flies 34 = .ok (.bipush 13, 2) := by decide +kernel
theorem dX7_flies_36 : decode cX7_flies 36 = .ok (.iaload, 1) := by decide +kernel
theorem dX7_flies_37 : decode cX7_flies 37 = .ok (.if_icmp .lt 6, 3) := by decide +kernel
theorem dX7_flies_40 : decode cX7_flies 40 = .ok (.bipush (-2), 2) := by decide +kernel
theorem dX7_flies_42 : decode cX7_flies 42 = .ok (.ireturn, 1) := by decide +kernel
theorem dX7_flies_43 : decode cX7_flies 43 = .ok (.aload_n 0, 1) := by decide +kernel
theorem dX7_flies_44 : decode cX7_flies 44 = .ok (.getfield 7, 3) := by decide +kernel
theorem dX7_flies_47 : decode cX7_flies 47 = .ok (.iconst 2, 1) := by decide +kernel
theorem dX7_flies_48 : decode cX7_flies 48 = .ok (.iaload, 1) := by decide +kernel
theorem dX7_flies_49 : decode cX7_flies 49 = .ok (.iload_n 1, 1) := by decide +kernel
theorem dX7_flies_50 : decode cX7_flies 50 = .ok (.iadd, 1) := by decide +kernel
theorem dX7_flies_51 : decode cX7_flies 51 = .ok (.bipush 20, 2) := by decide +kernel
theorem dX7_flies_53 : decode cX7_flies 53 = .ok (.if_icmp .le 6, 3) := by decide +kernel
theorem dX7_flies_56 : decode cX7_flies 56 = .ok (.bipush (-3), 2) := by decide +kernel
theorem dX7_flies_58 : decode cX7_flies 58 = .ok (.ireturn, 1) := by decide +kernel
theorem dX7_flies_59 : decode cX7_flies 59 = .ok (.bipush 23, 2) := by decide +kernel
theorem dX7_flies_61 : decode cX7_flies 61 = .ok (.istore_n 2, 1) := by decide +kernel
theorem dX7_flies_62 : decode cX7_flies 62 = .ok (.iload_n 2, 1) := by decide +kernel
theorem dX7_flies_63 : decode cX7_flies 63 = .ok (.bipush 23, 2) := by decide +kernel
theorem dX7_flies_65 : decode cX7_flies 65 = .ok (.iconst 3, 1) := by decide +kernel
theorem dX7_flies_66 : decode cX7_flies 66 = .ok (.iload_n 1, 1) := by decide +kernel
theorem dX7_flies_67 : decode cX7_flies 67 = .ok (.imul, 1) := by decide +kernel
theorem dX7_flies_68 : decode cX7_flies 68 = .ok (.iadd, 1) := by decide +kernel
theorem dX7_flies_69 : decode cX7_flies 69 = .ok (.if_icmp .ge 42, 3) := by decide +kernel
theorem dX7_flies_72 : decode cX7_flies 72 = .ok (.aload_n 0, 1) := by decide +kernel
theorem dX7_flies_73 : decode cX7_flies 73 = .ok (.aload_n 0, 1) := by decide +kernel
theorem dX7_flies_74 : decode cX7_flies 74 = .ok (.getfield 7, 3) := by decide +kernel
theorem dX7_flies_77 : decode cX7_flies 77 = .ok (.iload_n 2, 1) := by decide +kernel
theorem dX7_flies_78 : decode cX7_flies 78 = .ok (.iaload, 1) := by decide +kernel
theorem dX7_flies_79 : decode cX7_flies 79 = .ok (.aload_n 0, 1) := by decide +kernel
theorem dX7_flies_80 : decode cX7_flies 80 = .ok (.getfield 7, 3) := by decide +kernel
theorem dX7_flies_83 : decode cX7_flies 83 = .ok (.iload_n 2, 1) := by decide +kernel
theorem dX7_flies_84 : decode cX7_flies 84 = .ok (.iconst 1, 1) := by decide +kernel
theorem dX7_flies_85 : decode cX7_flies 85 = .ok (.iadd, 1) := by decide +kernel
theorem dX7_flies_86 : decode cX7_flies 86 = .ok (.iaload, 1) := by decide +kernel
theorem dX7_flies_87 : decode cX7_flies 87 = .ok (.aload_n 0, 1) := by decide +kernel
theorem dX7_flies_88 : decode cX7_flies 88 = .ok (.getfield 7, 3) := by decide +kernel
theorem dX7_flies_91 : decode cX7_flies 91 = .ok (.iconst 0, 1) := by decide +kernel
theorem dX7_flies_92 : decode cX7_flies 92 = .ok (.iaload, 1) := by decide +kernel
theorem dX7_flies_93 : decode cX7_flies 93 = .ok (.aload_n 0, 1) := by decide +kernel
theorem dX7_flies_94 : decode cX7_flies 94 = .ok (.getfield 7, 3) := by decide +kernel
theorem dX7_flies_97 : decode cX7_flies 97 = .ok (.iload_n 2, 1) := by decide +kernel
theorem dX7_flies_98 : decode cX7_flies 98 = .ok (.iconst 2, 1) := by decide +kernel
theorem dX7_flies_99 : decode cX7_flies 99 = .ok (.iadd, 1) := by decide +kernel
theorem dX7_flies_100 : decode cX7_flies 100 = .ok (.iaload, 1) := by decide +kernel
theorem dX7_flies_101 : decode cX7_flies 101 = .ok (.iadd, 1) := by decide +kernel
theorem dX7_flies_102 : decode cX7_flies 102 = .ok (.invokevirtual 103, 3) := by decide +kernel
theorem dX7_flies_105 : decode cX7_flies 105 = .ok (.iinc 2 3, 3) := by decide +kernel
theorem dX7_flies_108 : decode cX7_flies 108 = .ok (.goto (-46), 3) := by decide +kernel
theorem dX7_flies_111 : decode cX7_flies 111 = .ok (.iconst 0, 1) := by decide +kernel
theorem dX7_flies_112 : decode cX7_flies 112 = .ok (.istore_n 2, 1) := by decide +kernel
theorem dX7_flies_113 : decode cX7_flies 113 = .ok (.iload_n 2, 1) := by decide +kernel
theorem dX7_flies_114 : decode cX7_flies 114 = .ok (.bipush 18, 2) := by decide +kernel
theorem dX7_flies_116 : decode cX7_flies 116 = .ok (.if_icmp .ge 19, 3) := by decide +kernel
theorem dX7_flies_119 : decode cX7_flies 119 = .ok (.aload_n 0, 1) := by decide +kernel
theorem dX7_flies_120 : decode cX7_flies 120 = .ok (.getfield 7, 3) := by decide +kernel
theorem dX7_flies_123 : decode cX7_flies 123 = .ok (.bipush 23, 2) := by decide +kernel
theorem dX7_flies_125 : decode cX7_flies 125 = .ok (.iload_n 2, 1) := by decide +kernel
theorem dX7_flies_126 : decode cX7_flies 126 = .ok (.iadd, 1) := by decide +kernel
theorem dX7_flies_127 : decode cX7_flies 127 = .ok (.iconst 0, 1) := by decide +kernel
theorem dX7_flies_128 : decode cX7_flies 128 = .ok (.iastore, 1) := by decide +kernel
theorem dX7_flies_129 : decode cX7_flies 129 = .ok (.iinc 2 1, 3) := by decide +kernel
theorem dX7_flies_132 : decode cX7_flies 132 = .ok (.goto (-19), 3) := by decide +kernel
theorem dX7_flies_135 : decode cX7_flies 135 = .ok (.aload_n 0, 1) := by decide +kernel
theorem dX7_flies_136 : decode cX7_flies 136 = .ok (.getfield 7, 3) := by decide +kernel
theorem dX7_flies_139 : decode cX7_flies 139 = .ok (.iconst 3, 1) := by decide +kernel
theorem dX7_flies_140 : decode cX7_flies 140 = .ok (.iconst 0, 1) := by decide +kernel
theorem dX7_flies_141 : decode cX7_flies 141 = .ok (.iastore, 1) := by decide +kernel
theorem dX7_flies_142 : decode cX7_flies 142 = .ok (.aload_n 0, 1) := by decide +kernel
theorem dX7_flies_143 : decode cX7_flies 143 = .ok (.getfield 7, 3) := by decide +kernel
theorem dX7_flies_146 : decode cX7_flies 146 = .ok (.iconst 1, 1) := by decide +kernel
theorem dX7_flies_147 : decode cX7_flies 147 = .ok (.dup2, 1) := by decide +kernel
theorem dX7_flies_148 : decode cX7_flies 148 = .ok (.iaload, 1) := by decide +kernel
theorem dX7_flies_149 : decode cX7_flies 149 = .ok (.iconst 1, 1) := by decide +kernel
theorem dX7_flies_150 : decode cX7_flies 150 = .ok (.iadd, 1) := by decide +kernel
theorem dX7_flies_151 : decode cX7_flies 151 = .ok (.iastore, 1) := by decide +kernel
theorem dX7_flies_152 : decode cX7_flies 152 = .ok (.iload_n 1, 1) := by decide +kernel
theorem dX7_flies_153 : decode cX7_flies 153 = .ok (.ireturn, 1) := by decide +kernel
set_option maxRecDepth 20000 in
theorem ggX7_isStay_X7_in : GoodIn wsX7_isStay wsX7_in := goodIn_r _ [5] (by decide +kernel) (by decide +kernel)
set_option maxRecDepth 20000 in
theorem gX7_isStay_X7_in : GoodIn wsX7_isStay (va_wsS RX7 50 yX7_in wsX7_in) := goodIn_app (goodIn_of _ (by decide +kernel)) ggX7_isStay_X7_in
theorem dX7_isStay_0 : decode cX7_isStay 0 = .ok (.iload_n 1, 1) := by decide +kernel
theorem dX7_isStay_1 : decode cX7_isStay 1 = .ok (.aload_n 0, 1) := by decide +kernel
theorem dX7_isStay_2 : decode cX7_isStay 2 = .ok (.getfield 7, 3) := by decide +kernel
theorem dX7_isStay_5 : decode cX7_isStay 5 = .ok (.iconst 0, 1) := by decide +kernel
theorem dX7_isStay_6 : decode cX7_isStay 6 = .ok (.iaload, 1) := by decide +kernel
theorem dX7_isStay_7 : decode cX7_isStay 7 = .ok (.sipush 365, 3) := by decide +kernel
theorem dX7_isStay_10 : decode cX7_isStay 10 = .ok (.invokestatic 50, 3) := by decide +kernel
theorem dX7_isStay_13 : decode cX7_isStay 13 = .ok (.ifCond .eq 17, 3) := by decide +kernel
theorem dX7_isStay_16 : decode cX7_isStay 16 = .ok (.iload_n 2, 1) := by decide +kernel
theorem dX7_isStay_17 : decode cX7_isStay 17 = .ok (.iconst 1, 1) := by decide +kernel
theorem dX7_isStay_18 : decode cX7_isStay 18 = .ok (.bipush 9, 2) := by decide +kernel
theorem dX7_isStay_20 : decode cX7_isStay 20 = .ok (.invokestatic 50, 3) := by decide +kernel
theorem dX7_isStay_23 : decode cX7_isStay 23 = .ok (.ifCond .eq 7, 3) := by decide +kernel
theorem dX7_isStay_26 : decode cX7_isStay 26 = .ok (.iconst 1, 1) := by decide +kernel
theorem dX7_isStay_27 : decode cX7_isStay 27 = .ok (.goto 4, 3) := by decide +kernel
theorem dX7_isStay_30 : decode cX7_isStay 30 = .ok (.iconst 0, 1) := by decide +kernel
theorem dX7_isStay_31 : decode cX7_isStay 31 = .ok (.ireturn, 1) := by decide +kernel
set_option maxRecDepth 20000 in
theorem ggX7_books_X7_in : GoodIn wsX7_books wsX7_in := goodIn_r _ [5] (by decide +kernel) (by decide +kernel)
set_option maxRecDepth 20000 in
theorem gX7_books_X7_in : GoodIn wsX7_books (va_wsS RX7 50 yX7_in wsX7_in) := goodIn_app (goodIn_of _ (by decide +kernel)) ggX7_books_X7_in
set_option maxRecDepth 20000 in
theorem ggX7_books_X7_isStay : GoodIn wsX7_books wsX7_isStay := goodIn_r _ [9, 1, 2, 3, 4, 5, 87, 88, 89, 90, 91, 92, 93, 94, 95, 96, 97, 98, 99, 100] (by decide +kernel) (by decide +kernel)
set_option maxRecDepth 20000 in
theorem gX7_books_X7_isStay : GoodIn wsX7_books (wsV RX7 106 RX7 yX7_isStay wsX7_isStay) := goodIn_app (goodIn_of _ (by decide +kernel)) ggX7_books_X7_isStay
set_option maxRecDepth 20000 in
theorem ggX7_books_X7_isTaken : GoodIn wsX7_books wsX7_isTaken := goodIn_r _ [13, 14, 1, 15, 16, 17, 4, 18, 19, 20, 21, 22, 23, 24, 25, 26, 27, 28, 29, 30, 31, 32, 33, 34, 35, 36, 37, 38, 39, 40, 41, 42, 43, 44, 45, 46, 47, 48, 49, 50, 51, 52, 53, 54, 55, 56, 57, 58, 59, 60, 61, 62, 63, 64, 65, 66, 67, 68, 69, 70, 71, 72, 73, 74, 75, 76, 77, 78, 79, 80, 81, 82, 83, 84, 85, 86, 87, 88, 89, 90, 91, 92, 93, 94, 95, 96, 97, 98, 99, 100] (by decide +kernel) (by decide +kernel)
set_option maxRecDepth 20000 in
theorem gX7_books_X7_isTaken : GoodIn wsX7_books (wsV RX7 110 RX7 yX7_isTaken wsX7_isTaken) := goodIn_app (goodIn_of _ (by decide +kernel)) ggX7_books_X7_isTaken
set_option maxRecDepth 20000 in
theorem ggX7_books_X7_adds : GoodIn wsX7_books wsX7_adds := goodIn_r _ [18, 1, 19, 20, 21, 4, 22, 87, 88, 89, 90, 91, 92, 93, 94, 95, 96, 97, 98, 99, 100] (by decide +kernel) (by decide +kernel)
set_option maxRecDepth 20000 in
theorem gX7_books_X7_adds : GoodIn wsX7_books (wsV RX7 93 RX7 yX7_adds wsX7_adds) := goodIn_app (goodIn_of _ (by decide +kernel)) ggX7_books_X7_adds
theorem dX7_books_0 : decode cX7_books 0 = .ok (.iload_n 1, 1) := by decide +kernel
theorem dX7_books_1 : decode cX7_books 1 = .ok (.iconst 1, 1) := by decide +kernel
theorem dX7_books_2 : decode cX7_books 2 = .ok (.bipush 6, 2) := by decide +kernel
theorem dX7_books_4 : decode cX7_books 4 = .ok (.invokestatic 50, 3) := by decide +kernel
theorem dX7_books_7 : decode cX7_books 7 = .ok (.ifCond .eq 12, 3) := by decide +kernel
theorem dX7_books_10 : decode cX7_books 10 = .ok (.aload_n 0, 1) := by decide +kernel
theorem dX7_books_11 : decode cX7_books 11 = .ok (.iload_n 2, 1) := by decide +kernel
theorem dX7_books_12 : decode cX7_books 12 = .ok (.iload_n 3, 1) := by decide +kernel
theorem dX7_books_13 : decode cX7_books 13 = .ok (.invokevirtual 106, 3) := by decide +kernel
theorem dX7_books_16 : decode cX7_books 16 = .ok (.ifCond .ne 5, 3) := by decide +kernel
theorem dX7_books_19 : decode cX7_books 19 = .ok (.iconst (-1), 1) := by decide +kernel
theorem dX7_books_20 : decode cX7_books 20 = .ok (.ireturn, 1) := by decide +kernel
theorem dX7_books_21 : decode cX7_books 21 = .ok (.aload_n 0, 1) := by decide +kernel
theorem dX7_books_22 : decode cX7_books 22 = .ok (.iload_n 1, 1) := by decide +kernel
theorem dX7_books_23 : decode cX7_books 23 = .ok (.iload_n 2, 1) := by decide +kernel
theorem dX7_books_24 : decode cX7_books 24 = .ok (.iload_n 3, 1) := by decide +kernel
theorem dX7_books_25 : decode cX7_books 25 = .ok (.invokevirtual 110, 3) := by decide +kernel
theorem dX7_books_28 : decode cX7_books 28 = .ok (.ifCond .ne 6, 3) := by decide +kernel
theorem dX7_books_31 : decode cX7_books 31 = .ok (.bipush (-2), 2) := by decide +kernel
theorem dX7_books_33 : decode cX7_books 33 = .ok (.ireturn, 1) := by decide +kernel
theorem dX7_books_34 : decode cX7_books 34 = .ok (.aload_n 0, 1) := by decide +kernel
theorem dX7_books_35 : decode cX7_books 35 = .ok (.getfield 7, 3) := by decide +kernel
theorem dX7_books_38 : decode cX7_books 38 = .ok (.iconst 4, 1) := by decide +kernel
theorem dX7_books_39 : decode cX7_books 39 = .ok (.iaload, 1) := by decide +kernel
theorem dX7_books_40 : decode cX7_books 40 = .ok (.bipush 16, 2) := by decide +kernel
theorem dX7_books_42 : decode cX7_books 42 = .ok (.if_icmp .ne 6, 3) := by decide +kernel
theorem dX7_books_45 : decode cX7_books 45 = .ok (.bipush (-3), 2) := by decide +kernel
theorem dX7_books_47 : decode cX7_books 47 = .ok (.ireturn, 1) := by decide +kernel
theorem dX7_books_48 : decode cX7_books 48 = .ok (.aload_n 0, 1) := by decide +kernel
theorem dX7_books_49 : decode cX7_books 49 = .ok (.iload_n 1, 1) := by decide +kernel
theorem dX7_books_50 : decode cX7_books 50 = .ok (.iload_n 2, 1) := by decide +kernel
theorem dX7_books_51 : decode cX7_books 51 = .ok (.iload_n 3, 1) := by decide +kernel
theorem dX7_books_52 : decode cX7_books 52 = .ok (.invokevirtual 93, 3) := by decide +kernel
theorem dX7_books_55 : decode cX7_books 55 = .ok (.aload_n 0, 1) := by decide +kernel
theorem dX7_books_56 : decode cX7_books 56 = .ok (.getfield 7, 3) := by decide +kernel
theorem dX7_books_59 : decode cX7_books 59 = .ok (.iconst 4, 1) := by decide +kernel
theorem dX7_books_60 : decode cX7_books 60 = .ok (.iaload, 1) := by decide +kernel
theorem dX7_books_61 : decode cX7_books 61 = .ok (.iconst 1, 1) := by decide +kernel
theorem dX7_books_62 : decode cX7_books 62 = .ok (.isub, 1) := by decide +kernel
theorem dX7_books_63 : decode cX7_books 63 = .ok (.ireturn, 1) := by decide +kernel
set_option maxRecDepth 20000 in
theorem ggX7_cancels_X7_isParty : GoodIn wsX7_cancels wsX7_isParty := goodIn_r _ [5, 6, 7, 8, 4, 9, 22, 23, 24, 25, 26, 27, 28, 29, 30, 31, 32, 33, 34, 35] (by decide +kernel) (by decide +kernel)
set_option maxRecDepth 20000 in
theorem gX7_cancels_X7_isParty : GoodIn wsX7_cancels (wsV RX7 113 RX7 yX7_isParty wsX7_isParty) := goodIn_app (goodIn_of _ (by decide +kernel)) ggX7_cancels_X7_isParty
set_option maxRecDepth 20000 in
theorem ggX7_cancels_X7_ofParty : GoodIn wsX7_cancels wsX7_ofParty := goodIn_r _ [13, 6, 22, 23, 24, 25, 26, 27, 28, 29, 30, 31, 32, 33, 34, 35] (by decide +kernel) (by decide +kernel)
set_option maxRecDepth 20000 in
theorem gX7_cancels_X7_ofParty : GoodIn wsX7_cancels (wsV RX7 54 RX7 yX7_ofParty wsX7_ofParty) := goodIn_app (goodIn_of _ (by decide +kernel)) ggX7_cancels_X7_ofParty
set_option maxRecDepth 20000 in
theorem ggX7_cancels_X7_setParty : GoodIn wsX7_cancels wsX7_setParty := goodIn_r _ [17, 6, 22, 23, 24, 25, 26, 27, 28, 29, 30, 31, 32, 33, 34, 35] (by decide +kernel) (by decide +kernel)
set_option maxRecDepth 20000 in
theorem gX7_cancels_X7_setParty : GoodIn wsX7_cancels (wsV RX7 60 RX7 yX7_setParty wsX7_setParty) := goodIn_app (goodIn_of _ (by decide +kernel)) ggX7_cancels_X7_setParty
set_option maxRecDepth 20000 in
theorem ggX7_cancels_X7_partiesOf : GoodIn wsX7_cancels wsX7_partiesOf := goodIn_r _ [21, 6, 10, 11, 12, 4, 13, 22, 23, 24, 25, 26, 27, 28, 29, 30, 31, 32, 33, 34, 35] (by decide +kernel) (by decide +kernel)
set_option maxRecDepth 20000 in
theorem gX7_cancels_X7_partiesOf : GoodIn wsX7_cancels (wsV RX7 57 RX7 yX7_partiesOf wsX7_partiesOf) := goodIn_app (goodIn_of _ (by decide +kernel)) ggX7_cancels_X7_partiesOf
theorem dX7_cancels_0 : decode cX7_cancels 0 = .ok (.aload_n 0, 1) := by decide +kernel
theorem dX7_cancels_1 : decode cX7_cancels 1 = .ok (.iload_n 1, 1) := by decide +kernel
theorem dX7_cancels_2 : decode cX7_cancels 2 = .ok (.invokevirtual 113, 3) := by decide +kernel
theorem dX7_cancels_5 : decode cX7_cancels 5 = .ok (.ifCond .ne 5, 3) := by decide +kernel
theorem dX7_cancels_8 : decode cX7_cancels 8 = .ok (.iconst (-1), 1) := by decide +kernel
theorem dX7_cancels_9 : decode cX7_cancels 9 = .ok (.ireturn, 1) := by decide +kernel
theorem dX7_cancels_10 : decode cX7_cancels 10 = .ok (.aload_n 0, 1) := by decide +kernel
theorem dX7_cancels_11 : decode cX7_cancels 11 = .ok (.iload_n 1, 1) := by decide +kernel
theorem dX7_cancels_12 : decode cX7_cancels 12 = .ok (.iconst 3, 1) := by decide +kernel
theorem dX7_cancels_13 : decode cX7_cancels 13 = .ok (.invokevirtual 54, 3) := by decide +kernel
theorem dX7_cancels_16 : decode cX7_cancels 16 = .ok (.ifCond .eq 6, 3) := by decide +kernel
theorem dX7_cancels_19 : decode cX7_cancels 19 = .ok (.bipush (-2), 2) := by decide +kernel
theorem dX7_cancels_21 : decode cX7_cancels 21 = .ok (.ireturn, 1) := by decide +kernel
theorem dX7_cancels_22 : decode cX7_cancels 22 = .ok (.aload_n 0, 1) := by decide +kernel
theorem dX7_cancels_23 : decode cX7_cancels 23 = .ok (.iload_n 1, 1) := by decide +kernel
theorem dX7_cancels_24 : decode cX7_cancels 24 = .ok (.iconst 3, 1) := by decide +kernel
theorem dX7_cancels_25 : decode cX7_cancels 25 = .ok (.iconst 3, 1) := by decide +kernel
theorem dX7_cancels_26 : decode cX7_cancels 26 = .ok (.invokevirtual 60, 3) := by decide +kernel
theorem dX7_cancels_29 : decode cX7_cancels 29 = .ok (.aload_n 0, 1) := by decide +kernel
theorem dX7_cancels_30 : decode cX7_cancels 30 = .ok (.iconst 0, 1) := by decide +kernel
theorem dX7_cancels_31 : decode cX7_cancels 31 = .ok (.invokevirtual 57, 3) := by decide +kernel
