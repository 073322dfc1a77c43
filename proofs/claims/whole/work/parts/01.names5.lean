theorem dX6_count_204 : decode cX6_count 204 = .ok (.ireturn, 1) := by decide +kernel
theorem dX6_count_205 : decode cX6_count 205 = .ok (.aload_n 0, 1) := by decide +kernel
theorem dX6_count_206 : decode cX6_count 206 = .ok (.getfield 32, 3) := by decide +kernel
theorem dX6_count_209 : decode cX6_count 209 = .ok (.getfield 190, 3) := by decide +kernel
theorem dX6_count_212 : decode cX6_count 212 = .ok (.ireturn, 1) := by decide +kernel
theorem dX6_count_213 : decode cX6_count 213 = .ok (.aload_n 0, 1) := by decide +kernel
theorem dX6_count_214 : decode cX6_count 214 = .ok (.getfield 43, 3) := by decide +kernel
theorem dX6_count_217 : decode cX6_count 217 = .ok (.ifCond .eq 7, 3) := by decide +kernel
theorem dX6_count_220 : decode cX6_count 220 = .ok (.iconst 1, 1) := by decide +kernel
theorem dX6_count_221 : decode cX6_count 221 = .ok (.goto 4, 3) := by decide +kernel
theorem dX6_count_224 : decode cX6_count 224 = .ok (.iconst 0, 1) := by decide +kernel
theorem dX6_count_225 : decode cX6_count 225 = .ok (.ireturn, 1) := by decide +kernel
theorem dX6_count_226 : decode cX6_count 226 = .ok (.aload_n 0, 1) := by decide +kernel
theorem dX6_count_227 : decode cX6_count 227 = .ok (.getfield 10, 3) := by decide +kernel
theorem dX6_count_230 : decode cX6_count 230 = .ok (.iload_n 1, 1) := by decide +kernel
theorem dX6_count_231 : decode cX6_count 231 = .ok (.bipush 20, 2) := by decide +kernel
theorem dX6_count_233 : decode cX6_count 233 = .ok (.isub, 1) := by decide +kernel
theorem dX6_count_234 : decode cX6_count 234 = .ok (.invokevirtual 191, 3) := by decide +kernel
theorem dX6_count_237 : decode cX6_count 237 = .ok (.ireturn, 1) := by decide +kernel
set_option maxRecDepth 20000 in
theorem ggX6_goneOn_X2_has : GoodIn wsX6_goneOn wsX2_has := goodIn_r _ [8, 9, 140, 141, 142, 143, 144, 145, 146] (by decide +kernel) (by decide +kernel)
set_option maxRecDepth 20000 in
theorem gX6_goneOn_X2_has : GoodIn wsX6_goneOn (wsV RX6 125 RX2 yX2_has wsX2_has) := goodIn_app (goodIn_of _ (by decide +kernel)) ggX6_goneOn_X2_has
set_option maxRecDepth 20000 in
theorem ggX6_goneOn_X2_isAwaited : GoodIn wsX6_goneOn wsX2_isAwaited := goodIn_r _ [13, 14, 15, 5, 6, 7, 8, 9, 140, 141, 142, 143, 144, 145, 146] (by decide +kernel) (by decide +kernel)
set_option maxRecDepth 20000 in
theorem gX6_goneOn_X2_isAwaited : GoodIn wsX6_goneOn (wsV RX6 194 RX2 yX2_isAwaited wsX2_isAwaited) := goodIn_app (goodIn_of _ (by decide +kernel)) ggX6_goneOn_X2_isAwaited
set_option maxRecDepth 20000 in
theorem ggX6_goneOn_X1_copyFrom : GoodIn wsX6_goneOn wsX1_copyFrom := goodIn_r _ [20, 21, 22, 23, 24, 25, 26, 27, 28, 29, 30, 31, 32, 33, 34, 35, 36, 37, 38, 39, 40, 41, 42, 43, 44, 45, 46, 47, 48, 49, 50, 51, 52, 53, 54, 7, 55, 56, 57, 58, 59, 14, 60, 61, 9, 130, 131, 132, 133, 134, 135, 136, 137, 138, 139, 147, 148, 149, 150, 151, 152, 153, 154, 155, 156, 157, 140, 141, 142, 143, 144, 145, 146] (by decide +kernel) (by decide +kernel)
set_option maxRecDepth 20000 in
theorem gX6_goneOn_X1_copyFrom : GoodIn wsX6_goneOn (wsV RX6 197 RX1 yX1_copyFrom wsX1_copyFrom) := goodIn_app (goodIn_of _ (by decide +kernel)) ggX6_goneOn_X1_copyFrom
set_option maxRecDepth 20000 in
theorem ggX6_goneOn_X1_dayWhenGone : GoodIn wsX6_goneOn wsX1_dayWhenGone := goodIn_r _ [65, 22, 29, 66, 11, 12, 7, 13, 14, 15, 5, 6, 8, 9, 67, 68, 69, 19, 70, 28, 21, 34, 71, 72, 73, 74, 31, 32, 33, 75, 76, 77, 78, 23, 79, 80, 81, 82, 60, 59, 83, 84, 85, 86, 56, 87, 88, 89, 90, 58, 61, 91, 92, 93, 38, 94, 50, 40, 42, 95, 96, 97, 98, 99, 100, 101, 102, 48, 103, 104, 105, 106, 107, 108, 109, 110, 111, 112, 113, 114, 43, 49, 115, 116, 117, 118, 119, 120, 121, 122, 130, 131, 132, 133, 134, 135, 136, 137, 138, 139, 140, 141, 142, 143, 144, 145, 146, 147, 148, 149, 150, 151, 152, 153, 154, 155, 156, 157] (by decide +kernel) (by decide +kernel)
set_option maxRecDepth 20000 in
theorem gX6_goneOn_X1_dayWhenGone : GoodIn wsX6_goneOn (wsV RX6 200 RX1 yX1_dayWhenGone wsX1_dayWhenGone) := goodIn_app (goodIn_of _ (by decide +kernel)) ggX6_goneOn_X1_dayWhenGone
theorem dX6_goneOn_0 : decode cX6_goneOn 0 = .ok (.aload_n 0, 1) := by decide +kernel
theorem dX6_goneOn_1 : decode cX6_goneOn 1 = .ok (.getfield 10, 3) := by decide +kernel
theorem dX6_goneOn_4 : decode cX6_goneOn 4 = .ok (.getfield 121, 3) := by decide +kernel
theorem dX6_goneOn_7 : decode cX6_goneOn 7 = .ok (.iload_n 1, 1) := by decide +kernel
theorem dX6_goneOn_8 : decode cX6_goneOn 8 = .ok (.invokevirtual 125, 3) := by decide +kernel
theorem dX6_goneOn_11 : decode cX6_goneOn 11 = .ok (.ifCond .ne 5, 3) := by decide +kernel
theorem dX6_goneOn_14 : decode cX6_goneOn 14 = .ok (.iconst (-1), 1) := by decide +kernel
theorem dX6_goneOn_15 : decode cX6_goneOn 15 = .ok (.ireturn, 1) := by decide +kernel
theorem dX6_goneOn_16 : decode cX6_goneOn 16 = .ok (.aload_n 0, 1) := by decide +kernel
theorem dX6_goneOn_17 : decode cX6_goneOn 17 = .ok (.getfield 10, 3) := by decide +kernel
theorem dX6_goneOn_20 : decode cX6_goneOn 20 = .ok (.getfield 121, 3) := by decide +kernel
theorem dX6_goneOn_23 : decode cX6_goneOn 23 = .ok (.iload_n 1, 1) := by decide +kernel
theorem dX6_goneOn_24 : decode cX6_goneOn 24 = .ok (.invokevirtual 194, 3) := by decide +kernel
theorem dX6_goneOn_27 : decode cX6_goneOn 27 = .ok (.ifCond .ne 6, 3) := by decide +kernel
theorem dX6_goneOn_30 : decode cX6_goneOn 30 = .ok (.bipush (-2), 2) := by decide +kernel
theorem dX6_goneOn_32 : decode cX6_goneOn 32 = .ok (.ireturn, 1) := by decide +kernel
theorem dX6_goneOn_33 : decode cX6_goneOn 33 = .ok (.aload_n 0, 1) := by decide +kernel
theorem dX6_goneOn_34 : decode cX6_goneOn 34 = .ok (.getfield 16, 3) := by decide +kernel
theorem dX6_goneOn_37 : decode cX6_goneOn 37 = .ok (.aload_n 0, 1) := by decide +kernel
theorem dX6_goneOn_38 : decode cX6_goneOn 38 = .ok (.getfield 10, 3) := by decide +kernel
theorem dX6_goneOn_41 : decode cX6_goneOn 41 = .ok (.invokevirtual 197, 3) := by decide +kernel
theorem dX6_goneOn_44 : decode cX6_goneOn 44 = .ok (.aload_n 0, 1) := by decide +kernel
theorem dX6_goneOn_45 : decode cX6_goneOn 45 = .ok (.getfield 16, 3) := by decide +kernel
theorem dX6_goneOn_48 : decode cX6_goneOn 48 = .ok (.iload_n 1, 1) := by decide +kernel
theorem dX6_goneOn_49 : decode cX6_goneOn 49 = .ok (.invokevirtual 200, 3) := by decide +kernel
theorem dX6_goneOn_52 : decode cX6_goneOn 52 = .ok (.ireturn, 1) := by decide +kernel
set_option maxRecDepth 20000 in
theorem ggX6_outOn_X4_isKind : GoodIn wsX6_outOn wsX4_isKind := goodIn_r _ [6] (by decide +kernel) (by decide +kernel)
set_option maxRecDepth 20000 in
theorem gX6_outOn_X4_isKind : GoodIn wsX6_outOn (va_wsS RX6 83 yX4_isKind wsX4_isKind) := goodIn_app (goodIn_of _ (by decide +kernel)) ggX6_outOn_X4_isKind
set_option maxRecDepth 20000 in
theorem ggX6_outOn_X1_copyFrom : GoodIn wsX6_outOn wsX1_copyFrom := goodIn_r _ [11, 12, 13, 14, 15, 16, 17, 18, 19, 20, 21, 22, 23, 24, 25, 26, 27, 28, 5, 29, 30, 31, 32, 33, 34, 35, 36, 37, 38, 39, 40, 41, 42, 43, 44, 45, 46, 47, 48, 49, 50, 51, 52, 53, 54, 122, 123, 124, 125, 126, 127, 128, 129, 130, 131, 132, 133, 134, 135, 136, 137, 138, 139, 140, 141, 142, 143, 144, 145, 146, 147, 148, 149] (by decide +kernel) (by decide +kernel)
set_option maxRecDepth 20000 in
theorem gX6_outOn_X1_copyFrom : GoodIn wsX6_outOn (wsV RX6 197 RX1 yX1_copyFrom wsX1_copyFrom) := goodIn_app (goodIn_of _ (by decide +kernel)) ggX6_outOn_X1_copyFrom
set_option maxRecDepth 20000 in
theorem ggX6_outOn_X1_dayWhenOut : GoodIn wsX6_outOn wsX1_dayWhenOut := goodIn_r _ [58, 13, 12, 20, 59, 60, 61, 45, 62, 54, 51, 63, 64, 65, 10, 66, 19, 25, 67, 68, 69, 70, 22, 23, 24, 71, 72, 73, 74, 14, 75, 76, 77, 78, 52, 50, 79, 80, 81, 82, 47, 83, 84, 85, 86, 49, 53, 87, 88, 89, 5, 90, 40, 30, 32, 91, 92, 93, 94, 95, 96, 97, 98, 38, 99, 100, 101, 102, 103, 104, 105, 106, 107, 108, 109, 110, 33, 39, 111, 112, 113, 114, 122, 123, 124, 125, 126, 127, 128, 129, 130, 131, 143, 144, 145, 146, 147, 148, 149, 132, 133, 134, 135, 136, 137, 138, 139, 140, 141, 142] (by decide +kernel) (by decide +kernel)
set_option maxRecDepth 20000 in
theorem gX6_outOn_X1_dayWhenOut : GoodIn wsX6_outOn (wsV RX6 203 RX1 yX1_dayWhenOut wsX1_dayWhenOut) := goodIn_app (goodIn_of _ (by decide +kernel)) ggX6_outOn_X1_dayWhenOut
theorem dX6_outOn_0 : decode cX6_outOn 0 = .ok (.iload_n 1, 1) := by decide +kernel
theorem dX6_outOn_1 : decode cX6_outOn 1 = .ok (.invokestatic 83, 3) := by decide +kernel
theorem dX6_outOn_4 : decode cX6_outOn 4 = .ok (.ifCond .ne 5, 3) := by decide +kernel
theorem dX6_outOn_7 : decode cX6_outOn 7 = .ok (.iconst (-1), 1) := by decide +kernel
theorem dX6_outOn_8 : decode cX6_outOn 8 = .ok (.ireturn, 1) := by decide +kernel
theorem dX6_outOn_9 : decode cX6_outOn 9 = .ok (.aload_n 0, 1) := by decide +kernel
theorem dX6_outOn_10 : decode cX6_outOn 10 = .ok (.getfield 16, 3) := by decide +kernel
theorem dX6_outOn_13 : decode cX6_outOn 13 = .ok (.aload_n 0, 1) := by decide +kernel
theorem dX6_outOn_14 : decode cX6_outOn 14 = .ok (.getfield 10, 3) := by decide +kernel
theorem dX6_outOn_17 : decode cX6_outOn 17 = .ok (.invokevirtual 197, 3) := by decide +kernel
theorem dX6_outOn_20 : decode cX6_outOn 20 = .ok (.aload_n 0, 1) := by decide +kernel
theorem dX6_outOn_21 : decode cX6_outOn 21 = .ok (.getfield 16, 3) := by decide +kernel
theorem dX6_outOn_24 : decode cX6_outOn 24 = .ok (.iload_n 1, 1) := by decide +kernel
theorem dX6_outOn_25 : decode cX6_outOn 25 = .ok (.invokevirtual 203, 3) := by decide +kernel
theorem dX6_outOn_28 : decode cX6_outOn 28 = .ok (.ireturn, 1) := by decide +kernel
set_option maxRecDepth 20000 in
theorem ggX6_most_X1_mayBeBooked : GoodIn wsX6_most wsX1_mayBeBooked := goodIn_r _ [9, 10, 129, 130, 131, 132, 133, 134, 135, 136, 137, 138] (by decide +kernel) (by decide +kernel)
set_option maxRecDepth 20000 in
theorem gX6_most_X1_mayBeBooked : GoodIn wsX6_most (wsV RX6 206 RX1 yX1_mayBeBooked wsX1_mayBeBooked) := goodIn_app (goodIn_of _ (by decide +kernel)) ggX6_most_X1_mayBeBooked
set_option maxRecDepth 20000 in
theorem ggX6_most_X1_copyFrom : GoodIn wsX6_most wsX1_copyFrom := goodIn_r _ [14, 15, 16, 17, 18, 19, 20, 21, 22, 10, 23, 24, 25, 26, 27, 28, 29, 30, 31, 32, 33, 34, 35, 36, 37, 38, 39, 40, 41, 42, 43, 44, 45, 46, 47, 48, 49, 50, 51, 52, 53, 54, 55, 56, 57, 129, 130, 131, 132, 133, 134, 135, 136, 137, 138, 146, 147, 148, 149, 150, 151, 152, 153, 154, 155, 156, 139, 140, 141, 142, 143, 144, 145] (by decide +kernel) (by decide +kernel)
set_option maxRecDepth 20000 in
theorem gX6_most_X1_copyFrom : GoodIn wsX6_most (wsV RX6 197 RX1 yX1_copyFrom wsX1_copyFrom) := goodIn_app (goodIn_of _ (by decide +kernel)) ggX6_most_X1_copyFrom
set_option maxRecDepth 20000 in
theorem ggX6_most_X1_wouldSuffice : GoodIn wsX6_most wsX1_wouldSuffice := goodIn_r _ [61, 16, 62, 63, 64, 48, 65, 57, 50, 52, 53, 54, 55, 56, 66, 67, 68, 69, 70, 71, 72, 8, 73, 10, 22, 15, 27, 74, 75, 76, 77, 24, 25, 26, 78, 79, 80, 81, 17, 82, 83, 84, 85, 86, 87, 88, 89, 90, 91, 92, 93, 94, 95, 96, 31, 97, 43, 33, 35, 98, 99, 100, 101, 102, 103, 104, 105, 41, 106, 107, 108, 109, 110, 111, 112, 113, 114, 115, 116, 117, 36, 42, 118, 119, 120, 121, 129, 130, 131, 132, 133, 134, 135, 136, 137, 138, 139, 140, 141, 142, 143, 144, 145, 146, 147, 148, 149, 150, 151, 152, 153, 154, 155, 156] (by decide +kernel) (by decide +kernel)
set_option maxRecDepth 20000 in
theorem gX6_most_X1_wouldSuffice : GoodIn wsX6_most (wsV RX6 210 RX1 yX1_wouldSuffice wsX1_wouldSuffice) := goodIn_app (goodIn_of _ (by decide +kernel)) ggX6_most_X1_wouldSuffice
theorem dX6_most_0 : decode cX6_most 0 = .ok (.aload_n 0, 1) := by decide +kernel
theorem dX6_most_1 : decode cX6_most 1 = .ok (.getfield 10, 3) := by decide +kernel
theorem dX6_most_4 : decode cX6_most 4 = .ok (.iconst 1, 1) := by decide +kernel
theorem dX6_most_5 : decode cX6_most 5 = .ok (.iload_n 1, 1) := by decide +kernel
theorem dX6_most_6 : decode cX6_most 6 = .ok (.iload_n 2, 1) := by decide +kernel
theorem dX6_most_7 : decode cX6_most 7 = .ok (.invokevirtual 206, 3) := by decide +kernel
theorem dX6_most_10 : decode cX6_most 10 = .ok (.ifCond .ne 5, 3) := by decide +kernel
theorem dX6_most_13 : decode cX6_most 13 = .ok (.iconst (-1), 1) := by decide +kernel
theorem dX6_most_14 : decode cX6_most 14 = .ok (.ireturn, 1) := by decide +kernel
theorem dX6_most_15 : decode cX6_most 15 = .ok (.aload_n 0, 1) := by decide +kernel
theorem dX6_most_16 : decode cX6_most 16 = .ok (.getfield 10, 3) := by decide +kernel
theorem dX6_most_19 : decode cX6_most 19 = .ok (.getfield 121, 3) := by decide +kernel
theorem dX6_most_22 : decode cX6_most 22 = .ok (.getfield 153, 3) := by decide +kernel
theorem dX6_most_25 : decode cX6_most 25 = .ok (.bipush 16, 2) := by decide +kernel
theorem dX6_most_27 : decode cX6_most 27 = .ok (.if_icmp .lt 6, 3) := by decide +kernel
theorem dX6_most_30 : decode cX6_most 30 = .ok (.bipush (-3), 2) := by decide +kernel
theorem dX6_most_32 : decode cX6_most 32 = .ok (.ireturn, 1) := by decide +kernel
theorem dX6_most_33 : decode cX6_most 33 = .ok (.bipush 6, 2) := by decide +kernel
theorem dX6_most_35 : decode cX6_most 35 = .ok (.istore_n 3, 1) := by decide +kernel
theorem dX6_most_36 : decode cX6_most 36 = .ok (.iload_n 3, 1) := by decide +kernel
theorem dX6_most_37 : decode cX6_most 37 = .ok (.iconst 1, 1) := by decide +kernel
theorem dX6_most_38 : decode cX6_most 38 = .ok (.if_icmp .lt 35, 3) := by decide +kernel
theorem dX6_most_41 : decode cX6_most 41 = .ok (.aload_n 0, 1) := by decide +kernel
theorem dX6_most_42 : decode cX6_most 42 = .ok (.getfield 16, 3) := by decide +kernel
theorem dX6_most_45 : decode cX6_most 45 = .ok (.aload_n 0, 1) := by decide +kernel
theorem dX6_most_46 : decode cX6_most 46 = .ok (.getfield 10, 3) := by decide +kernel
theorem dX6_most_49 : decode cX6_most 49 = .ok (.invokevirtual 197, 3) := by decide +kernel
theorem dX6_most_52 : decode cX6_most 52 = .ok (.aload_n 0, 1) := by decide +kernel
theorem dX6_most_53 : decode cX6_most 53 = .ok (.getfield 16, 3) := by decide +kernel
theorem dX6_most_56 : decode cX6_most 56 = .ok (.iload_n 3, 1) := by decide +kernel
theorem dX6_most_57 : decode cX6_most 57 = .ok (.iload_n 1, 1) := by decide +kernel
theorem dX6_most_58 : decode cX6_most 58 = .ok (.iload_n 2, 1) := by decide +kernel
theorem dX6_most_59 : decode cX6_most 59 = .ok (.invokevirtual 210, 3) := by decide +kernel
theorem dX6_most_62 : decode cX6_most 62 = .ok (.ifCond .eq 5, 3) := by decide +kernel
theorem dX6_most_65 : decode cX6_most 65 = .ok (.iload_n 3, 1) := by decide +kernel
theorem dX6_most_66 : decode cX6_most 66 = .ok (.ireturn, 1) := by decide +kernel
theorem dX6_most_67 : decode cX6_most 67 = .ok (.iinc 3 (-1), 3) := by decide +kernel
theorem dX6_most_70 : decode cX6_most 70 = .ok (.goto (-34), 3) := by decide +kernel
theorem dX6_most_73 : decode cX6_most 73 = .ok (.iconst 0, 1) := by decide +kernel
theorem dX6_most_74 : decode cX6_most 74 = .ok (.ireturn, 1) := by decide +kernel
set_option maxRecDepth 20000 in
theorem ggX6_keep_X1_copyFrom : GoodIn wsX6_keep wsX1_copyFrom := goodIn_r _ [9, 10, 11, 12, 13, 14, 15, 16, 17, 18, 19, 20, 21, 22, 23, 24, 25, 26, 27, 28, 29, 30, 31, 32, 33, 34, 35, 36, 37, 38, 39, 40, 41, 42, 43, 44, 45, 46, 47, 48, 49, 50, 51, 52, 53, 61, 62, 63, 64, 65, 66, 67, 68, 69, 70, 71, 72, 73, 74, 75, 76, 77, 78, 79, 80, 81, 82, 83, 84, 85, 86, 87, 88] (by decide +kernel) (by decide +kernel)
set_option maxRecDepth 20000 in
theorem gX6_keep_X1_copyFrom : GoodIn wsX6_keep (wsV RX6 197 RX1 yX1_copyFrom wsX1_copyFrom) := goodIn_app (goodIn_of _ (by decide +kernel)) ggX6_keep_X1_copyFrom
theorem dX6_keep_0 : decode cX6_keep 0 = .ok (.aload_n 0, 1) := by decide +kernel
theorem dX6_keep_1 : decode cX6_keep 1 = .ok (.getfield 19, 3) := by decide +kernel
theorem dX6_keep_4 : decode cX6_keep 4 = .ok (.aload_n 0, 1) := by decide +kernel
theorem dX6_keep_5 : decode cX6_keep 5 = .ok (.getfield 10, 3) := by decide +kernel
theorem dX6_keep_8 : decode cX6_keep 8 = .ok (.invokevirtual 197, 3) := by decide +kernel
theorem dX6_keep_11 : decode cX6_keep 11 = .ok (.aload_n 0, 1) := by decide +kernel
theorem dX6_keep_12 : decode cX6_keep 12 = .ok (.iconst 1, 1) := by decide +kernel
theorem dX6_keep_13 : decode cX6_keep 13 = .ok (.putfield 43, 3) := by decide +kernel
theorem dX6_keep_16 : decode cX6_keep 16 = .ok (.aload_n 0, 1) := by decide +kernel
theorem dX6_keep_17 : decode cX6_keep 17 = .ok (.getfield 10, 3) := by decide +kernel
theorem dX6_keep_20 : decode cX6_keep 20 = .ok (.getfield 163, 3) := by decide +kernel
theorem dX6_keep_23 : decode cX6_keep 23 = .ok (.ireturn, 1) := by decide +kernel
set_option maxRecDepth 20000 in
theorem ggX6_restore_X0_prepare : GoodIn wsX6_restore wsX0_prepare := goodIn_r _ [10, 11, 12, 13, 14, 15, 16, 17, 18, 19, 20, 21, 22, 23, 24, 25, 26, 27, 28, 29, 30, 31, 32, 33, 34, 35, 36, 37, 38, 39, 40, 41, 42, 43, 44, 45, 46, 47, 48, 49, 50, 51, 52, 53, 54, 55, 56, 57, 58, 59, 60, 61, 89, 90, 79, 80, 81, 82, 83, 84, 85, 86, 87, 88, 91, 92, 93, 94, 95, 96, 97, 98, 99, 100, 101, 102, 103, 104, 105, 106, 107, 108] (by decide +kernel) (by decide +kernel)
set_option maxRecDepth 20000 in
theorem gX6_restore_X0_prepare : GoodIn wsX6_restore (wsV RX6 47 RX0 yX0_prepare wsX0_prepare) := goodIn_app (goodIn_of _ (by decide +kernel)) ggX6_restore_X0_prepare
set_option maxRecDepth 20000 in
theorem ggX6_restore_X1_copyFrom : GoodIn wsX6_restore wsX1_copyFrom := goodIn_r _ [17, 18, 19, 20, 21, 22, 23, 24, 25, 26, 27, 28, 29, 30, 31, 32, 33, 34, 35, 36, 37, 38, 39, 40, 41, 42, 43, 44, 45, 46, 47, 48, 49, 50, 51, 52, 53, 54, 55, 56, 57, 58, 59, 60, 61, 79, 80, 81, 82, 83, 84, 85, 86, 87, 88, 91, 92, 93, 94, 95, 96, 97, 98, 99, 100, 101, 102, 103, 104, 105, 106, 107, 108] (by decide +kernel) (by decide +kernel)
set_option maxRecDepth 20000 in
theorem gX6_restore_X1_copyFrom : GoodIn wsX6_restore (wsV RX6 197 RX1 yX1_copyFrom wsX1_copyFrom) := goodIn_app (goodIn_of _ (by decide +kernel)) ggX6_restore_X1_copyFrom
set_option maxRecDepth 20000 in
theorem ggX6_restore_X6_recorded : GoodIn wsX6_restore wsX6_recorded := goodIn_r _ [67, 2, 68, 69, 70, 9, 71, 11, 12, 72, 73, 74, 75, 76, 77, 78, 89, 90] (by decide +kernel) (by decide +kernel)
set_option maxRecDepth 20000 in
theorem gX6_restore_X6_recorded : GoodIn wsX6_restore (wsV RX6 55 RX6 yX6_recorded wsX6_recorded) := goodIn_app (goodIn_of _ (by decide +kernel)) ggX6_restore_X6_recorded
theorem dX6_restore_0 : decode cX6_restore 0 = .ok (.aload_n 0, 1) := by decide +kernel
theorem dX6_restore_1 : decode cX6_restore 1 = .ok (.getfield 43, 3) := by decide +kernel
theorem dX6_restore_4 : decode cX6_restore 4 = .ok (.ifCond .ne 6, 3) := by decide +kernel
theorem dX6_restore_7 : decode cX6_restore 7 = .ok (.bipush (-2), 2) := by decide +kernel
theorem dX6_restore_9 : decode cX6_restore 9 = .ok (.ireturn, 1) := by decide +kernel
theorem dX6_restore_10 : decode cX6_restore 10 = .ok (.aload_n 0, 1) := by decide +kernel
theorem dX6_restore_11 : decode cX6_restore 11 = .ok (.getfield 25, 3) := by decide +kernel
theorem dX6_restore_14 : decode cX6_restore 14 = .ok (.aload_n 0, 1) := by decide +kernel
theorem dX6_restore_15 : decode cX6_restore 15 = .ok (.getfield 10, 3) := by decide +kernel
theorem dX6_restore_18 : decode cX6_restore 18 = .ok (.invokevirtual 47, 3) := by decide +kernel
theorem dX6_restore_21 : decode cX6_restore 21 = .ok (.aload_n 0, 1) := by decide +kernel
theorem dX6_restore_22 : decode cX6_restore 22 = .ok (.getfield 10, 3) := by decide +kernel
theorem dX6_restore_25 : decode cX6_restore 25 = .ok (.aload_n 0, 1) := by decide +kernel
theorem dX6_restore_26 : decode cX6_restore 26 = .ok (.getfield 19, 3) := by decide +kernel
theorem dX6_restore_29 : decode cX6_restore 29 = .ok (.invokevirtual 197, 3) := by decide +kernel
theorem dX6_restore_32 : decode cX6_restore 32 = .ok (.aload_n 0, 1) := by decide +kernel
theorem dX6_restore_33 : decode cX6_restore 33 = .ok (.aload_n 0, 1) := by decide +kernel
theorem dX6_restore_34 : decode cX6_restore 34 = .ok (.getfield 10, 3) := by decide +kernel
theorem dX6_restore_37 : decode cX6_restore 37 = .ok (.getfield 163, 3) := by decide +kernel
theorem dX6_restore_40 : decode cX6_restore 40 = .ok (.invokevirtual 55, 3) := by decide +kernel
theorem dX6_restore_43 : decode cX6_restore 43 = .ok (.ireturn, 1) := by decide +kernel
set_option maxRecDepth 20000 in
theorem ggX6_undo_X0_takeBack : GoodIn wsX6_undo wsX0_takeBack := goodIn_r _ [8, 9, 10, 11, 12, 13, 14, 15, 16, 17, 18, 19, 20, 21, 22, 23, 24, 25, 26, 27, 28, 29, 30, 31, 32, 33, 34, 35, 36, 37, 38, 39, 40, 41, 42, 43, 44, 45, 46, 47, 48, 49, 50, 51, 52, 53, 54, 55, 56, 57, 58, 59, 67, 68, 69, 70, 71, 72, 73, 74, 75, 76, 77, 78, 79, 80, 81, 82, 83, 84, 85, 86, 87, 88, 89, 90, 91, 92, 93, 94, 95, 96] (by decide +kernel) (by decide +kernel)
set_option maxRecDepth 20000 in
theorem gX6_undo_X0_takeBack : GoodIn wsX6_undo (wsV RX6 213 RX0 yX0_takeBack wsX0_takeBack) := goodIn_app (goodIn_of _ (by decide +kernel)) ggX6_undo_X0_takeBack
theorem dX6_undo_0 : decode cX6_undo 0 = .ok (.aload_n 0, 1) := by decide +kernel
theorem dX6_undo_1 : decode cX6_undo 1 = .ok (.getfield 25, 3) := by decide +kernel
theorem dX6_undo_4 : decode cX6_undo 4 = .ok (.getfield 187, 3) := by decide +kernel
theorem dX6_undo_7 : decode cX6_undo 7 = .ok (.ifCond .ne 6, 3) := by decide +kernel
theorem dX6_undo_10 : decode cX6_undo 10 = .ok (.bipush (-2), 2) := by decide +kernel
theorem dX6_undo_12 : decode cX6_undo 12 = .ok (.ireturn, 1) := by decide +kernel
theorem dX6_undo_13 : decode cX6_undo 13 = .ok (.aload_n 0, 1) := by decide +kernel
theorem dX6_undo_14 : decode cX6_undo 14 = .ok (.getfield 25, 3) := by decide +kernel
theorem dX6_undo_17 : decode cX6_undo 17 = .ok (.aload_n 0, 1) := by decide +kernel
theorem dX6_undo_18 : decode cX6_undo 18 = .ok (.getfield 10, 3) := by decide +kernel
theorem dX6_undo_21 : decode cX6_undo 21 = .ok (.invokevirtual 213, 3) := by decide +kernel
theorem dX6_undo_24 : decode cX6_undo 24 = .ok (.aload_n 0, 1) := by decide +kernel
theorem dX6_undo_25 : decode cX6_undo 25 = .ok (.getfield 25, 3) := by decide +kernel
theorem dX6_undo_28 : decode cX6_undo 28 = .ok (.getfield 187, 3) := by decide +kernel
theorem dX6_undo_31 : decode cX6_undo 31 = .ok (.ireturn, 1) := by decide +kernel
set_option maxRecDepth 20000 in
theorem ggX6_type_X5_append : GoodIn wsX6_type wsX5_append := goodIn_r _ [7, 8, 9, 17, 18, 19, 20, 21] (by decide +kernel) (by decide +kernel)
set_option maxRecDepth 20000 in
theorem gX6_type_X5_append : GoodIn wsX6_type (wsV RX6 216 RX5 yX5_append wsX5_append) := goodIn_app (goodIn_of _ (by decide +kernel)) ggX6_type_X5_append
theorem dX6_type_0 : decode cX6_type 0 = .ok (.iload_n 1, 1) := by decide +kernel
theorem dX6_type_1 : decode cX6_type 1 = .ok (.bipush 32, 2) := by decide +kernel
theorem dX6_type_3 : decode cX6_type 3 = .ok (.if_icmp .lt 9, 3) := by decide +kernel
theorem dX6_type_6 : decode cX6_type 6 = .ok (.iload_n 1, 1) := by decide +kernel
theorem dX6_type_7 : decode cX6_type 7 = .ok (.bipush 126, 2) := by decide +kernel
theorem dX6_type_9 : decode cX6_type 9 = .ok (.if_icmp .le 5, 3) := by decide +kernel
theorem dX6_type_12 : decode cX6_type 12 = .ok (.iconst (-1), 1) := by decide +kernel
theorem dX6_type_13 : decode cX6_type 13 = .ok (.ireturn, 1) := by decide +kernel
theorem dX6_type_14 : decode cX6_type 14 = .ok (.aload_n 0, 1) := by decide +kernel
theorem dX6_type_15 : decode cX6_type 15 = .ok (.getfield 32, 3) := by decide +kernel
theorem dX6_type_18 : decode cX6_type 18 = .ok (.getfield 190, 3) := by decide +kernel
theorem dX6_type_21 : decode cX6_type 21 = .ok (.bipush 60, 2) := by decide +kernel
theorem dX6_type_23 : decode cX6_type 23 = .ok (.if_icmp .lt 6, 3) := by decide +kernel
theorem dX6_type_26 : decode cX6_type 26 = .ok (.bipush (-3), 2) := by decide +kernel
theorem dX6_type_28 : decode cX6_type 28 = .ok (.ireturn, 1) := by decide +kernel
theorem dX6_type_29 : decode cX6_type 29 = .ok (.aload_n 0, 1) := by decide +kernel
theorem dX6_type_30 : decode cX6_type 30 = .ok (.getfield 32, 3) := by decide +kernel
theorem dX6_type_33 : decode cX6_type 33 = .ok (.iload_n 1, 1) := by decide +kernel
theorem dX6_type_34 : decode cX6_type 34 = .ok (.invokevirtual 216, 3) := by decide +kernel
theorem dX6_type_37 : decode cX6_type 37 = .ok (.aload_n 0, 1) := by decide +kernel
theorem dX6_type_38 : decode cX6_type 38 = .ok (.getfield 32, 3) := by decide +kernel
theorem dX6_type_41 : decode cX6_type 41 = .ok (.getfield 190, 3) := by decide +kernel
theorem dX6_type_44 : decode cX6_type 44 = .ok (.ireturn, 1) := by decide +kernel
theorem dX6_clearText_0 : decode cX6_clearText 0 = .ok (.aload_n 0, 1) := by decide +kernel
theorem dX6_clearText_1 : decode cX6_clearText 1 = .ok (.getfield 32, 3) := by decide +kernel
theorem dX6_clearText_4 : decode cX6_clearText 4 = .ok (.getfield 190, 3) := by decide +kernel
theorem dX6_clearText_7 : decode cX6_clearText 7 = .ok (.istore_n 1, 1) := by decide +kernel
theorem dX6_clearText_8 : decode cX6_clearText 8 = .ok (.aload_n 0, 1) := by decide +kernel
theorem dX6_clearText_9 : decode cX6_clearText 9 = .ok (.getfield 32, 3) := by decide +kernel
theorem dX6_clearText_12 : decode cX6_clearText 12 = .ok (.iconst 0, 1) := by decide +kernel
theorem dX6_clearText_13 : decode cX6_clearText 13 = .ok (.putfield 190, 3) := by decide +kernel
theorem dX6_clearText_16 : decode cX6_clearText 16 = .ok (.iload_n 1, 1) := by decide +kernel
theorem dX6_clearText_17 : decode cX6_clearText 17 = .ok (.ireturn, 1) := by decide +kernel
set_option maxRecDepth 20000 in
theorem ggX6_fault_X3_run : GoodIn wsX6_fault wsX3_run := goodIn_r _ [11, 12, 13, 14, 15, 16, 17, 18, 19, 20, 21, 22, 23, 24, 25, 26, 27, 28, 29, 30, 31, 32, 33, 34, 35, 36, 37, 38, 39, 40, 41, 42, 43, 44, 45, 46, 47, 48, 49, 50, 51, 52, 53, 54, 55, 56, 57, 58, 59, 60, 61, 62, 63, 64, 65, 66, 67, 68, 69, 70, 71, 72, 73, 74, 75, 76, 77, 78, 79, 80, 81, 82, 83, 84, 85, 86, 87, 88, 89, 90, 91, 92, 93, 94, 95, 96, 97, 98, 99, 100, 101, 102, 10, 103, 104, 105, 106, 107, 108, 109, 110, 111, 112, 113, 114, 115, 116, 117, 118, 119, 120, 121, 122, 123, 124, 125, 126, 127, 128, 129, 130, 131, 132, 133, 134, 135, 136, 137, 138, 139, 140, 141, 142, 143, 144, 145, 146, 147, 148, 149, 150, 151, 152, 153, 154, 155, 156, 157, 158, 159, 160, 161, 162, 163, 164, 165, 166, 167, 168, 169, 170, 171, 172, 173, 174, 175, 176, 177, 178, 179, 180, 181, 182, 183, 184, 185, 186, 187, 188, 189, 190, 191, 192, 193, 194, 195, 196, 197, 198, 199, 200, 201, 202, 203, 204, 205, 206, 207, 208, 209, 210, 211, 212, 213, 214, 215, 216, 217, 218, 219, 220, 221, 222, 223, 224, 232, 233, 234, 235, 236, 237, 238, 239, 240, 241, 242, 243, 244, 245, 246, 247, 248, 249, 250, 251, 252, 253, 254, 255, 256, 257, 258, 259, 260, 261, 262, 263, 264, 265, 266, 267, 268, 269, 270] (by decide +kernel) (by decide +kernel)
set_option maxRecDepth 20000 in
theorem gX6_fault_X3_run : GoodIn wsX6_fault (wsV RX6 220 RX3 yX3_run wsX3_run) := goodIn_app (goodIn_of _ (by decide +kernel)) ggX6_fault_X3_run
theorem dX6_fault_0 : decode cX6_fault 0 = .ok (.iload_n 1, 1) := by decide +kernel
theorem dX6_fault_1 : decode cX6_fault 1 = .ok (.ifCond .lt 8, 3) := by decide +kernel
theorem dX6_fault_4 : decode cX6_fault 4 = .ok (.iload_n 1, 1) := by decide +kernel
theorem dX6_fault_5 : decode cX6_fault 5 = .ok (.iconst 2, 1) := by decide +kernel
theorem dX6_fault_6 : decode cX6_fault 6 = .ok (.if_icmp .le 5, 3) := by decide +kernel
theorem dX6_fault_9 : decode cX6_fault 9 = .ok (.iconst (-1), 1) := by decide +kernel
theorem dX6_fault_10 : decode cX6_fault 10 = .ok (.ireturn, 1) := by decide +kernel
theorem dX6_fault_11 : decode cX6_fault 11 = .ok (.aload_n 0, 1) := by decide +kernel
theorem dX6_fault_12 : decode cX6_fault 12 = .ok (.getfield 39, 3) := by decide +kernel
theorem dX6_fault_15 : decode cX6_fault 15 = .ok (.aload_n 0, 1) := by decide +kernel
theorem dX6_fault_16 : decode cX6_fault 16 = .ok (.getfield 32, 3) := by decide +kernel
theorem dX6_fault_19 : decode cX6_fault 19 = .ok (.aload_n 0, 1) := by decide +kernel
theorem dX6_fault_20 : decode cX6_fault 20 = .ok (.getfield 10, 3) := by decide +kernel
theorem dX6_fault_23 : decode cX6_fault 23 = .ok (.invokevirtual 220, 3) := by decide +kernel
theorem dX6_fault_26 : decode cX6_fault 26 = .ok (.aload_n 0, 1) := by decide +kernel
theorem dX6_fault_27 : decode cX6_fault 27 = .ok (.getfield 39, 3) := by decide +kernel
theorem dX6_fault_30 : decode cX6_fault 30 = .ok (.getfield 224, 3) := by decide +kernel
theorem dX6_fault_33 : decode cX6_fault 33 = .ok (.ifCond .ne 6, 3) := by decide +kernel
theorem dX6_fault_36 : decode cX6_fault 36 = .ok (.bipush (-4), 2) := by decide +kernel
theorem dX6_fault_38 : decode cX6_fault 38 = .ok (.ireturn, 1) := by decide +kernel
theorem dX6_fault_39 : decode cX6_fault 39 = .ok (.iload_n 1, 1) := by decide +kernel
theorem dX6_fault_40 : decode cX6_fault 40 = .ok (.ifCond .ne 11, 3) := by decide +kernel
theorem dX6_fault_43 : decode cX6_fault 43 = .ok (.aload_n 0, 1) := by decide +kernel
theorem dX6_fault_44 : decode cX6_fault 44 = .ok (.getfield 39, 3) := by decide +kernel
theorem dX6_fault_47 : decode cX6_fault 47 = .ok (.getfield 227, 3) := by decide +kernel
theorem dX6_fault_50 : decode cX6_fault 50 = .ok (.ireturn, 1) := by decide +kernel
theorem dX6_fault_51 : decode cX6_fault 51 = .ok (.iload_n 1, 1) := by decide +kernel
theorem dX6_fault_52 : decode cX6_fault 52 = .ok (.iconst 1, 1) := by decide +kernel
theorem dX6_fault_53 : decode cX6_fault 53 = .ok (.if_icmp .ne 11, 3) := by decide +kernel
theorem dX6_fault_56 : decode cX6_fault 56 = .ok (.aload_n 0, 1) := by decide +kernel
theorem dX6_fault_57 : decode cX6_fault 57 = .ok (.getfield 39, 3) := by decide +kernel
theorem dX6_fault_60 : decode cX6_fault 60 = .ok (.getfield 224, 3) := by decide +kernel
theorem dX6_fault_63 : decode cX6_fault 63 = .ok (.ireturn, 1) := by decide +kernel
theorem dX6_fault_64 : decode cX6_fault 64 = .ok (.aload_n 0, 1) := by decide +kernel
theorem dX6_fault_65 : decode cX6_fault 65 = .ok (.getfield 39, 3) := by decide +kernel
theorem dX6_fault_68 : decode cX6_fault 68 = .ok (.getfield 224, 3) := by decide +kernel
theorem dX6_fault_71 : decode cX6_fault 71 = .ok (.iconst 1, 1) := by decide +kernel
theorem dX6_fault_72 : decode cX6_fault 72 = .ok (.if_icmp .ne 8, 3) := by decide +kernel
theorem dX6_fault_75 : decode cX6_fault 75 = .ok (.bipush (-4), 2) := by decide +kernel
theorem dX6_fault_77 : decode cX6_fault 77 = .ok (.goto 10, 3) := by decide +kernel
theorem dX6_fault_80 : decode cX6_fault 80 = .ok (.aload_n 0, 1) := by decide +kernel
theorem dX6_fault_81 : decode cX6_fault 81 = .ok (.getfield 39, 3) := by decide +kernel
theorem dX6_fault_84 : decode cX6_fault 84 = .ok (.getfield 230, 3) := by decide +kernel
theorem dX6_fault_87 : decode cX6_fault 87 = .ok (.ireturn, 1) := by decide +kernel
set_option maxRecDepth 20000 in
theorem ggX6_play_X3_run : GoodIn wsX6_play wsX3_run := goodIn_r _ [12, 13, 14, 15, 16, 17, 18, 19, 20, 21, 22, 23, 24, 25, 26, 27, 28, 29, 30, 31, 32, 33, 34, 35, 36, 37, 38, 39, 40, 41, 42, 43, 44, 45, 46, 47, 48, 49, 50, 51, 52, 53, 54, 55, 56, 57, 58, 59, 60, 61, 62, 63, 64, 65, 66, 67, 68, 69, 70, 71, 72, 73, 74, 75, 76, 77, 78, 79, 80, 81, 82, 83, 84, 85, 86, 87, 88, 89, 90, 91, 92, 93, 94, 95, 96, 97, 98, 99, 100, 101, 102, 103, 11, 104, 105, 106, 107, 108, 109, 110, 111, 112, 113, 114, 115, 116, 117, 118, 119, 120, 121, 122, 123, 124, 125, 126, 127, 128, 129, 130, 131, 132, 133, 134, 135, 136, 137, 138, 139, 140, 141, 142, 143, 144, 145, 146, 147, 148, 149, 150, 151, 152, 153, 154, 155, 156, 157, 158, 159, 160, 161, 162, 163, 164, 165, 166, 167, 168, 169, 170, 171, 172, 173, 174, 175, 176, 177, 178, 179, 180, 181, 182, 183, 184, 185, 186, 187, 188, 189, 190, 191, 192, 193, 194, 195, 196, 197, 198, 199, 200, 201, 202, 203, 204, 205, 206, 207, 208, 209, 210, 211, 212, 213, 214, 215, 216, 217, 218, 219, 220, 221, 222, 223, 224, 225, 251, 252, 253, 254, 255, 256, 257, 258, 259, 260, 261, 262, 263, 264, 265, 266, 267, 268, 269, 270, 271, 272, 273, 274, 275, 276, 277, 278, 279, 280, 281, 282, 283, 284, 285, 286, 287, 288, 289] (by decide +kernel) (by decide +kernel)
set_option maxRecDepth 20000 in
theorem gX6_play_X3_run : GoodIn wsX6_play (wsV RX6 220 RX3 yX3_run wsX3_run) := goodIn_app (goodIn_of _ (by decide +kernel)) ggX6_play_X3_run
set_option maxRecDepth 20000 in
theorem ggX6_play_X0_prepare : GoodIn wsX6_play wsX0_prepare := goodIn_r _ [230, 231, 232, 233, 23, 24, 25, 26, 27, 28, 29, 30, 31, 32, 33, 34, 35, 36, 37, 38, 39, 40, 41, 42, 43, 44, 45, 46, 47, 48, 49, 50, 51, 52, 53, 54, 55, 56, 57, 58, 59, 60, 61, 62, 63, 64, 65, 66, 67, 68, 69, 70, 290, 291, 262, 263, 264, 265, 266, 267, 268, 269, 270, 271, 272, 273, 274, 275, 276, 277, 278, 279, 280, 281, 282, 283, 284, 285, 286, 287, 288, 289] (by decide +kernel) (by decide +kernel)
set_option maxRecDepth 20000 in
theorem gX6_play_X0_prepare : GoodIn wsX6_play (wsV RX6 47 RX0 yX0_prepare wsX0_prepare) := goodIn_app (goodIn_of _ (by decide +kernel)) ggX6_play_X0_prepare
set_option maxRecDepth 20000 in
theorem ggX6_play_X1_copyFrom : GoodIn wsX6_play wsX1_copyFrom := goodIn_r _ [26, 27, 28, 29, 30, 31, 32, 33, 34, 35, 36, 37, 38, 39, 40, 41, 42, 43, 44, 45, 46, 47, 48, 49, 50, 51, 52, 53, 54, 55, 56, 57, 58, 59, 60, 61, 62, 63, 64, 65, 66, 67, 68, 69, 70, 262, 263, 264, 265, 266, 267, 268, 269, 270, 271, 272, 273, 274, 275, 276, 277, 278, 279, 280, 281, 282, 283, 284, 285, 286, 287, 288, 289] (by decide +kernel) (by decide +kernel)
set_option maxRecDepth 20000 in
theorem gX6_play_X1_copyFrom : GoodIn wsX6_play (wsV RX6 197 RX1 yX1_copyFrom wsX1_copyFrom) := goodIn_app (goodIn_of _ (by decide +kernel)) ggX6_play_X1_copyFrom
set_option maxRecDepth 20000 in
theorem ggX6_play_X6_recorded : GoodIn wsX6_play wsX6_recorded := goodIn_r _ [239, 5, 240, 241, 242, 229, 243, 231, 232, 244, 245, 246, 247, 248, 249, 250, 290, 291] (by decide +kernel) (by decide +kernel)
set_option maxRecDepth 20000 in
theorem gX6_play_X6_recorded : GoodIn wsX6_play (wsV RX6 55 RX6 yX6_recorded wsX6_recorded) := goodIn_app (goodIn_of _ (by decide +kernel)) ggX6_play_X6_recorded
theorem dX6_play_0 : decode cX6_play 0 = .ok (.aload_n 0, 1) := by decide +kernel
theorem dX6_play_1 : decode cX6_play 1 = .ok (.getfield 39, 3) := by decide +kernel
theorem dX6_play_4 : decode cX6_play 4 = .ok (.aload_n 0, 1) := by decide +kernel
theorem dX6_play_5 : decode cX6_play 5 = .ok (.getfield 32, 3) := by decide +kernel
theorem dX6_play_8 : decode cX6_play 8 = .ok (.aload_n 0, 1) := by decide +kernel
theorem dX6_play_9 : decode cX6_play 9 = .ok (.getfield 10, 3) := by decide +kernel
theorem dX6_play_12 : decode cX6_play 12 = .ok (.invokevirtual 220, 3) := by decide +kernel
theorem dX6_play_15 : decode cX6_play 15 = .ok (.aload_n 0, 1) := by decide +kernel
theorem dX6_play_16 : decode cX6_play 16 = .ok (.getfield 39, 3) := by decide +kernel
theorem dX6_play_19 : decode cX6_play 19 = .ok (.getfield 224, 3) := by decide +kernel
theorem dX6_play_22 : decode cX6_play 22 = .ok (.ifCond .eq 6, 3) := by decide +kernel
theorem dX6_play_25 : decode cX6_play 25 = .ok (.bipush (-2), 2) := by decide +kernel
theorem dX6_play_27 : decode cX6_play 27 = .ok (.ireturn, 1) := by decide +kernel
theorem dX6_play_28 : decode cX6_play 28 = .ok (.aload_n 0, 1) := by decide +kernel
theorem dX6_play_29 : decode cX6_play 29 = .ok (.getfield 25, 3) := by decide +kernel
theorem dX6_play_32 : decode cX6_play 32 = .ok (.aload_n 0, 1) := by decide +kernel
theorem dX6_play_33 : decode cX6_play 33 = .ok (.getfield 10, 3) := by decide +kernel
theorem dX6_play_36 : decode cX6_play 36 = .ok (.invokevirtual 47, 3) := by decide +kernel
theorem dX6_play_39 : decode cX6_play 39 = .ok (.aload_n 0, 1) := by decide +kernel
theorem dX6_play_40 : decode cX6_play 40 = .ok (.getfield 10, 3) := by decide +kernel
theorem dX6_play_43 : decode cX6_play 43 = .ok (.aload_n 0, 1) := by decide +kernel
theorem dX6_play_44 : decode cX6_play 44 = .ok (.getfield 39, 3) := by decide +kernel
theorem dX6_play_47 : decode cX6_play 47 = .ok (.getfield 233, 3) := by decide +kernel
theorem dX6_play_50 : decode cX6_play 50 = .ok (.invokevirtual 197, 3) := by decide +kernel
theorem dX6_play_53 : decode cX6_play 53 = .ok (.aload_n 0, 1) := by decide +kernel
theorem dX6_play_54 : decode cX6_play 54 = .ok (.aload_n 0, 1) := by decide +kernel
theorem dX6_play_55 : decode cX6_play 55 = .ok (.getfield 39, 3) := by decide +kernel
theorem dX6_play_58 : decode cX6_play 58 = .ok (.getfield 236, 3) := by decide +kernel
theorem dX6_play_61 : decode cX6_play 61 = .ok (.invokevirtual 55, 3) := by decide +kernel
theorem dX6_play_64 : decode cX6_play 64 = .ok (.ireturn, 1) := by decide +kernel
set_option maxRecDepth 20000 in
theorem ggX6_recorded_X0_commit : GoodIn wsX6_recorded wsX0_commit := goodIn_r _ [6, 7, 8, 16, 17] (by decide +kernel) (by decide +kernel)
set_option maxRecDepth 20000 in
theorem gX6_recorded_X0_commit : GoodIn wsX6_recorded (wsV RX6 239 RX0 yX0_commit wsX0_commit) := goodIn_app (goodIn_of _ (by decide +kernel)) ggX6_recorded_X0_commit
theorem dX6_recorded_0 : decode cX6_recorded 0 = .ok (.iload_n 1, 1) := by decide +kernel
theorem dX6_recorded_1 : decode cX6_recorded 1 = .ok (.ifCond .lt 10, 3) := by decide +kernel
theorem dX6_recorded_4 : decode cX6_recorded 4 = .ok (.aload_n 0, 1) := by decide +kernel
theorem dX6_recorded_5 : decode cX6_recorded 5 = .ok (.getfield 25, 3) := by decide +kernel
theorem dX6_recorded_8 : decode cX6_recorded 8 = .ok (.invokevirtual 239, 3) := by decide +kernel
theorem dX6_recorded_11 : decode cX6_recorded 11 = .ok (.iload_n 1, 1) := by decide +kernel
theorem dX6_recorded_12 : decode cX6_recorded 12 = .ok (.ireturn, 1) := by decide +kernel
theorem dX7_init_0 : decode cX7_init 0 = .ok (.aload_n 0, 1) := by decide +kernel
theorem dX7_init_1 : decode cX7_init 1 = .ok (.invokespecial 1, 3) := by decide +kernel
theorem dX7_init_4 : decode cX7_init 4 = .ok (.aload_n 0, 1) := by decide +kernel
theorem dX7_init_5 : decode cX7_init 5 = .ok (.sipush 599, 3) := by decide +kernel
theorem dX7_init_8 : decode cX7_init 8 = .ok (.newarray .int, 2) := by decide +kernel
theorem dX7_init_10 : decode cX7_init 10 = .ok (.putfield 7, 3) := by decide +kernel
theorem dX7_init_13 : decode cX7_init 13 = .ok (.aload_n 0, 1) := by decide +kernel
theorem dX7_init_14 : decode cX7_init 14 = .ok (.sipush 599, 3) := by decide +kernel
theorem dX7_init_17 : decode cX7_init 17 = .ok (.newarray .int, 2) := by decide +kernel
theorem dX7_init_19 : decode cX7_init 19 = .ok (.putfield 13, 3) := by decide +kernel
theorem dX7_init_22 : decode cX7_init 22 = .ok (.aload_n 0, 1) := by decide +kernel
theorem dX7_init_23 : decode cX7_init 23 = .ok (.sipush 599, 3) := by decide +kernel
theorem dX7_init_26 : decode cX7_init 26 = .ok (.newarray .int, 2) := by decide +kernel
theorem dX7_init_28 : decode cX7_init 28 = .ok (.putfield 16, 3) := by decide +kernel
theorem dX7_init_31 : decode cX7_init 31 = .ok (.aload_n 0, 1) := by decide +kernel
theorem dX7_init_32 : decode cX7_init 32 = .ok (.sipush 2396, 3) := by decide +kernel
theorem dX7_init_35 : decode cX7_init 35 = .ok (.newarray .int, 2) := by decide +kernel
theorem dX7_init_37 : decode cX7_init 37 = .ok (.putfield 19, 3) := by decide +kernel
theorem dX7_init_40 : decode cX7_init 40 = .ok (.aload_n 0, 1) := by decide +kernel
theorem dX7_init_41 : decode cX7_init 41 = .ok (.bipush 60, 2) := by decide +kernel
theorem dX7_init_43 : decode cX7_init 43 = .ok (.newarray .int, 2) := by decide +kernel
theorem dX7_init_45 : decode cX7_init 45 = .ok (.putfield 22, 3) := by decide +kernel
theorem dX7_init_48 : decode cX7_init 48 = .ok (.aload_n 0, 1) := by decide +kernel
theorem dX7_init_49 : decode cX7_init 49 = .ok (.sipush 599, 3) := by decide +kernel
theorem dX7_init_52 : decode cX7_init 52 = .ok (.newarray .int, 2) := by decide +kernel
theorem dX7_init_54 : decode cX7_init 54 = .ok (.putfield 25, 3) := by decide +kernel
theorem dX7_init_57 : decode cX7_init 57 = .ok (.aload_n 0, 1) := by decide +kernel
theorem dX7_init_58 : decode cX7_init 58 = .ok (.iconst 3, 1) := by decide +kernel
theorem dX7_init_59 : decode cX7_init 59 = .ok (.newarray .int, 2) := by decide +kernel
theorem dX7_init_61 : decode cX7_init 61 = .ok (.putfield 28, 3) := by decide +kernel
theorem dX7_init_64 : decode cX7_init 64 = .ok (.aload_n 0, 1) := by decide +kernel
theorem dX7_init_65 : decode cX7_init 65 = .ok (.getfield 7, 3) := by decide +kernel
theorem dX7_init_68 : decode cX7_init 68 = .ok (.bipush 10, 2) := by decide +kernel
theorem dX7_init_70 : decode cX7_init 70 = .ok (.bipush 12, 2) := by decide +kernel
theorem dX7_init_72 : decode cX7_init 72 = .ok (.iastore, 1) := by decide +kernel
theorem dX7_init_73 : decode cX7_init 73 = .ok (.aload_n 0, 1) := by decide +kernel
theorem dX7_init_74 : decode cX7_init 74 = .ok (.getfield 7, 3) := by decide +kernel
theorem dX7_init_77 : decode cX7_init 77 = .ok (.bipush 11, 2) := by decide +kernel
theorem dX7_init_79 : decode cX7_init 79 = .ok (.iconst 2, 1) := by decide +kernel
theorem dX7_init_80 : decode cX7_init 80 = .ok (.iastore, 1) := by decide +kernel
theorem dX7_init_81 : decode cX7_init 81 = .ok (.aload_n 0, 1) := by decide +kernel
theorem dX7_init_82 : decode cX7_init 82 = .ok (.getfield 7, 3) := by decide +kernel
theorem dX7_init_85 : decode cX7_init 85 = .ok (.bipush 12, 2) := by decide +kernel
theorem dX7_init_87 : decode cX7_init 87 = .ok (.iconst 3, 1) := by decide +kernel
theorem dX7_init_88 : decode cX7_init 88 = .ok (.iastore, 1) := by decide +kernel
theorem dX7_init_89 : decode cX7_init 89 = .ok (.aload_n 0, 1) := by decide +kernel
theorem dX7_init_90 : decode cX7_init 90 = .ok (.getfield 7, 3) := by decide +kernel
theorem dX7_init_93 : decode cX7_init 93 = .ok (.bipush 13, 2) := by decide +kernel
theorem dX7_init_95 : decode cX7_init 95 = .ok (.iconst 1, 1) := by decide +kernel
theorem dX7_init_96 : decode cX7_init 96 = .ok (.iastore, 1) := by decide +kernel
theorem dX7_init_97 : decode cX7_init 97 = .ok (.return_, 1) := by decide +kernel
theorem dX7_in_0 : decode cX7_in 0 = .ok (.iload_n 0, 1) := by decide +kernel
theorem dX7_in_1 : decode cX7_in 1 = .ok (.iload_n 1, 1) := by decide +kernel
theorem dX7_in_2 : decode cX7_in 2 = .ok (.if_icmp .lt 12, 3) := by decide +kernel
theorem dX7_in_5 : decode cX7_in 5 = .ok (.iload_n 0, 1) := by decide +kernel
theorem dX7_in_6 : decode cX7_in 6 = .ok (.iload_n 2, 1) := by decide +kernel
theorem dX7_in_7 : decode cX7_in 7 = .ok (.if_icmp .gt 7, 3) := by decide +kernel
theorem dX7_in_10 : decode cX7_in 10 = .ok (.iconst 1, 1) := by decide +kernel
theorem dX7_in_11 : decode cX7_in 11 = .ok (.goto 4, 3) := by decide +kernel
theorem dX7_in_14 : decode cX7_in 14 = .ok (.iconst 0, 1) := by decide +kernel
theorem dX7_in_15 : decode cX7_in 15 = .ok (.ireturn, 1) := by decide +kernel
theorem dX7_begins_0 : decode cX7_begins 0 = .ok (.iconst 0, 1) := by decide +kernel
theorem dX7_begins_1 : decode cX7_begins 1 = .ok (.istore_n 1, 1) := by decide +kernel
theorem dX7_begins_2 : decode cX7_begins 2 = .ok (.iload_n 1, 1) := by decide +kernel
theorem dX7_begins_3 : decode cX7_begins 3 = .ok (.sipush 599, 3) := by decide +kernel
theorem dX7_begins_6 : decode cX7_begins 6 = .ok (.if_icmp .ge 21, 3) := by decide +kernel
theorem dX7_begins_9 : decode cX7_begins 9 = .ok (.aload_n 0, 1) := by decide +kernel
theorem dX7_begins_10 : decode cX7_begins 10 = .ok (.getfield 13, 3) := by decide +kernel
theorem dX7_begins_13 : decode cX7_begins 13 = .ok (.iload_n 1, 1) := by decide +kernel
theorem dX7_begins_14 : decode cX7_begins 14 = .ok (.aload_n 0, 1) := by decide +kernel
theorem dX7_begins_15 : decode cX7_begins 15 = .ok (.getfield 7, 3) := by decide +kernel
theorem dX7_begins_18 : decode cX7_begins 18 = .ok (.iload_n 1, 1) := by decide +kernel
theorem dX7_begins_19 : decode cX7_begins 19 = .ok (.iaload, 1) := by decide +kernel
theorem dX7_begins_20 : decode cX7_begins 20 = .ok (.iastore, 1) := by decide +kernel
theorem dX7_begins_21 : decode cX7_begins 21 = .ok (.iinc 1 1, 3) := by decide +kernel
theorem dX7_begins_24 : decode cX7_begins 24 = .ok (.goto (-22), 3) := by decide +kernel
theorem dX7_begins_27 : decode cX7_begins 27 = .ok (.return_, 1) := by decide +kernel
theorem dX7_returns_0 : decode cX7_returns 0 = .ok (.iconst 0, 1) := by decide +kernel
theorem dX7_returns_1 : decode cX7_returns 1 = .ok (.istore_n 1, 1) := by decide +kernel
theorem dX7_returns_2 : decode cX7_returns 2 = .ok (.iload_n 1, 1) := by decide +kernel
theorem dX7_returns_3 : decode cX7_returns 3 = .ok (.sipush 599, 3) := by decide +kernel
theorem dX7_returns_6 : decode cX7_returns 6 = .ok (.if_icmp .ge 21, 3) := by decide +kernel
theorem dX7_returns_9 : decode cX7_returns 9 = .ok (.aload_n 0, 1) := by decide +kernel
theorem dX7_returns_10 : decode cX7_returns 10 = .ok (.getfield 7, 3) := by decide +kernel
theorem dX7_returns_13 : decode cX7_returns 13 = .ok (.iload_n 1, 1) := by decide +kernel
theorem dX7_returns_14 : decode cX7_returns 14 = .ok (.aload_n 0, 1) := by decide +kernel
theorem dX7_returns_15 : decode cX7_returns 15 = .ok (.getfield 13, 3) := by decide +kernel
theorem dX7_returns_18 : decode cX7_returns 18 = .ok (.iload_n 1, 1) := by decide +kernel
theorem dX7_returns_19 : decode cX7_returns 19 = .ok (.iaload, 1) := by decide +kernel
theorem dX7_returns_20 : decode cX7_returns 20 = .ok (.iastore, 1) := by decide +kernel
theorem dX7_returns_21 : decode cX7_returns 21 = .ok (.iinc 1 1, 3) := by decide +kernel
theorem dX7_returns_24 : decode cX7_returns 24 = .ok (.goto (-22), 3) := by decide +kernel
theorem dX7_returns_27 : decode cX7_returns 27 = .ok (.return_, 1) := by decide +kernel
set_option maxRecDepth 20000 in
theorem ggX7_acted_X7_returns : GoodIn wsX7_acted wsX7_returns := goodIn_r _ [8, 9, 3, 10, 11, 12, 13, 14, 15, 16, 17, 18, 19, 20, 21, 22, 23] (by decide +kernel) (by decide +kernel)
set_option maxRecDepth 20000 in
theorem gX7_acted_X7_returns : GoodIn wsX7_acted (wsV RX7 31 RX7 yX7_returns wsX7_returns) := goodIn_app (goodIn_of _ (by decide +kernel)) ggX7_acted_X7_returns
theorem dX7_acted_0 : decode cX7_acted 0 = .ok (.iload_n 1, 1) := by decide +kernel
theorem dX7_acted_1 : decode cX7_acted 1 = .ok (.ifCond .ge 9, 3) := by decide +kernel
theorem dX7_acted_4 : decode cX7_acted 4 = .ok (.aload_n 0, 1) := by decide +kernel
theorem dX7_acted_5 : decode cX7_acted 5 = .ok (.invokevirtual 31, 3) := by decide +kernel
theorem dX7_acted_8 : decode cX7_acted 8 = .ok (.iload_n 1, 1) := by decide +kernel
theorem dX7_acted_9 : decode cX7_acted 9 = .ok (.ireturn, 1) := by decide +kernel
theorem dX7_acted_10 : decode cX7_acted 10 = .ok (.aload_n 0, 1) := by decide +kernel
theorem dX7_acted_11 : decode cX7_acted 11 = .ok (.getfield 34, 3) := by decide +kernel
theorem dX7_acted_14 : decode cX7_acted 14 = .ok (.iconst 4, 1) := by decide +kernel
theorem dX7_acted_15 : decode cX7_acted 15 = .ok (.if_icmp .ne 44, 3) := by decide +kernel
theorem dX7_acted_18 : decode cX7_acted 18 = .ok (.iconst 0, 1) := by decide +kernel
theorem dX7_acted_19 : decode cX7_acted 19 = .ok (.istore_n 2, 1) := by decide +kernel
theorem dX7_acted_20 : decode cX7_acted 20 = .ok (.iload_n 2, 1) := by decide +kernel
theorem dX7_acted_21 : decode cX7_acted 21 = .ok (.sipush 1797, 3) := by decide +kernel
theorem dX7_acted_24 : decode cX7_acted 24 = .ok (.if_icmp .ge 25, 3) := by decide +kernel
theorem dX7_acted_27 : decode cX7_acted 27 = .ok (.aload_n 0, 1) := by decide +kernel
theorem dX7_acted_28 : decode cX7_acted 28 = .ok (.getfield 19, 3) := by decide +kernel
theorem dX7_acted_31 : decode cX7_acted 31 = .ok (.iload_n 2, 1) := by decide +kernel
theorem dX7_acted_32 : decode cX7_acted 32 = .ok (.aload_n 0, 1) := by decide +kernel
theorem dX7_acted_33 : decode cX7_acted 33 = .ok (.getfield 19, 3) := by decide +kernel
theorem dX7_acted_36 : decode cX7_acted 36 = .ok (.iload_n 2, 1) := by decide +kernel
theorem dX7_acted_37 : decode cX7_acted 37 = .ok (.sipush 599, 3) := by decide +kernel
theorem dX7_acted_40 : decode cX7_acted 40 = .ok (.iadd, 1) := by decide +kernel
theorem dX7_acted_41 : decode cX7_acted 41 = .ok (.iaload, 1) := by decide +kernel
theorem dX7_acted_42 : decode cX7_acted 42 = .ok (.iastore, 1) := by decide +kernel
theorem dX7_acted_43 : decode cX7_acted 43 = .ok (.iinc 2 1, 3) := by decide +kernel
theorem dX7_acted_46 : decode cX7_acted 46 = .ok (.goto (-26), 3) := by decide +kernel
theorem dX7_acted_49 : decode cX7_acted 49 = .ok (.aload_n 0, 1) := by decide +kernel
theorem dX7_acted_50 : decode cX7_acted 50 = .ok (.dup, 1) := by decide +kernel
theorem dX7_acted_51 : decode cX7_acted 51 = .ok (.getfield 34, 3) := by decide +kernel
theorem dX7_acted_54 : decode cX7_acted 54 = .ok (.iconst 1, 1) := by decide +kernel
theorem dX7_acted_55 : decode cX7_acted 55 = .ok (.isub, 1) := by decide +kernel
theorem dX7_acted_56 : decode cX7_acted 56 = .ok (.putfield 34, 3) := by decide +kernel
theorem dX7_acted_59 : decode cX7_acted 59 = .ok (.iconst 0, 1) := by decide +kernel
theorem dX7_acted_60 : decode cX7_acted 60 = .ok (.istore_n 2, 1) := by decide +kernel
theorem dX7_acted_61 : decode cX7_acted 61 = .ok (.iload_n 2, 1) := by decide +kernel
theorem dX7_acted_62 : decode cX7_acted 62 = .ok (.sipush 599, 3) := by decide +kernel
theorem dX7_acted_65 : decode cX7_acted 65 = .ok (.if_icmp .ge 30, 3) := by decide +kernel
theorem dX7_acted_68 : decode cX7_acted 68 = .ok (.aload_n 0, 1) := by decide +kernel
theorem dX7_acted_69 : decode cX7_acted 69 = .ok (.getfield 19, 3) := by decide +kernel
theorem dX7_acted_72 : decode cX7_acted 72 = .ok (.sipush 599, 3) := by decide +kernel
theorem dX7_acted_75 : decode cX7_acted 75 = .ok (.aload_n 0, 1) := by decide +kernel
theorem dX7_acted_76 : decode cX7_acted 76 = .ok (.getfield 34, 3) := by decide +kernel
theorem dX7_acted_79 : decode cX7_acted 79 = .ok (.imul, 1) := by decide +kernel
theorem dX7_acted_80 : decode cX7_acted 80 = .ok (.iload_n 2, 1) := by decide +kernel
theorem dX7_acted_81 : decode cX7_acted 81 = .ok (.iadd, 1) := by decide +kernel
theorem dX7_acted_82 : decode cX7_acted 82 = .ok (.aload_n 0, 1) := by decide +kernel
theorem dX7_acted_83 : decode cX7_acted 83 = .ok (.getfield 13, 3) := by decide +kernel
theorem dX7_acted_86 : decode cX7_acted 86 = .ok (.iload_n 2, 1) := by decide +kernel
theorem dX7_acted_87 : decode cX7_acted 87 = .ok (.iaload, 1) := by decide +kernel
theorem dX7_acted_88 : decode cX7_acted 88 = .ok (.iastore, 1) := by decide +kernel
theorem dX7_acted_89 : decode cX7_acted 89 = .ok (.iinc 2 1, 3) := by decide +kernel
theorem dX7_acted_92 : decode cX7_acted 92 = .ok (.goto (-31), 3) := by decide +kernel
theorem dX7_acted_95 : decode cX7_acted 95 = .ok (.aload_n 0, 1) := by decide +kernel
theorem dX7_acted_96 : decode cX7_acted 96 = .ok (.dup, 1) := by decide +kernel
theorem dX7_acted_97 : decode cX7_acted 97 = .ok (.getfield 34, 3) := by decide +kernel
theorem dX7_acted_100 : decode cX7_acted 100 = .ok (.iconst 1, 1) := by decide +kernel
theorem dX7_acted_101 : decode cX7_acted 101 = .ok (.iadd, 1) := by decide +kernel
theorem dX7_acted_102 : decode cX7_acted 102 = .ok (.putfield 34, 3) := by decide +kernel
theorem dX7_acted_105 : decode cX7_acted 105 = .ok (.iload_n 1, 1) := by decide +kernel
theorem dX7_acted_106 : decode cX7_acted 106 = .ok (.ireturn, 1) := by decide +kernel
theorem dX7_ofLot_0 : decode cX7_ofLot 0 = .ok (.aload_n 0, 1) := by decide +kernel
theorem dX7_ofLot_1 : decode cX7_ofLot 1 = .ok (.getfield 7, 3) := by decide +kernel
theorem dX7_ofLot_4 : decode cX7_ofLot 4 = .ok (.bipush 41, 2) := by decide +kernel
theorem dX7_ofLot_6 : decode cX7_ofLot 6 = .ok (.iconst 3, 1) := by decide +kernel
theorem dX7_ofLot_7 : decode cX7_ofLot 7 = .ok (.iload_n 1, 1) := by decide +kernel
theorem dX7_ofLot_8 : decode cX7_ofLot 8 = .ok (.imul, 1) := by decide +kernel
theorem dX7_ofLot_9 : decode cX7_ofLot 9 = .ok (.iadd, 1) := by decide +kernel
theorem dX7_ofLot_10 : decode cX7_ofLot 10 = .ok (.iload_n 2, 1) := by decide +kernel
theorem dX7_ofLot_11 : decode cX7_ofLot 11 = .ok (.iadd, 1) := by decide +kernel
theorem dX7_ofLot_12 : decode cX7_ofLot 12 = .ok (.iaload, 1) := by decide +kernel
theorem dX7_ofLot_13 : decode cX7_ofLot 13 = .ok (.ireturn, 1) := by decide +kernel
set_option maxRecDepth 20000 in
theorem ggX7_stock_X7_ofLot : GoodIn wsX7_stock wsX7_ofLot := goodIn_r _ [6, 1, 7, 8, 9, 10, 11, 12, 13, 14, 15, 16, 17, 18, 19, 20] (by decide +kernel) (by decide +kernel)
set_option maxRecDepth 20000 in
theorem gX7_stock_X7_ofLot : GoodIn wsX7_stock (wsV RX7 38 RX7 yX7_ofLot wsX7_ofLot) := goodIn_app (goodIn_of _ (by decide +kernel)) ggX7_stock_X7_ofLot
theorem dX7_stock_0 : decode cX7_stock 0 = .ok (.iconst 0, 1) := by decide +kernel
theorem dX7_stock_1 : decode cX7_stock 1 = .ok (.istore_n 2, 1) := by decide +kernel
theorem dX7_stock_2 : decode cX7_stock 2 = .ok (.iconst 0, 1) := by decide +kernel
theorem dX7_stock_3 : decode cX7_stock 3 = .ok (.istore_n 3, 1) := by decide +kernel
theorem dX7_stock_4 : decode cX7_stock 4 = .ok (.iload_n 3, 1) := by decide +kernel
theorem dX7_stock_5 : decode cX7_stock 5 = .ok (.aload_n 0, 1) := by decide +kernel
theorem dX7_stock_6 : decode cX7_stock 6 = .ok (.getfield 7, 3) := by decide +kernel
theorem dX7_stock_9 : decode cX7_stock 9 = .ok (.iconst 2, 1) := by decide +kernel
theorem dX7_stock_10 : decode cX7_stock 10 = .ok (.iaload, 1) := by decide +kernel
theorem dX7_stock_11 : decode cX7_stock 11 = .ok (.if_icmp .ge 32, 3) := by decide +kernel
theorem dX7_stock_14 : decode cX7_stock 14 = .ok (.iload_n 2, 1) := by decide +kernel
theorem dX7_stock_15 : decode cX7_stock 15 = .ok (.aload_n 0, 1) := by decide +kernel
theorem dX7_stock_16 : decode cX7_stock 16 = .ok (.iload_n 3, 1) := by decide +kernel
theorem dX7_stock_17 : decode cX7_stock 17 = .ok (.iconst 0, 1) := by decide +kernel
theorem dX7_stock_18 : decode cX7_stock 18 = .ok (.invokevirtual 38, 3) := by decide +kernel
theorem dX7_stock_21 : decode cX7_stock 21 = .ok (.iload_n 1, 1) := by decide +kernel
theorem dX7_stock_22 : decode cX7_stock 22 = .ok (.if_icmp .ne 12, 3) := by decide +kernel
theorem dX7_stock_25 : decode cX7_stock 25 = .ok (.aload_n 0, 1) := by decide +kernel
theorem dX7_stock_26 : decode cX7_stock 26 = .ok (.iload_n 3, 1) := by decide +kernel
theorem dX7_stock_27 : decode cX7_stock 27 = .ok (.iconst 1, 1) := by decide +kernel
theorem dX7_stock_28 : decode cX7_stock 28 = .ok (.invokevirtual 38, 3) := by decide +kernel
theorem dX7_stock_31 : decode cX7_stock 31 = .ok (.goto 4, 3) := by decide +kernel
theorem dX7_stock_34 : decode cX7_stock 34 = .ok (.iconst 0, 1) := by decide +kernel
theorem dX7_stock_35 : decode cX7_stock 35 = .ok (.iadd, 1) := by decide +kernel
theorem dX7_stock_36 : decode cX7_stock 36 = .ok (.istore_n 2, 1) := by decide +kernel
theorem dX7_stock_37 : decode cX7_stock 37 = .ok (.iinc 3 1, 3) := by decide +kernel
theorem dX7_stock_40 : decode cX7_stock 40 = .ok (.goto (-36), 3) := by decide +kernel
theorem dX7_stock_43 : decode cX7_stock 43 = .ok (.iload_n 2, 1) := by decide +kernel
theorem dX7_stock_44 : decode cX7_stock 44 = .ok (.ireturn, 1) := by decide +kernel
theorem dX7_removes_0 : decode cX7_removes 0 = .ok (.aload_n 0, 1) := by decide +kernel
theorem dX7_removes_1 : decode cX7_removes 1 = .ok (.getfield 7, 3) := by decide +kernel
theorem dX7_removes_4 : decode cX7_removes 4 = .ok (.iconst 2, 1) := by decide +kernel
theorem dX7_removes_5 : decode cX7_removes 5 = .ok (.dup2, 1) := by decide +kernel
theorem dX7_removes_6 : decode cX7_removes 6 = .ok (.iaload, 1) := by decide +kernel
theorem dX7_removes_7 : decode cX7_removes 7 = .ok (.iconst 1, 1) := by decide +kernel
theorem dX7_removes_8 : decode cX7_removes 8 = .ok (.isub, 1) := by decide +kernel
theorem dX7_removes_9 : decode cX7_removes 9 = .ok (.iastore, 1) := by decide +kernel
theorem dX7_removes_10 : decode cX7_removes 10 = .ok (.bipush 41, 2) := by decide +kernel
theorem dX7_removes_12 : decode cX7_removes 12 = .ok (.iconst 3, 1) := by decide +kernel
theorem dX7_removes_13 : decode cX7_removes 13 = .ok (.iload_n 1, 1) := by decide +kernel
theorem dX7_removes_14 : decode cX7_removes 14 = .ok (.imul, 1) := by decide +kernel
theorem dX7_removes_15 : decode cX7_removes 15 = .ok (.iadd, 1) := by decide +kernel
theorem dX7_removes_16 : decode cX7_removes 16 = .ok (.istore_n 2, 1) := by decide +kernel
theorem dX7_removes_17 : decode cX7_removes 17 = .ok (.iload_n 2, 1) := by decide +kernel
theorem dX7_removes_18 : decode cX7_removes 18 = .ok (.bipush 41, 2) := by decide +kernel
theorem dX7_removes_20 : decode cX7_removes 20 = .ok (.iconst 3, 1) := by decide +kernel
theorem dX7_removes_21 : decode cX7_removes 21 = .ok (.aload_n 0, 1) := by decide +kernel
theorem dX7_removes_22 : decode cX7_removes 22 = .ok (.getfield 7, 3) := by decide +kernel
theorem dX7_removes_25 : decode cX7_removes 25 = .ok (.iconst 2, 1) := by decide +kernel
theorem dX7_removes_26 : decode cX7_removes 26 = .ok (.iaload, 1) := by decide +kernel
theorem dX7_removes_27 : decode cX7_removes 27 = .ok (.imul, 1) := by decide +kernel
theorem dX7_removes_28 : decode cX7_removes 28 = .ok (.iadd, 1) := by decide +kernel
theorem dX7_removes_29 : decode cX7_removes 29 = .ok (.if_icmp .ge 23, 3) := by decide +kernel
theorem dX7_removes_32 : decode cX7_removes 32 = .ok (.aload_n 0, 1) := by decide +kernel
theorem dX7_removes_33 : decode cX7_removes 33 = .ok (.getfield 7, 3) := by decide +kernel
theorem dX7_removes_36 : decode cX7_removes 36 = .ok (.iload_n 2, 1) := by decide +kernel
theorem dX7_removes_37 : decode cX7_removes 37 = .ok (.aload_n 0, 1) := by decide +kernel
theorem dX7_removes_38 : decode cX7_removes 38 = .ok (.getfield 7, 3) := by decide +kernel
theorem dX7_removes_41 : decode cX7_removes 41 = .ok (.iload_n 2, 1) := by decide +kernel
theorem dX7_removes_42 : decode cX7_removes 42 = .ok (.iconst 3, 1) := by decide +kernel
theorem dX7_removes_43 : decode cX7_removes 43 = .ok (.iadd, 1) := by decide +kernel
theorem dX7_removes_44 : decode cX7_removes 44 = .ok (.iaload, 1) := by decide +kernel
theorem dX7_removes_45 : decode cX7_removes 45 = .ok (.iastore, 1) := by decide +kernel
theorem dX7_removes_46 : decode cX7_removes 46 = .ok (.iinc 2 1, 3) := by decide +kernel
theorem dX7_removes_49 : decode cX7_removes 49 = .ok (.goto (-32), 3) := by decide +kernel
theorem dX7_removes_52 : decode cX7_removes 52 = .ok (.iconst 0, 1) := by decide +kernel
theorem dX7_removes_53 : decode cX7_removes 53 = .ok (.istore_n 2, 1) := by decide +kernel
theorem dX7_removes_54 : decode cX7_removes 54 = .ok (.iload_n 2, 1) := by decide +kernel
theorem dX7_removes_55 : decode cX7_removes 55 = .ok (.iconst 3, 1) := by decide +kernel
theorem dX7_removes_56 : decode cX7_removes 56 = .ok (.if_icmp .ge 28, 3) := by decide +kernel
theorem dX7_removes_59 : decode cX7_removes 59 = .ok (.aload_n 0, 1) := by decide +kernel
theorem dX7_removes_60 : decode cX7_removes 60 = .ok (.getfield 7, 3) := by decide +kernel
theorem dX7_removes_63 : decode cX7_removes 63 = .ok (.bipush 41, 2) := by decide +kernel
theorem dX7_removes_65 : decode cX7_removes 65 = .ok (.iconst 3, 1) := by decide +kernel
theorem dX7_removes_66 : decode cX7_removes 66 = .ok (.aload_n 0, 1) := by decide +kernel
theorem dX7_removes_67 : decode cX7_removes 67 = .ok (.getfield 7, 3) := by decide +kernel
theorem dX7_removes_70 : decode cX7_removes 70 = .ok (.iconst 2, 1) := by decide +kernel
theorem dX7_removes_71 : decode cX7_removes 71 = .ok (.iaload, 1) := by decide +kernel
theorem dX7_removes_72 : decode cX7_removes 72 = .ok (.imul, 1) := by decide +kernel
theorem dX7_removes_73 : decode cX7_removes 73 = .ok (.iadd, 1) := by decide +kernel
theorem dX7_removes_74 : decode cX7_removes 74 = .ok (.iload_n 2, 1) := by decide +kernel
theorem dX7_removes_75 : decode cX7_removes 75 = .ok (.iadd, 1) := by decide +kernel
theorem dX7_removes_76 : decode cX7_removes 76 = .ok (.iconst 0, 1) := by decide +kernel
theorem dX7_removes_77 : decode cX7_removes 77 = .ok (.iastore, 1) := by decide +kernel
theorem dX7_removes_78 : decode cX7_removes 78 = .ok (.iinc 2 1, 3) := by decide +kernel
theorem dX7_removes_81 : decode cX7_removes 81 = .ok (.goto (-27), 3) := by decide +kernel
theorem dX7_removes_84 : decode cX7_removes 84 = .ok (.return_, 1) := by decide +kernel
set_option maxRecDepth 20000 in
theorem ggX7_comes_X7_ofLot : GoodIn wsX7_comes wsX7_ofLot := goodIn_r _ [6, 1, 7, 8, 9, 10, 11, 12, 13, 14, 15, 16, 17, 18, 19, 20] (by decide +kernel) (by decide +kernel)
set_option maxRecDepth 20000 in
theorem gX7_comes_X7_ofLot : GoodIn wsX7_comes (wsV RX7 38 RX7 yX7_ofLot wsX7_ofLot) := goodIn_app (goodIn_of _ (by decide +kernel)) ggX7_comes_X7_ofLot
theorem dX7_comes_0 : decode cX7_comes 0 = .ok (.aload_n 0, 1) := by decide +kernel
theorem dX7_comes_1 : decode cX7_comes 1 = .ok (.getfield 7, 3) := by decide +kernel
theorem dX7_comes_4 : decode cX7_comes 4 = .ok (.iconst 2, 1) := by decide +kernel
theorem dX7_comes_5 : decode cX7_comes 5 = .ok (.iaload, 1) := by decide +kernel
theorem dX7_comes_6 : decode cX7_comes 6 = .ok (.istore 4, 2) := by decide +kernel
theorem dX7_comes_8 : decode cX7_comes 8 = .ok (.iload 4, 2) := by decide +kernel
theorem dX7_comes_10 : decode cX7_comes 10 = .ok (.ifCond .le 62, 3) := by decide +kernel
theorem dX7_comes_13 : decode cX7_comes 13 = .ok (.aload_n 0, 1) := by decide +kernel
theorem dX7_comes_14 : decode cX7_comes 14 = .ok (.iload 4, 2) := by decide +kernel
theorem dX7_comes_16 : decode cX7_comes 16 = .ok (.iconst 1, 1) := by decide +kernel
theorem dX7_comes_17 : decode cX7_comes 17 = .ok (.isub, 1) := by decide +kernel
theorem dX7_comes_18 : decode cX7_comes 18 = .ok (.iconst 2, 1) := by decide +kernel
theorem dX7_comes_19 : decode cX7_comes 19 = .ok (.invokevirtual 38, 3) := by decide +kernel
theorem dX7_comes_22 : decode cX7_comes 22 = .ok (.iload_n 3, 1) := by decide +kernel
theorem dX7_comes_23 : decode cX7_comes 23 = .ok (.if_icmp .le 49, 3) := by decide +kernel
theorem dX7_comes_26 : decode cX7_comes 26 = .ok (.iconst 0, 1) := by decide +kernel
theorem dX7_comes_27 : decode cX7_comes 27 = .ok (.istore 5, 2) := by decide +kernel
theorem dX7_comes_29 : decode cX7_comes 29 = .ok (.iload 5, 2) := by decide +kernel
theorem dX7_comes_31 : decode cX7_comes 31 = .ok (.iconst 3, 1) := by decide +kernel
theorem dX7_comes_32 : decode cX7_comes 32 = .ok (.if_icmp .ge 34, 3) := by decide +kernel
theorem dX7_comes_35 : decode cX7_comes 35 = .ok (.aload_n 0, 1) := by decide +kernel
theorem dX7_comes_36 : decode cX7_comes 36 = .ok (.getfield 7, 3) := by decide +kernel
theorem dX7_comes_39 : decode cX7_comes 39 = .ok (.bipush 41, 2) := by decide +kernel
theorem dX7_comes_41 : decode cX7_comes 41 = .ok (.iconst 3, 1) := by decide +kernel
theorem dX7_comes_42 : decode cX7_comes 42 = .ok (.iload 4, 2) := by decide +kernel
theorem dX7_comes_44 : decode cX7_comes 44 = .ok (.imul, 1) := by decide +kernel
theorem dX7_comes_45 : decode cX7_comes 45 = .ok (.iadd, 1) := by decide +kernel
theorem dX7_comes_46 : decode cX7_comes 46 = .ok (.iload 5, 2) := by decide +kernel
theorem dX7_comes_48 : decode cX7_comes 48 = .ok (.iadd, 1) := by decide +kernel
theorem dX7_comes_49 : decode cX7_comes 49 = .ok (.aload_n 0, 1) := by decide +kernel
theorem dX7_comes_50 : decode cX7_comes 50 = .ok (.iload 4, 2) := by decide +kernel
theorem dX7_comes_52 : decode cX7_comes 52 = .ok (.iconst 1, 1) := by decide +kernel
theorem dX7_comes_53 : decode cX7_comes 53 = .ok (.isub, 1) := by decide +kernel
theorem dX7_comes_54 : decode cX7_comes 54 = .ok (.iload 5, 2) := by decide +kernel
theorem dX7_comes_56 : decode cX7_comes 56 = .ok (.invokevirtual 38, 3) := by decide +kernel
theorem dX7_comes_59 : decode cX7_comes 59 = .ok (.iastore, 1) := by decide +kernel
theorem dX7_comes_60 : decode cX7_comes 60 = .ok (.iinc 5 1, 3) := by decide +kernel
theorem dX7_comes_63 : decode cX7_comes 63 = .ok (.goto (-34), 3) := by decide +kernel
theorem dX7_comes_66 : decode cX7_comes 66 = .ok (.iinc 4 (-1), 3) := by decide +kernel
theorem dX7_comes_69 : decode cX7_comes 69 = .ok (.goto (-61), 3) := by decide +kernel
theorem dX7_comes_72 : decode cX7_comes 72 = .ok (.aload_n 0, 1) := by decide +kernel
theorem dX7_comes_73 : decode cX7_comes 73 = .ok (.getfield 7, 3) := by decide +kernel
theorem dX7_comes_76 : decode cX7_comes 76 = .ok (.bipush 41, 2) := by decide +kernel
theorem dX7_comes_78 : decode cX7_comes 78 = .ok (.iconst 3, 1) := by decide +kernel
theorem dX7_comes_79 : decode cX7_comes 79 = .ok (.iload 4, 2) := by decide +kernel
theorem dX7_comes_81 : decode cX7_comes 81 = .ok (.imul, 1) := by decide +kernel
theorem dX7_comes_82 : decode cX7_comes 82 = .ok (.iadd, 1) := by decide +kernel
theorem dX7_comes_83 : decode cX7_comes 83 = .ok (.iload_n 1, 1) := by decide +kernel
theorem dX7_comes_84 : decode cX7_comes 84 = .ok (.iastore, 1) := by decide +kernel
theorem dX7_comes_85 : decode cX7_comes 85 = .ok (.aload_n 0, 1) := by decide +kernel
theorem dX7_comes_86 : decode cX7_comes 86 = .ok (.getfield 7, 3) := by decide +kernel
theorem dX7_comes_89 : decode cX7_comes 89 = .ok (.bipush 41, 2) := by decide +kernel
theorem dX7_comes_91 : decode cX7_comes 91 = .ok (.iconst 3, 1) := by decide +kernel
theorem dX7_comes_92 : decode cX7_comes 92 = .ok (.iload 4, 2) := by decide +kernel
theorem dX7_comes_94 : decode cX7_comes 94 = .ok (.imul, 1) := by decide +kernel
theorem dX7_comes_95 : decode cX7_comes 95 = .ok (.iadd, 1) := by decide +kernel
theorem dX7_comes_96 : decode cX7_comes 96 = .ok (.iconst 1, 1) := by decide +kernel
theorem dX7_comes_97 : decode cX7_comes 97 = .ok (.iadd, 1) := by decide +kernel
theorem dX7_comes_98 : decode cX7_comes 98 = .ok (.iload_n 2, 1) := by decide +kernel
theorem dX7_comes_99 : decode cX7_comes 99 = .ok (.iastore, 1) := by decide +kernel
theorem dX7_comes_100 : decode cX7_comes 100 = .ok (.aload_n 0, 1) := by decide +kernel
theorem dX7_comes_101 : decode cX7_comes 101 = .ok (.getfield 7, 3) := by decide +kernel
theorem dX7_comes_104 : decode cX7_comes 104 = .ok (.bipush 41, 2) := by decide +kernel
theorem dX7_comes_106 : decode cX7_comes 106 = .ok (.iconst 3, 1) := by decide +kernel
theorem dX7_comes_107 : decode cX7_comes 107 = .ok (.iload 4, 2) := by decide +kernel
theorem dX7_comes_109 : decode cX7_comes 109 = .ok (.imul, 1) := by decide +kernel
theorem dX7_comes_110 : decode cX7_comes 110 = .ok (.iadd, 1) := by decide +kernel
theorem dX7_comes_111 : decode cX7_comes 111 = .ok (.iconst 2, 1) := by decide +kernel
theorem dX7_comes_112 : decode cX7_comes 112 = .ok (.iadd, 1) := by decide +kernel
theorem dX7_comes_113 : decode cX7_comes 113 = .ok (.iload_n 3, 1) := by decide +kernel
theorem dX7_comes_114 : decode cX7_comes 114 = .ok (.iastore, 1) := by decide +kernel
theorem dX7_comes_115 : decode cX7_comes 115 = .ok (.aload_n 0, 1) := by decide +kernel
theorem dX7_comes_116 : decode cX7_comes 116 = .ok (.getfield 7, 3) := by decide +kernel
theorem dX7_comes_119 : decode cX7_comes 119 = .ok (.iconst 2, 1) := by decide +kernel
theorem dX7_comes_120 : decode cX7_comes 120 = .ok (.dup2, 1) := by decide +kernel
theorem dX7_comes_121 : decode cX7_comes 121 = .ok (.iaload, 1) := by decide +kernel
theorem dX7_comes_122 : decode cX7_comes 122 = .ok (.iconst 1, 1) := by decide +kernel
theorem dX7_comes_123 : decode cX7_comes 123 = .ok (.iadd, 1) := by decide +kernel
theorem dX7_comes_124 : decode cX7_comes 124 = .ok (.iastore, 1) := by decide +kernel
theorem dX7_comes_125 : decode cX7_comes 125 = .ok (.aload_n 0, 1) := by decide +kernel
theorem dX7_comes_126 : decode cX7_comes 126 = .ok (.getfield 7, 3) := by decide +kernel
theorem dX7_comes_129 : decode cX7_comes 129 = .ok (.bipush 14, 2) := by decide +kernel
theorem dX7_comes_131 : decode cX7_comes 131 = .ok (.iload_n 1, 1) := by decide +kernel
theorem dX7_comes_132 : decode cX7_comes 132 = .ok (.iadd, 1) := by decide +kernel
theorem dX7_comes_133 : decode cX7_comes 133 = .ok (.dup2, 1) := by decide +kernel
theorem dX7_comes_134 : decode cX7_comes 134 = .ok (.iaload, 1) := by decide +kernel
theorem dX7_comes_135 : decode cX7_comes 135 = .ok (.iload_n 2, 1) := by decide +kernel
theorem dX7_comes_136 : decode cX7_comes 136 = .ok (.iadd, 1) := by decide +kernel
theorem dX7_comes_137 : decode cX7_comes 137 = .ok (.iastore, 1) := by decide +kernel
theorem dX7_comes_138 : decode cX7_comes 138 = .ok (.return_, 1) := by decide +kernel
set_option maxRecDepth 20000 in
theorem ggX7_firstOf_X7_ofLot : GoodIn wsX7_firstOf wsX7_ofLot := goodIn_r _ [6, 1, 7, 8, 9, 10, 11, 12, 13, 14, 15, 16, 17, 18, 19, 20] (by decide +kernel) (by decide +kernel)
set_option maxRecDepth 20000 in
theorem gX7_firstOf_X7_ofLot : GoodIn wsX7_firstOf (wsV RX7 38 RX7 yX7_ofLot wsX7_ofLot) := goodIn_app (goodIn_of _ (by decide +kernel)) ggX7_firstOf_X7_ofLot
theorem dX7_firstOf_0 : decode cX7_firstOf 0 = .ok (.iconst 0, 1) := by decide +kernel
theorem dX7_firstOf_1 : decode cX7_firstOf 1 = .ok (.istore_n 2, 1) := by decide +kernel
theorem dX7_firstOf_2 : decode cX7_firstOf 2 = .ok (.iload_n 2, 1) := by decide +kernel
theorem dX7_firstOf_3 : decode cX7_firstOf 3 = .ok (.aload_n 0, 1) := by decide +kernel
theorem dX7_firstOf_4 : decode cX7_firstOf 4 = .ok (.getfield 7, 3) := by decide +kernel
theorem dX7_firstOf_7 : decode cX7_firstOf 7 = .ok (.iconst 2, 1) := by decide +kernel
theorem dX7_firstOf_8 : decode cX7_firstOf 8 = .ok (.iaload, 1) := by decide +kernel
theorem dX7_firstOf_9 : decode cX7_firstOf 9 = .ok (.if_icmp .ge 19, 3) := by decide +kernel
theorem dX7_firstOf_12 : decode cX7_firstOf 12 = .ok (.aload_n 0, 1) := by decide +kernel
theorem dX7_firstOf_13 : decode cX7_firstOf 13 = .ok (.iload_n 2, 1) := by decide +kernel
theorem dX7_firstOf_14 : decode cX7_firstOf 14 = .ok (.iconst 0, 1) := by decide +kernel
theorem dX7_firstOf_15 : decode cX7_firstOf 15 = .ok (.invokevirtual 38, 3) := by decide +kernel
theorem dX7_firstOf_18 : decode cX7_firstOf 18 = .ok (.iload_n 1, 1) := by decide +kernel
theorem dX7_firstOf_19 : decode cX7_firstOf 19 = .ok (.if_icmp .eq 9, 3) := by decide +kernel
theorem dX7_firstOf_22 : decode cX7_firstOf 22 = .ok (.iinc 2 1, 3) := by decide +kernel
theorem dX7_firstOf_25 : decode cX7_firstOf 25 = .ok (.goto (-23), 3) := by decide +kernel
theorem dX7_firstOf_28 : decode cX7_firstOf 28 = .ok (.iload_n 2, 1) := by decide +kernel
theorem dX7_firstOf_29 : decode cX7_firstOf 29 = .ok (.ireturn, 1) := by decide +kernel
set_option maxRecDepth 20000 in
theorem ggX7_uses_X7_firstOf : GoodIn wsX7_uses wsX7_firstOf := goodIn_r _ [6, 1, 7, 8, 9, 5, 10, 15, 16, 17, 18, 19, 20, 21, 22, 23, 24, 25, 26, 27, 28] (by decide +kernel) (by decide +kernel)
set_option maxRecDepth 20000 in
theorem gX7_uses_X7_firstOf : GoodIn wsX7_uses (wsV RX7 42 RX7 yX7_firstOf wsX7_firstOf) := goodIn_app (goodIn_of _ (by decide +kernel)) ggX7_uses_X7_firstOf
set_option maxRecDepth 20000 in
theorem ggX7_uses_X7_ofLot : GoodIn wsX7_uses wsX7_ofLot := goodIn_r _ [10, 1, 15, 16, 17, 18, 19, 20, 21, 22, 23, 24, 25, 26, 27, 28] (by decide +kernel) (by decide +kernel)
set_option maxRecDepth 20000 in
theorem gX7_uses_X7_ofLot : GoodIn wsX7_uses (wsV RX7 38 RX7 yX7_ofLot wsX7_ofLot) := goodIn_app (goodIn_of _ (by decide +kernel)) ggX7_uses_X7_ofLot
set_option maxRecDepth 20000 in
theorem ggX7_uses_X7_removes : GoodIn wsX7_uses wsX7_removes := goodIn_r _ [14, 1, 15, 16, 17, 18, 19, 20, 21, 22, 23, 24, 25, 26, 27, 28] (by decide +kernel) (by decide +kernel)
set_option maxRecDepth 20000 in
theorem gX7_uses_X7_removes : GoodIn wsX7_uses (wsV RX7 46 RX7 yX7_removes wsX7_removes) := goodIn_app (goodIn_of _ (by decide +kernel)) ggX7_uses_X7_removes
theorem dX7_uses_0 : decode cX7_uses 0 = .ok (.iload_n 2, 1) := by decide +kernel
theorem dX7_uses_1 : decode cX7_uses 1 = .ok (.istore_n 3, 1) := by decide +kernel
theorem dX7_uses_2 : decode cX7_uses 2 = .ok (.aload_n 0, 1) := by decide +kernel
theorem dX7_uses_3 : decode cX7_uses 3 = .ok (.iload_n 1, 1) := by decide +kernel
theorem dX7_uses_4 : decode cX7_uses 4 = .ok (.invokevirtual 42, 3) := by decide +kernel
theorem dX7_uses_7 : decode cX7_uses 7 = .ok (.istore 4, 2) := by decide +kernel
theorem dX7_uses_9 : decode cX7_uses 9 = .ok (.iload_n 3, 1) := by decide +kernel
theorem dX7_uses_10 : decode cX7_uses 10 = .ok (.ifCond .le 88, 3) := by decide +kernel
theorem dX7_uses_13 : decode cX7_uses 13 = .ok (.iload 4, 2) := by decide +kernel
theorem dX7_uses_15 : decode cX7_uses 15 = .ok (.aload_n 0, 1) := by decide +kernel
theorem dX7_uses_16 : decode cX7_uses 16 = .ok (.getfield 7, 3) := by decide +kernel
theorem dX7_uses_19 : decode cX7_uses 19 = .ok (.iconst 2, 1) := by decide +kernel
theorem dX7_uses_20 : decode cX7_uses 20 = .ok (.iaload, 1) := by decide +kernel
theorem dX7_uses_21 : decode cX7_uses 21 = .ok (.if_icmp .ge 77, 3) := by decide +kernel
theorem dX7_uses_24 : decode cX7_uses 24 = .ok (.aload_n 0, 1) := by decide +kernel
theorem dX7_uses_25 : decode cX7_uses 25 = .ok (.iload 4, 2) := by decide +kernel
theorem dX7_uses_27 : decode cX7_uses 27 = .ok (.iconst 1, 1) := by decide +kernel
theorem dX7_uses_28 : decode cX7_uses 28 = .ok (.invokevirtual 38, 3) := by decide +kernel
theorem dX7_uses_31 : decode cX7_uses 31 = .ok (.iload_n 3, 1) := by decide +kernel
theorem dX7_uses_32 : decode cX7_uses 32 = .ok (.if_icmp .ge 13, 3) := by decide +kernel
theorem dX7_uses_35 : decode cX7_uses 35 = .ok (.aload_n 0, 1) := by decide +kernel
theorem dX7_uses_36 : decode cX7_uses 36 = .ok (.iload 4, 2) := by decide +kernel
theorem dX7_uses_38 : decode cX7_uses 38 = .ok (.iconst 1, 1) := by decide +kernel
theorem dX7_uses_39 : decode cX7_uses 39 = .ok (.invokevirtual 38, 3) := by decide +kernel
theorem dX7_uses_42 : decode cX7_uses 42 = .ok (.goto 4, 3) := by decide +kernel
theorem dX7_uses_45 : decode cX7_uses 45 = .ok (.iload_n 3, 1) := by decide +kernel
theorem dX7_uses_46 : decode cX7_uses 46 = .ok (.istore 5, 2) := by decide +kernel
theorem dX7_uses_48 : decode cX7_uses 48 = .ok (.aload_n 0, 1) := by decide +kernel
theorem dX7_uses_49 : decode cX7_uses 49 = .ok (.getfield 7, 3) := by decide +kernel
theorem dX7_uses_52 : decode cX7_uses 52 = .ok (.bipush 41, 2) := by decide +kernel
theorem dX7_uses_54 : decode cX7_uses 54 = .ok (.iconst 3, 1) := by decide +kernel
theorem dX7_uses_55 : decode cX7_uses 55 = .ok (.iload 4, 2) := by decide +kernel
theorem dX7_uses_57 : decode cX7_uses 57 = .ok (.imul, 1) := by decide +kernel
theorem dX7_uses_58 : decode cX7_uses 58 = .ok (.iadd, 1) := by decide +kernel
theorem dX7_uses_59 : decode cX7_uses 59 = .ok (.iconst 1, 1) := by decide +kernel
theorem dX7_uses_60 : decode cX7_uses 60 = .ok (.iadd, 1) := by decide +kernel
theorem dX7_uses_61 : decode cX7_uses 61 = .ok (.dup2, 1) := by decide +kernel
theorem dX7_uses_62 : decode cX7_uses 62 = .ok (.iaload, 1) := by decide +kernel
theorem dX7_uses_63 : decode cX7_uses 63 = .ok (.iload 5, 2) := by decide +kernel
theorem dX7_uses_65 : decode cX7_uses 65 = .ok (.isub, 1) := by decide +kernel
theorem dX7_uses_66 : decode cX7_uses 66 = .ok (.iastore, 1) := by decide +kernel
theorem dX7_uses_67 : decode cX7_uses 67 = .ok (.iload_n 3, 1) := by decide +kernel
theorem dX7_uses_68 : decode cX7_uses 68 = .ok (.iload 5, 2) := by decide +kernel
theorem dX7_uses_70 : decode cX7_uses 70 = .ok (.isub, 1) := by decide +kernel
theorem dX7_uses_71 : decode cX7_uses 71 = .ok (.istore_n 3, 1) := by decide +kernel
theorem dX7_uses_72 : decode cX7_uses 72 = .ok (.aload_n 0, 1) := by decide +kernel
theorem dX7_uses_73 : decode cX7_uses 73 = .ok (.iload 4, 2) := by decide +kernel
theorem dX7_uses_75 : decode cX7_uses 75 = .ok (.iconst 1, 1) := by decide +kernel
theorem dX7_uses_76 : decode cX7_uses 76 = .ok (.invokevirtual 38, 3) := by decide +kernel
theorem dX7_uses_79 : decode cX7_uses 79 = .ok (.ifCond .ne 9, 3) := by decide +kernel
theorem dX7_uses_82 : decode cX7_uses 82 = .ok (.aload_n 0, 1) := by decide +kernel
theorem dX7_uses_83 : decode cX7_uses 83 = .ok (.iload 4, 2) := by decide +kernel
theorem dX7_uses_85 : decode cX7_uses 85 = .ok (.invokevirtual 46, 3) := by decide +kernel
theorem dX7_uses_88 : decode cX7_uses 88 = .ok (.aload_n 0, 1) := by decide +kernel
theorem dX7_uses_89 : decode cX7_uses 89 = .ok (.iload_n 1, 1) := by decide +kernel
theorem dX7_uses_90 : decode cX7_uses 90 = .ok (.invokevirtual 42, 3) := by decide +kernel
theorem dX7_uses_93 : decode cX7_uses 93 = .ok (.istore 4, 2) := by decide +kernel
theorem dX7_uses_95 : decode cX7_uses 95 = .ok (.goto (-86), 3) := by decide +kernel
theorem dX7_uses_98 : decode cX7_uses 98 = .ok (.aload_n 0, 1) := by decide +kernel
theorem dX7_uses_99 : decode cX7_uses 99 = .ok (.getfield 7, 3) := by decide +kernel
theorem dX7_uses_102 : decode cX7_uses 102 = .ok (.bipush 17, 2) := by decide +kernel
theorem dX7_uses_104 : decode cX7_uses 104 = .ok (.iload_n 1, 1) := by decide +kernel
theorem dX7_uses_105 : decode cX7_uses 105 = .ok (.iadd, 1) := by decide +kernel
theorem dX7_uses_106 : decode cX7_uses 106 = .ok (.dup2, 1) := by decide +kernel
theorem dX7_uses_107 : decode cX7_uses 107 = .ok (.iaload, 1) := by decide +kernel
theorem dX7_uses_108 : decode cX7_uses 108 = .ok (.iload_n 2, 1) := by decide +kernel
theorem dX7_uses_109 : decode cX7_uses 109 = .ok (.iload_n 3, 1) := by decide +kernel
theorem dX7_uses_110 : decode cX7_uses 110 = .ok (.isub, 1) := by decide +kernel
theorem dX7_uses_111 : decode cX7_uses 111 = .ok (.iadd, 1) := by decide +kernel
theorem dX7_uses_112 : decode cX7_uses 112 = .ok (.iastore, 1) := by decide +kernel
theorem dX7_uses_113 : decode cX7_uses 113 = .ok (.iload_n 3, 1) := by decide +kernel
theorem dX7_uses_114 : decode cX7_uses 114 = .ok (.ireturn, 1) := by decide +kernel
set_option maxRecDepth 20000 in
theorem ggX7_spoils_X7_ofLot : GoodIn wsX7_spoils wsX7_ofLot := goodIn_r _ [6, 1, 11, 12, 13, 14, 15, 16, 17, 18, 19, 20, 21, 22, 23, 24] (by decide +kernel) (by decide +kernel)
set_option maxRecDepth 20000 in
theorem gX7_spoils_X7_ofLot : GoodIn wsX7_spoils (wsV RX7 38 RX7 yX7_ofLot wsX7_ofLot) := goodIn_app (goodIn_of _ (by decide +kernel)) ggX7_spoils_X7_ofLot
set_option maxRecDepth 20000 in
theorem ggX7_spoils_X7_removes : GoodIn wsX7_spoils wsX7_removes := goodIn_r _ [10, 1, 11, 12, 13, 14, 15, 16, 17, 18, 19, 20, 21, 22, 23, 24] (by decide +kernel) (by decide +kernel)
set_option maxRecDepth 20000 in
theorem gX7_spoils_X7_removes : GoodIn wsX7_spoils (wsV RX7 46 RX7 yX7_removes wsX7_removes) := goodIn_app (goodIn_of _ (by decide +kernel)) ggX7_spoils_X7_removes
theorem dX7_spoils_0 : decode cX7_spoils 0 = .ok (.aload_n 0, 1) := by decide +kernel
theorem dX7_spoils_1 : decode cX7_spoils 1 = .ok (.getfield 7, 3) := by decide +kernel
theorem dX7_spoils_4 : decode cX7_spoils 4 = .ok (.iconst 2, 1) := by decide +kernel
theorem dX7_spoils_5 : decode cX7_spoils 5 = .ok (.iaload, 1) := by decide +kernel
theorem dX7_spoils_6 : decode cX7_spoils 6 = .ok (.iconst 1, 1) := by decide +kernel
theorem dX7_spoils_7 : decode cX7_spoils 7 = .ok (.isub, 1) := by decide +kernel
theorem dX7_spoils_8 : decode cX7_spoils 8 = .ok (.istore_n 1, 1) := by decide +kernel
theorem dX7_spoils_9 : decode cX7_spoils 9 = .ok (.iload_n 1, 1) := by decide +kernel
theorem dX7_spoils_10 : decode cX7_spoils 10 = .ok (.ifCond .lt 52, 3) := by decide +kernel
theorem dX7_spoils_13 : decode cX7_spoils 13 = .ok (.aload_n 0, 1) := by decide +kernel
theorem dX7_spoils_14 : decode cX7_spoils 14 = .ok (.iload_n 1, 1) := by decide +kernel
theorem dX7_spoils_15 : decode cX7_spoils 15 = .ok (.iconst 2, 1) := by decide +kernel
theorem dX7_spoils_16 : decode cX7_spoils 16 = .ok (.invokevirtual 38, 3) := by decide +kernel
theorem dX7_spoils_19 : decode cX7_spoils 19 = .ok (.aload_n 0, 1) := by decide +kernel
theorem dX7_spoils_20 : decode cX7_spoils 20 = .ok (.getfield 7, 3) := by decide +kernel
theorem dX7_spoils_23 : decode cX7_spoils 23 = .ok (.iconst 0, 1) := by decide +kernel
theorem dX7_spoils_24 : decode cX7_spoils 24 = .ok (.iaload, 1) := by decide +kernel
theorem dX7_spoils_25 : decode cX7_spoils 25 = .ok (.if_icmp .ne 31, 3) := by decide +kernel
theorem dX7_spoils_28 : decode cX7_spoils 28 = .ok (.aload_n 0, 1) := by decide +kernel
theorem dX7_spoils_29 : decode cX7_spoils 29 = .ok (.getfield 7, 3) := by decide +kernel
theorem dX7_spoils_32 : decode cX7_spoils 32 = .ok (.bipush 20, 2) := by decide +kernel
theorem dX7_spoils_34 : decode cX7_spoils 34 = .ok (.aload_n 0, 1) := by decide +kernel
theorem dX7_spoils_35 : decode cX7_spoils 35 = .ok (.iload_n 1, 1) := by decide +kernel
theorem dX7_spoils_36 : decode cX7_spoils 36 = .ok (.iconst 0, 1) := by decide +kernel
theorem dX7_spoils_37 : decode cX7_spoils 37 = .ok (.invokevirtual 38, 3) := by decide +kernel
theorem dX7_spoils_40 : decode cX7_spoils 40 = .ok (.iadd, 1) := by decide +kernel
theorem dX7_spoils_41 : decode cX7_spoils 41 = .ok (.dup2, 1) := by decide +kernel
theorem dX7_spoils_42 : decode cX7_spoils 42 = .ok (.iaload, 1) := by decide +kernel
theorem dX7_spoils_43 : decode cX7_spoils 43 = .ok (.aload_n 0, 1) := by decide +kernel
theorem dX7_spoils_44 : decode cX7_spoils 44 = .ok (.iload_n 1, 1) := by decide +kernel
theorem dX7_spoils_45 : decode cX7_spoils 45 = .ok (.iconst 1, 1) := by decide +kernel
theorem dX7_spoils_46 : decode cX7_spoils 46 = .ok (.invokevirtual 38, 3) := by decide +kernel
theorem dX7_spoils_49 : decode cX7_spoils 49 = .ok (.iadd, 1) := by decide +kernel
theorem dX7_spoils_50 : decode cX7_spoils 50 = .ok (.iastore, 1) := by decide +kernel
theorem dX7_spoils_51 : decode cX7_spoils 51 = .ok (.aload_n 0, 1) := by decide +kernel
theorem dX7_spoils_52 : decode cX7_spoils 52 = .ok (.iload_n 1, 1) := by decide +kernel
theorem dX7_spoils_53 : decode cX7_spoils 53 = .ok (.invokevirtual 46, 3) := by decide +kernel
theorem dX7_spoils_56 : decode cX7_spoils 56 = .ok (.iinc 1 (-1), 3) := by decide +kernel
theorem dX7_spoils_59 : decode cX7_spoils 59 = .ok (.goto (-50), 3) := by decide +kernel
theorem dX7_spoils_62 : decode cX7_spoils 62 = .ok (.return_, 1) := by decide +kernel
theorem dX7_ofParty_0 : decode cX7_ofParty 0 = .ok (.aload_n 0, 1) := by decide +kernel
theorem dX7_ofParty_1 : decode cX7_ofParty 1 = .ok (.getfield 7, 3) := by decide +kernel
theorem dX7_ofParty_4 : decode cX7_ofParty 4 = .ok (.bipush 101, 2) := by decide +kernel
theorem dX7_ofParty_6 : decode cX7_ofParty 6 = .ok (.bipush 6, 2) := by decide +kernel
theorem dX7_ofParty_8 : decode cX7_ofParty 8 = .ok (.iload_n 1, 1) := by decide +kernel
theorem dX7_ofParty_9 : decode cX7_ofParty 9 = .ok (.imul, 1) := by decide +kernel
theorem dX7_ofParty_10 : decode cX7_ofParty 10 = .ok (.iadd, 1) := by decide +kernel
theorem dX7_ofParty_11 : decode cX7_ofParty 11 = .ok (.iload_n 2, 1) := by decide +kernel
theorem dX7_ofParty_12 : decode cX7_ofParty 12 = .ok (.iadd, 1) := by decide +kernel
theorem dX7_ofParty_13 : decode cX7_ofParty 13 = .ok (.iaload, 1) := by decide +kernel
theorem dX7_ofParty_14 : decode cX7_ofParty 14 = .ok (.ireturn, 1) := by decide +kernel
theorem dX7_setParty_0 : decode cX7_setParty 0 = .ok (.aload_n 0, 1) := by decide +kernel
theorem dX7_setParty_1 : decode cX7_setParty 1 = .ok (.getfield 7, 3) := by decide +kernel
theorem dX7_setParty_4 : decode cX7_setParty 4 = .ok (.bipush 101, 2) := by decide +kernel
theorem dX7_setParty_6 : decode cX7_setParty 6 = .ok (.bipush 6, 2) := by decide +kernel
theorem dX7_setParty_8 : decode cX7_setParty 8 = .ok (.iload_n 1, 1) := by decide +kernel
theorem dX7_setParty_9 : decode cX7_setParty 9 = .ok (.imul, 1) := by decide +kernel
theorem dX7_setParty_10 : decode cX7_setParty 10 = .ok (.iadd, 1) := by decide +kernel
theorem dX7_setParty_11 : decode cX7_setParty 11 = .ok (.iload_n 2, 1) := by decide +kernel
theorem dX7_setParty_12 : decode cX7_setParty 12 = .ok (.iadd, 1) := by decide +kernel
theorem dX7_setParty_13 : decode cX7_setParty 13 = .ok (.iload_n 3, 1) := by decide +kernel
theorem dX7_setParty_14 : decode cX7_setParty 14 = .ok (.iastore, 1) := by decide +kernel
theorem dX7_setParty_15 : decode cX7_setParty 15 = .ok (.return_, 1) := by decide +kernel
set_option maxRecDepth 20000 in
theorem ggX7_isParty_X7_in : GoodIn wsX7_isParty wsX7_in := goodIn_r _ [5] (by decide +kernel) (by decide +kernel)
set_option maxRecDepth 20000 in
theorem gX7_isParty_X7_in : GoodIn wsX7_isParty (va_wsS RX7 50 yX7_in wsX7_in) := goodIn_app (goodIn_of _ (by decide +kernel)) ggX7_isParty_X7_in
theorem dX7_isParty_0 : decode cX7_isParty 0 = .ok (.iload_n 1, 1) := by decide +kernel
theorem dX7_isParty_1 : decode cX7_isParty 1 = .ok (.iconst 0, 1) := by decide +kernel
theorem dX7_isParty_2 : decode cX7_isParty 2 = .ok (.aload_n 0, 1) := by decide +kernel
theorem dX7_isParty_3 : decode cX7_isParty 3 = .ok (.getfield 7, 3) := by decide +kernel
theorem dX7_isParty_6 : decode cX7_isParty 6 = .ok (.iconst 4, 1) := by decide +kernel
theorem dX7_isParty_7 : decode cX7_isParty 7 = .ok (.iaload, 1) := by decide +kernel
theorem dX7_isParty_8 : decode cX7_isParty 8 = .ok (.iconst 1, 1) := by decide +kernel
theorem dX7_isParty_9 : decode cX7_isParty 9 = .ok (.isub, 1) := by decide +kernel
theorem dX7_isParty_10 : decode cX7_isParty 10 = .ok (.invokestatic 50, 3) := by decide +kernel
theorem dX7_isParty_13 : decode cX7_isParty 13 = .ok (.ireturn, 1) := by decide +kernel
theorem dX7_isStorm_0 : decode cX7_isStorm 0 = .ok (.iload_n 1, 1) := by decide +kernel
theorem dX7_isStorm_1 : decode cX7_isStorm 1 = .ok (.sipush 396, 3) := by decide +kernel
theorem dX7_isStorm_4 : decode cX7_isStorm 4 = .ok (.if_icmp .ge 21, 3) := by decide +kernel
theorem dX7_isStorm_7 : decode cX7_isStorm 7 = .ok (.aload_n 0, 1) := by decide +kernel
theorem dX7_isStorm_8 : decode cX7_isStorm 8 = .ok (.getfield 7, 3) := by decide +kernel
