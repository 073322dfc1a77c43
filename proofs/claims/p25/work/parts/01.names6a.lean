set_option maxRecDepth 20000 in
theorem ggX6_fault_X3_run : GoodIn wsX6_fault wsX3_run := goodIn_r _ [11, 12, 13, 14, 15, 16, 17, 18, 19, 20, 21, 22, 23, 24, 25, 26, 27, 28, 29, 30, 31, 32, 33, 34, 35, 36, 37, 38, 39, 40, 41, 42, 43, 44, 45, 46, 47, 48, 49, 50, 51, 52, 53, 54, 55, 56, 57, 58, 59, 60, 61, 62, 63, 64, 65, 66, 67, 68, 69, 70, 71, 72, 73, 74, 75, 76, 77, 78, 79, 80, 81, 82, 83, 84, 85, 86, 87, 88, 89, 90, 91, 92, 93, 94, 95, 96, 97, 98, 99, 100, 101, 102, 10, 103, 104, 105, 106, 107, 108, 109, 110, 111, 112, 113, 114, 115, 116, 117, 118, 119, 120, 121, 122, 123, 124, 125, 126, 127, 128, 129, 130, 131, 132, 133, 134, 135, 136, 137, 138, 139, 140, 141, 142, 143, 144, 145, 146, 147, 148, 149, 150, 151, 152, 153, 154, 155, 156, 157, 158, 159, 160, 161, 162, 163, 164, 165, 166, 167, 168, 169, 170, 171, 172, 173, 174, 175, 176, 177, 178, 179, 180, 181, 182, 183, 184, 185, 186, 187, 188, 189, 190, 191, 192, 193, 194, 195, 196, 197, 198, 199, 200, 201, 202, 203, 204, 205, 206, 207, 208, 209, 210, 211, 212, 213, 214, 215, 216, 217, 218, 219, 220, 221, 222, 223, 224, 232, 233, 234, 235, 236, 237, 238, 239, 240, 241, 242, 243, 244, 245, 246, 247, 248, 249, 250, 251, 252, 253, 254, 255, 256, 257, 258, 259, 260, 261, 262, 263, 264, 265, 266, 267, 268, 269, 270] (by decide +kernel) (by decide +kernel)
set_option maxRecDepth 20000 in
theorem gX6_fault_X3_run : GoodIn wsX6_fault (wsV RX6 220 RX3 yX3_run wsX3_run) := goodIn_app (goodIn_of _ (by decide +kernel)) ggX6_fault_X3_run
theorem dX6_fault_0 : decode cX6_fault 0 = .ok (.iload_n 1, 1) := by decide +kernel
theorem dX6_fault_1 : decode cX6_fault 1 = .ok (.ifCond .lt 8, 3) := by decide +kernel
theorem dX6_fault_4 : decode cX6_fault 4 = .ok (.iload_n 1, 1) := by decide +kernel
theorem dX6_fault_5 : decode cX6_fault 5 = .ok (.iconst 2, 1) := by decide +kernel
theorem dX6_fault_6 : decode cX6_fault 6 = .ok (.if_icmp .le 5, 3) := by decide +kernel
theorem dX6_fault_9 : decode cX6_fault 9 = .ok (.iconst (-1), 1) := by decide +kernel
theorem dX6_fault_10 : decode cX6_fault 10 = .ok (.ireturn, 1) := by decide +kernel
theorem dX6_fault_11 : decode cX6_fault 11 = .ok (.aload_n 0, 1) := by decide +kernel
theorem dX6_fault_12 : decode cX6_fault 12 = .ok (.getfield 39, 3) := by decide +kernel
theorem dX6_fault_15 : decode cX6_fault 15 = .ok (.aload_n 0, 1) := by decide +kernel
theorem dX6_fault_16 : decode cX6_fault 16 = .ok (.getfield 32, 3) := by decide +kernel
theorem dX6_fault_19 : decode cX6_fault 19 = .ok (.aload_n 0, 1) := by decide +kernel
theorem dX6_fault_20 : decode cX6_fault 20 = .ok (.getfield 10, 3) := by decide +kernel
theorem dX6_fault_23 : decode cX6_fault 23 = .ok (.invokevirtual 220, 3) := by decide +kernel
theorem dX6_fault_26 : decode cX6_fault 26 = .ok (.aload_n 0, 1) := by decide +kernel
theorem dX6_fault_27 : decode cX6_fault 27 = .ok (.getfield 39, 3) := by decide +kernel
theorem dX6_fault_30 : decode cX6_fault 30 = .ok (.getfield 224, 3) := by decide +kernel
theorem dX6_fault_33 : decode cX6_fault 33 = .ok (.ifCond .ne 6, 3) := by decide +kernel
theorem dX6_fault_36 : decode cX6_fault 36 = .ok (.bipush (-4), 2) := by decide +kernel
theorem dX6_fault_38 : decode cX6_fault 38 = .ok (.ireturn, 1) := by decide +kernel
theorem dX6_fault_39 : decode cX6_fault 39 = .ok (.iload_n 1, 1) := by decide +kernel
theorem dX6_fault_40 : decode cX6_fault 40 = .ok (.ifCond .ne 11, 3) := by decide +kernel
theorem dX6_fault_43 : decode cX6_fault 43 = .ok (.aload_n 0, 1) := by decide +kernel
theorem dX6_fault_44 : decode cX6_fault 44 = .ok (.getfield 39, 3) := by decide +kernel
theorem dX6_fault_47 : decode cX6_fault 47 = .ok (.getfield 227, 3) := by decide +kernel
theorem dX6_fault_50 : decode cX6_fault 50 = .ok (.ireturn, 1) := by decide +kernel
theorem dX6_fault_51 : decode cX6_fault 51 = .ok (.iload_n 1, 1) := by decide +kernel
theorem dX6_fault_52 : decode cX6_fault 52 = .ok (.iconst 1, 1) := by decide +kernel
theorem dX6_fault_53 : decode cX6_fault 53 = .ok (.if_icmp .ne 11, 3) := by decide +kernel
theorem dX6_fault_56 : decode cX6_fault 56 = .ok (.aload_n 0, 1) := by decide +kernel
theorem dX6_fault_57 : decode cX6_fault 57 = .ok (.getfield 39, 3) := by decide +kernel
theorem dX6_fault_60 : decode cX6_fault 60 = .ok (.getfield 224, 3) := by decide +kernel
theorem dX6_fault_63 : decode cX6_fault 63 = .ok (.ireturn, 1) := by decide +kernel
theorem dX6_fault_64 : decode cX6_fault 64 = .ok (.aload_n 0, 1) := by decide +kernel
theorem dX6_fault_65 : decode cX6_fault 65 = .ok (.getfield 39, 3) := by decide +kernel
theorem dX6_fault_68 : decode cX6_fault 68 = .ok (.getfield 224, 3) := by decide +kernel
theorem dX6_fault_71 : decode cX6_fault 71 = .ok (.iconst 1, 1) := by decide +kernel
theorem dX6_fault_72 : decode cX6_fault 72 = .ok (.if_icmp .ne 8, 3) := by decide +kernel
theorem dX6_fault_75 : decode cX6_fault 75 = .ok (.bipush (-4), 2) := by decide +kernel
theorem dX6_fault_77 : decode cX6_fault 77 = .ok (.goto 10, 3) := by decide +kernel
theorem dX6_fault_80 : decode cX6_fault 80 = .ok (.aload_n 0, 1) := by decide +kernel
theorem dX6_fault_81 : decode cX6_fault 81 = .ok (.getfield 39, 3) := by decide +kernel
theorem dX6_fault_84 : decode cX6_fault 84 = .ok (.getfield 230, 3) := by decide +kernel
theorem dX6_fault_87 : decode cX6_fault 87 = .ok (.ireturn, 1) := by decide +kernel
set_option maxRecDepth 20000 in
theorem ggX6_play_X3_run : GoodIn wsX6_play wsX3_run := goodIn_r _ [12, 13, 14, 15, 16, 17, 18, 19, 20, 21, 22, 23, 24, 25, 26, 27, 28, 29, 30, 31, 32, 33, 34, 35, 36, 37, 38, 39, 40, 41, 42, 43, 44, 45, 46, 47, 48, 49, 50, 51, 52, 53, 54, 55, 56, 57, 58, 59, 60, 61, 62, 63, 64, 65, 66, 67, 68, 69, 70, 71, 72, 73, 74, 75, 76, 77, 78, 79, 80, 81, 82, 83, 84, 85, 86, 87, 88, 89, 90, 91, 92, 93, 94, 95, 96, 97, 98, 99, 100, 101, 102, 103, 11, 104, 105, 106, 107, 108, 109, 110, 111, 112, 113, 114, 115, 116, 117, 118, 119, 120, 121, 122, 123, 124, 125, 126, 127, 128, 129, 130, 131, 132, 133, 134, 135, 136, 137, 138, 139, 140, 141, 142, 143, 144, 145, 146, 147, 148, 149, 150, 151, 152, 153, 154, 155, 156, 157, 158, 159, 160, 161, 162, 163, 164, 165, 166, 167, 168, 169, 170, 171, 172, 173, 174, 175, 176, 177, 178, 179, 180, 181, 182, 183, 184, 185, 186, 187, 188, 189, 190, 191, 192, 193, 194, 195, 196, 197, 198, 199, 200, 201, 202, 203, 204, 205, 206, 207, 208, 209, 210, 211, 212, 213, 214, 215, 216, 217, 218, 219, 220, 221, 222, 223, 224, 225, 251, 252, 253, 254, 255, 256, 257, 258, 259, 260, 261, 262, 263, 264, 265, 266, 267, 268, 269, 270, 271, 272, 273, 274, 275, 276, 277, 278, 279, 280, 281, 282, 283, 284, 285, 286, 287, 288, 289] (by decide +kernel) (by decide +kernel)
set_option maxRecDepth 20000 in
theorem gX6_play_X3_run : GoodIn wsX6_play (wsV RX6 220 RX3 yX3_run wsX3_run) := goodIn_app (goodIn_of _ (by decide +kernel)) ggX6_play_X3_run
set_option maxRecDepth 20000 in
theorem ggX6_play_X0_prepare : GoodIn wsX6_play wsX0_prepare := goodIn_r _ [230, 231, 232, 233, 23, 24, 25, 26, 27, 28, 29, 30, 31, 32, 33, 34, 35, 36, 37, 38, 39, 40, 41, 42, 43, 44, 45, 46, 47, 48, 49, 50, 51, 52, 53, 54, 55, 56, 57, 58, 59, 60, 61, 62, 63, 64, 65, 66, 67, 68, 69, 70, 290, 291, 262, 263, 264, 265, 266, 267, 268, 269, 270, 271, 272, 273, 274, 275, 276, 277, 278, 279, 280, 281, 282, 283, 284, 285, 286, 287, 288, 289] (by decide +kernel) (by decide +kernel)
set_option maxRecDepth 20000 in
theorem gX6_play_X0_prepare : GoodIn wsX6_play (wsV RX6 47 RX0 yX0_prepare wsX0_prepare) := goodIn_app (goodIn_of _ (by decide +kernel)) ggX6_play_X0_prepare
set_option maxRecDepth 20000 in
theorem ggX6_play_X1_copyFrom : GoodIn wsX6_play wsX1_copyFrom := goodIn_r _ [26, 27, 28, 29, 30, 31, 32, 33, 34, 35, 36, 37, 38, 39, 40, 41, 42, 43, 44, 45, 46, 47, 48, 49, 50, 51, 52, 53, 54, 55, 56, 57, 58, 59, 60, 61, 62, 63, 64, 65, 66, 67, 68, 69, 70, 262, 263, 264, 265, 266, 267, 268, 269, 270, 271, 272, 273, 274, 275, 276, 277, 278, 279, 280, 281, 282, 283, 284, 285, 286, 287, 288, 289] (by decide +kernel) (by decide +kernel)
set_option maxRecDepth 20000 in
theorem gX6_play_X1_copyFrom : GoodIn wsX6_play (wsV RX6 197 RX1 yX1_copyFrom wsX1_copyFrom) := goodIn_app (goodIn_of _ (by decide +kernel)) ggX6_play_X1_copyFrom
set_option maxRecDepth 20000 in
theorem ggX6_play_X6_recorded : GoodIn wsX6_play wsX6_recorded := goodIn_r _ [239, 5, 240, 241, 242, 229, 243, 231, 232, 244, 245, 246, 247, 248, 249, 250, 290, 291] (by decide +kernel) (by decide +kernel)
set_option maxRecDepth 20000 in
theorem gX6_play_X6_recorded : GoodIn wsX6_play (wsV RX6 55 RX6 yX6_recorded wsX6_recorded) := goodIn_app (goodIn_of _ (by decide +kernel)) ggX6_play_X6_recorded
theorem dX6_play_0 : decode cX6_play 0 = .ok (.aload_n 0, 1) := by decide +kernel
theorem dX6_play_1 : decode cX6_play 1 = .ok (.getfield 39, 3) := by decide +kernel
theorem dX6_play_4 : decode cX6_play 4 = .ok (.aload_n 0, 1) := by decide +kernel
theorem dX6_play_5 : decode cX6_play 5 = .ok (.getfield 32, 3) := by decide +kernel
theorem dX6_play_8 : decode cX6_play 8 = .ok (.aload_n 0, 1) := by decide +kernel
theorem dX6_play_9 : decode cX6_play 9 = .ok (.getfield 10, 3) := by decide +kernel
theorem dX6_play_12 : decode cX6_play 12 = .ok (.invokevirtual 220, 3) := by decide +kernel
theorem dX6_play_15 : decode cX6_play 15 = .ok (.aload_n 0, 1) := by decide +kernel
theorem dX6_play_16 : decode cX6_play 16 = .ok (.getfield 39, 3) := by decide +kernel
theorem dX6_play_19 : decode cX6_play 19 = .ok (.getfield 224, 3) := by decide +kernel
theorem dX6_play_22 : decode cX6_play 22 = .ok (.ifCond .eq 6, 3) := by decide +kernel
theorem dX6_play_25 : decode cX6_play 25 = .ok (.bipush (-2), 2) := by decide +kernel
theorem dX6_play_27 : decode cX6_play 27 = .ok (.ireturn, 1) := by decide +kernel
theorem dX6_play_28 : decode cX6_play 28 = .ok (.aload_n 0, 1) := by decide +kernel
theorem dX6_play_29 : decode cX6_play 29 = .ok (.getfield 25, 3) := by decide +kernel
theorem dX6_play_32 : decode cX6_play 32 = .ok (.aload_n 0, 1) := by decide +kernel
theorem dX6_play_33 : decode cX6_play 33 = .ok (.getfield 10, 3) := by decide +kernel
theorem dX6_play_36 : decode cX6_play 36 = .ok (.invokevirtual 47, 3) := by decide +kernel
theorem dX6_play_39 : decode cX6_play 39 = .ok (.aload_n 0, 1) := by decide +kernel
theorem dX6_play_40 : decode cX6_play 40 = .ok (.getfield 10, 3) := by decide +kernel
theorem dX6_play_43 : decode cX6_play 43 = .ok (.aload_n 0, 1) := by decide +kernel
theorem dX6_play_44 : decode cX6_play 44 = .ok (.getfield 39, 3) := by decide +kernel
theorem dX6_play_47 : decode cX6_play 47 = .ok (.getfield 233, 3) := by decide +kernel
theorem dX6_play_50 : decode cX6_play 50 = .ok (.invokevirtual 197, 3) := by decide +kernel
theorem dX6_play_53 : decode cX6_play 53 = .ok (.aload_n 0, 1) := by decide +kernel
theorem dX6_play_54 : decode cX6_play 54 = .ok (.aload_n 0, 1) := by decide +kernel
theorem dX6_play_55 : decode cX6_play 55 = .ok (.getfield 39, 3) := by decide +kernel
theorem dX6_play_58 : decode cX6_play 58 = .ok (.getfield 236, 3) := by decide +kernel
theorem dX6_play_61 : decode cX6_play 61 = .ok (.invokevirtual 55, 3) := by decide +kernel
theorem dX6_play_64 : decode cX6_play 64 = .ok (.ireturn, 1) := by decide +kernel
set_option maxRecDepth 20000 in
theorem ggX6_recorded_X0_commit : GoodIn wsX6_recorded wsX0_commit := goodIn_r _ [6, 7, 8, 16, 17] (by decide +kernel) (by decide +kernel)
set_option maxRecDepth 20000 in
theorem gX6_recorded_X0_commit : GoodIn wsX6_recorded (wsV RX6 239 RX0 yX0_commit wsX0_commit) := goodIn_app (goodIn_of _ (by decide +kernel)) ggX6_recorded_X0_commit
theorem dX6_recorded_0 : decode cX6_recorded 0 = .ok (.iload_n 1, 1) := by decide +kernel
theorem dX6_recorded_1 : decode cX6_recorded 1 = .ok (.ifCond .lt 10, 3) := by decide +kernel
theorem dX6_recorded_4 : decode cX6_recorded 4 = .ok (.aload_n 0, 1) := by decide +kernel
theorem dX6_recorded_5 : decode cX6_recorded 5 = .ok (.getfield 25, 3) := by decide +kernel
theorem dX6_recorded_8 : decode cX6_recorded 8 = .ok (.invokevirtual 239, 3) := by decide +kernel
theorem dX6_recorded_11 : decode cX6_recorded 11 = .ok (.iload_n 1, 1) := by decide +kernel
theorem dX6_recorded_12 : decode cX6_recorded 12 = .ok (.ireturn, 1) := by decide +kernel
theorem dJ9_max_7cf53_0 : decode cJ9_max_7cf53 0 = .ok (.iload_n 0, 1) := by decide +kernel
theorem dJ9_max_7cf53_1 : decode cJ9_max_7cf53 1 = .ok (.iload_n 1, 1) := by decide +kernel
theorem dJ9_max_7cf53_2 : decode cJ9_max_7cf53 2 = .ok (.if_icmp .lt 7, 3) := by decide +kernel
theorem dJ9_max_7cf53_5 : decode cJ9_max_7cf53 5 = .ok (.iload_n 0, 1) := by decide +kernel
theorem dJ9_max_7cf53_6 : decode cJ9_max_7cf53 6 = .ok (.goto 4, 3) := by decide +kernel
theorem dJ9_max_7cf53_9 : decode cJ9_max_7cf53 9 = .ok (.iload_n 1, 1) := by decide +kernel
theorem dJ9_max_7cf53_10 : decode cJ9_max_7cf53 10 = .ok (.ireturn, 1) := by decide +kernel
theorem dJ9_min_7cf53_0 : decode cJ9_min_7cf53 0 = .ok (.iload_n 0, 1) := by decide +kernel
theorem dJ9_min_7cf53_1 : decode cJ9_min_7cf53 1 = .ok (.iload_n 1, 1) := by decide +kernel
theorem dJ9_min_7cf53_2 : decode cJ9_min_7cf53 2 = .ok (.if_icmp .gt 7, 3) := by decide +kernel
theorem dJ9_min_7cf53_5 : decode cJ9_min_7cf53 5 = .ok (.iload_n 0, 1) := by decide +kernel
theorem dJ9_min_7cf53_6 : decode cJ9_min_7cf53 6 = .ok (.goto 4, 3) := by decide +kernel
theorem dJ9_min_7cf53_9 : decode cJ9_min_7cf53 9 = .ok (.iload_n 1, 1) := by decide +kernel
theorem dJ9_min_7cf53_10 : decode cJ9_min_7cf53 10 = .ok (.ireturn, 1) := by decide +kernel
theorem dL_lot_0 : decode cL_lot 0 = .ok (.iload_n 1, 1) := by decide +kernel
theorem dL_lot_1 : decode cL_lot 1 = .ok (.aload_n 0, 1) := by decide +kernel
theorem dL_lot_2 : decode cL_lot 2 = .ok (.arraylength, 1) := by decide +kernel
theorem dL_lot_3 : decode cL_lot 3 = .ok (.if_icmp .ge 9, 3) := by decide +kernel
theorem dL_lot_6 : decode cL_lot 6 = .ok (.aload_n 0, 1) := by decide +kernel
theorem dL_lot_7 : decode cL_lot 7 = .ok (.iload_n 1, 1) := by decide +kernel
theorem dL_lot_8 : decode cL_lot 8 = .ok (.iaload, 1) := by decide +kernel
theorem dL_lot_9 : decode cL_lot 9 = .ok (.goto 15, 3) := by decide +kernel
theorem dL_lot_12 : decode cL_lot 12 = .ok (.ldc 7, 2) := by decide +kernel
theorem dL_lot_14 : decode cL_lot 14 = .ok (.iload_n 1, 1) := by decide +kernel
theorem dL_lot_15 : decode cL_lot 15 = .ok (.sipush 3041, 3) := by decide +kernel
theorem dL_lot_18 : decode cL_lot 18 = .ok (.iadd, 1) := by decide +kernel
theorem dL_lot_19 : decode cL_lot 19 = .ok (.imul, 1) := by decide +kernel
theorem dL_lot_20 : decode cL_lot 20 = .ok (.sipush 2801, 3) := by decide +kernel
theorem dL_lot_23 : decode cL_lot 23 = .ok (.iadd, 1) := by decide +kernel
theorem dL_lot_24 : decode cL_lot 24 = .ok (.ireturn, 1) := by decide +kernel
theorem dL_low_0 : decode cL_low 0 = .ok (.iload_n 0, 1) := by decide +kernel
theorem dL_low_1 : decode cL_low 1 = .ok (.ldc 8, 2) := by decide +kernel
theorem dL_low_3 : decode cL_low 3 = .ok (.iand, 1) := by decide +kernel
theorem dL_low_4 : decode cL_low 4 = .ok (.iload_n 1, 1) := by decide +kernel
theorem dL_low_5 : decode cL_low 5 = .ok (.irem, 1) := by decide +kernel
theorem dL_low_6 : decode cL_low 6 = .ok (.ireturn, 1) := by decide +kernel
set_option maxRecDepth 20000 in
theorem ggL_digest_X6_count : GoodIn wsL_digest wsX6_count := goodIn_r _ [7, 8, 9, 10, 11, 12, 13, 14, 15, 16, 17, 18, 19, 20, 21, 22, 23, 24, 25, 26, 27, 28, 29, 30, 31, 32, 33, 34, 35, 36, 37, 38, 39, 40, 41, 42, 43, 44, 45, 46, 47, 105, 106, 107, 108, 109, 110, 111, 112, 113, 114, 115, 116, 117, 118, 119, 120, 121, 122, 123, 124, 125, 126, 127, 128, 129, 130, 131, 132, 133, 134, 135, 136, 137, 138, 139, 140, 141, 142, 143, 144, 145, 146] (by decide +kernel) (by decide +kernel)
set_option maxRecDepth 20000 in
theorem gL_digest_X6_count : GoodIn wsL_digest (wsV RL 13 RX6 yX6_count wsX6_count) := goodIn_app (goodIn_of _ (by decide +kernel)) ggL_digest_X6_count
set_option maxRecDepth 20000 in
theorem ggL_digest_X6_storeOf : GoodIn wsL_digest wsX6_storeOf := goodIn_r _ [51, 8, 13, 52, 53, 54, 55, 56, 57, 58, 59, 60, 61, 62, 63, 64, 65, 66, 67, 68, 69, 70, 71, 72, 73, 74, 75, 76, 105, 106, 107, 108, 109, 110, 111, 112, 113, 114, 115, 116, 117, 118, 119, 120, 121, 129, 130, 131, 132, 133, 134, 135, 136, 137, 138, 139] (by decide +kernel) (by decide +kernel)
set_option maxRecDepth 20000 in
theorem gL_digest_X6_storeOf : GoodIn wsL_digest (wsV RL 19 RX6 yX6_storeOf wsX6_storeOf) := goodIn_app (goodIn_of _ (by decide +kernel)) ggL_digest_X6_storeOf
set_option maxRecDepth 20000 in
theorem ggL_digest_X6_lotOf : GoodIn wsL_digest wsX6_lotOf := goodIn_r _ [80, 8, 13, 81, 82, 55, 56, 57, 58, 83, 84, 85, 86, 63, 64, 105, 106, 107, 108, 109, 110, 111, 112, 113, 114, 115, 116, 117, 118, 119, 120, 121, 129, 130, 131, 132, 133, 134, 135, 136, 137, 138, 139] (by decide +kernel) (by decide +kernel)
set_option maxRecDepth 20000 in
theorem gL_digest_X6_lotOf : GoodIn wsL_digest (wsV RL 23 RX6 yX6_lotOf wsX6_lotOf) := goodIn_app (goodIn_of _ (by decide +kernel)) ggL_digest_X6_lotOf
set_option maxRecDepth 20000 in
theorem ggL_digest_X6_partyOf : GoodIn wsL_digest wsX6_partyOf := goodIn_r _ [90, 8, 9, 91, 92, 93, 94, 95, 96, 97, 98, 99, 100, 101, 102, 103, 27, 104, 29, 105, 106, 107, 108, 109, 110, 111, 112, 113, 114, 115, 116, 117, 118, 119, 120, 121, 122, 123, 124, 125, 126, 127, 128] (by decide +kernel) (by decide +kernel)
set_option maxRecDepth 20000 in
theorem gL_digest_X6_partyOf : GoodIn wsL_digest (wsV RL 27 RX6 yX6_partyOf wsX6_partyOf) := goodIn_app (goodIn_of _ (by decide +kernel)) ggL_digest_X6_partyOf
theorem dL_digest_0 : decode cL_digest 0 = .ok (.ldc2_w 9, 3) := by decide +kernel
theorem dL_digest_3 : decode cL_digest 3 = .ok (.lstore_n 1, 1) := by decide +kernel
theorem dL_digest_4 : decode cL_digest 4 = .ok (.iconst 0, 1) := by decide +kernel
theorem dL_digest_5 : decode cL_digest 5 = .ok (.istore_n 3, 1) := by decide +kernel
theorem dL_digest_6 : decode cL_digest 6 = .ok (.iload_n 3, 1) := by decide +kernel
theorem dL_digest_7 : decode cL_digest 7 = .ok (.bipush 24, 2) := by decide +kernel
theorem dL_digest_9 : decode cL_digest 9 = .ok (.if_icmp .ge 38, 3) := by decide +kernel
theorem dL_digest_12 : decode cL_digest 12 = .ok (.ldc2_w 11, 3) := by decide +kernel
theorem dL_digest_15 : decode cL_digest 15 = .ok (.lload_n 1, 1) := by decide +kernel
theorem dL_digest_16 : decode cL_digest 16 = .ok (.lmul, 1) := by decide +kernel
theorem dL_digest_17 : decode cL_digest 17 = .ok (.iload_n 3, 1) := by decide +kernel
theorem dL_digest_18 : decode cL_digest 18 = .ok (.bipush 11, 2) := by decide +kernel
theorem dL_digest_20 : decode cL_digest 20 = .ok (.if_icmp .le 13, 3) := by decide +kernel
theorem dL_digest_23 : decode cL_digest 23 = .ok (.iload_n 3, 1) := by decide +kernel
theorem dL_digest_24 : decode cL_digest 24 = .ok (.bipush 15, 2) := by decide +kernel
theorem dL_digest_26 : decode cL_digest 26 = .ok (.if_icmp .ge 7, 3) := by decide +kernel
theorem dL_digest_29 : decode cL_digest 29 = .ok (.iconst 0, 1) := by decide +kernel
theorem dL_digest_30 : decode cL_digest 30 = .ok (.goto 8, 3) := by decide +kernel
theorem dL_digest_33 : decode cL_digest 33 = .ok (.aload_n 0, 1) := by decide +kernel
theorem dL_digest_34 : decode cL_digest 34 = .ok (.iload_n 3, 1) := by decide +kernel
theorem dL_digest_35 : decode cL_digest 35 = .ok (.invokevirtual 13, 3) := by decide +kernel
theorem dL_digest_38 : decode cL_digest 38 = .ok (.i2l, 1) := by decide +kernel
theorem dL_digest_39 : decode cL_digest 39 = .ok (.ladd, 1) := by decide +kernel
theorem dL_digest_40 : decode cL_digest 40 = .ok (.lstore_n 1, 1) := by decide +kernel
theorem dL_digest_41 : decode cL_digest 41 = .ok (.iinc 3 1, 3) := by decide +kernel
theorem dL_digest_44 : decode cL_digest 44 = .ok (.goto (-38), 3) := by decide +kernel
theorem dL_digest_47 : decode cL_digest 47 = .ok (.iconst 0, 1) := by decide +kernel
theorem dL_digest_48 : decode cL_digest 48 = .ok (.istore_n 3, 1) := by decide +kernel
theorem dL_digest_49 : decode cL_digest 49 = .ok (.iload_n 3, 1) := by decide +kernel
theorem dL_digest_50 : decode cL_digest 50 = .ok (.bipush 18, 2) := by decide +kernel
theorem dL_digest_52 : decode cL_digest 52 = .ok (.if_icmp .ge 29, 3) := by decide +kernel
theorem dL_digest_55 : decode cL_digest 55 = .ok (.ldc2_w 11, 3) := by decide +kernel
theorem dL_digest_58 : decode cL_digest 58 = .ok (.lload_n 1, 1) := by decide +kernel
theorem dL_digest_59 : decode cL_digest 59 = .ok (.lmul, 1) := by decide +kernel
theorem dL_digest_60 : decode cL_digest 60 = .ok (.aload_n 0, 1) := by decide +kernel
theorem dL_digest_61 : decode cL_digest 61 = .ok (.iload_n 3, 1) := by decide +kernel
theorem dL_digest_62 : decode cL_digest 62 = .ok (.bipush 6, 2) := by decide +kernel
theorem dL_digest_64 : decode cL_digest 64 = .ok (.idiv, 1) := by decide +kernel
theorem dL_digest_65 : decode cL_digest 65 = .ok (.iload_n 3, 1) := by decide +kernel
theorem dL_digest_66 : decode cL_digest 66 = .ok (.bipush 6, 2) := by decide +kernel
theorem dL_digest_68 : decode cL_digest 68 = .ok (.irem, 1) := by decide +kernel
theorem dL_digest_69 : decode cL_digest 69 = .ok (.invokevirtual 19, 3) := by decide +kernel
theorem dL_digest_72 : decode cL_digest 72 = .ok (.i2l, 1) := by decide +kernel
theorem dL_digest_73 : decode cL_digest 73 = .ok (.ladd, 1) := by decide +kernel
theorem dL_digest_74 : decode cL_digest 74 = .ok (.lstore_n 1, 1) := by decide +kernel
theorem dL_digest_75 : decode cL_digest 75 = .ok (.iinc 3 1, 3) := by decide +kernel
theorem dL_digest_78 : decode cL_digest 78 = .ok (.goto (-29), 3) := by decide +kernel
theorem dL_digest_81 : decode cL_digest 81 = .ok (.iconst 0, 1) := by decide +kernel
theorem dL_digest_82 : decode cL_digest 82 = .ok (.istore_n 3, 1) := by decide +kernel
theorem dL_digest_83 : decode cL_digest 83 = .ok (.iload_n 3, 1) := by decide +kernel
theorem dL_digest_84 : decode cL_digest 84 = .ok (.bipush 120, 2) := by decide +kernel
theorem dL_digest_86 : decode cL_digest 86 = .ok (.if_icmp .ge 34, 3) := by decide +kernel
theorem dL_digest_89 : decode cL_digest 89 = .ok (.ldc2_w 11, 3) := by decide +kernel
theorem dL_digest_92 : decode cL_digest 92 = .ok (.lload_n 1, 1) := by decide +kernel
theorem dL_digest_93 : decode cL_digest 93 = .ok (.lmul, 1) := by decide +kernel
theorem dL_digest_94 : decode cL_digest 94 = .ok (.aload_n 0, 1) := by decide +kernel
theorem dL_digest_95 : decode cL_digest 95 = .ok (.iload_n 3, 1) := by decide +kernel
theorem dL_digest_96 : decode cL_digest 96 = .ok (.bipush 40, 2) := by decide +kernel
theorem dL_digest_98 : decode cL_digest 98 = .ok (.idiv, 1) := by decide +kernel
theorem dL_digest_99 : decode cL_digest 99 = .ok (.iload_n 3, 1) := by decide +kernel
theorem dL_digest_100 : decode cL_digest 100 = .ok (.iconst 2, 1) := by decide +kernel
theorem dL_digest_101 : decode cL_digest 101 = .ok (.idiv, 1) := by decide +kernel
theorem dL_digest_102 : decode cL_digest 102 = .ok (.bipush 20, 2) := by decide +kernel
theorem dL_digest_104 : decode cL_digest 104 = .ok (.irem, 1) := by decide +kernel
theorem dL_digest_105 : decode cL_digest 105 = .ok (.iload_n 3, 1) := by decide +kernel
theorem dL_digest_106 : decode cL_digest 106 = .ok (.iconst 2, 1) := by decide +kernel
theorem dL_digest_107 : decode cL_digest 107 = .ok (.irem, 1) := by decide +kernel
theorem dL_digest_108 : decode cL_digest 108 = .ok (.invokevirtual 23, 3) := by decide +kernel
theorem dL_digest_111 : decode cL_digest 111 = .ok (.i2l, 1) := by decide +kernel
theorem dL_digest_112 : decode cL_digest 112 = .ok (.ladd, 1) := by decide +kernel
theorem dL_digest_113 : decode cL_digest 113 = .ok (.lstore_n 1, 1) := by decide +kernel
theorem dL_digest_114 : decode cL_digest 114 = .ok (.iinc 3 1, 3) := by decide +kernel
theorem dL_digest_117 : decode cL_digest 117 = .ok (.goto (-34), 3) := by decide +kernel
theorem dL_digest_120 : decode cL_digest 120 = .ok (.iconst 0, 1) := by decide +kernel
theorem dL_digest_121 : decode cL_digest 121 = .ok (.istore_n 3, 1) := by decide +kernel
theorem dL_digest_122 : decode cL_digest 122 = .ok (.iload_n 3, 1) := by decide +kernel
theorem dL_digest_123 : decode cL_digest 123 = .ok (.aload_n 0, 1) := by decide +kernel
theorem dL_digest_124 : decode cL_digest 124 = .ok (.iconst 0, 1) := by decide +kernel
theorem dL_digest_125 : decode cL_digest 125 = .ok (.invokevirtual 13, 3) := by decide +kernel
theorem dL_digest_128 : decode cL_digest 128 = .ok (.bipush 7, 2) := by decide +kernel
theorem dL_digest_130 : decode cL_digest 130 = .ok (.imul, 1) := by decide +kernel
theorem dL_digest_131 : decode cL_digest 131 = .ok (.if_icmp .ge 29, 3) := by decide +kernel
theorem dL_digest_134 : decode cL_digest 134 = .ok (.ldc2_w 11, 3) := by decide +kernel
theorem dL_digest_137 : decode cL_digest 137 = .ok (.lload_n 1, 1) := by decide +kernel
theorem dL_digest_138 : decode cL_digest 138 = .ok (.lmul, 1) := by decide +kernel
theorem dL_digest_139 : decode cL_digest 139 = .ok (.aload_n 0, 1) := by decide +kernel
theorem dL_digest_140 : decode cL_digest 140 = .ok (.iload_n 3, 1) := by decide +kernel
theorem dL_digest_141 : decode cL_digest 141 = .ok (.bipush 7, 2) := by decide +kernel
theorem dL_digest_143 : decode cL_digest 143 = .ok (.idiv, 1) := by decide +kernel
theorem dL_digest_144 : decode cL_digest 144 = .ok (.iload_n 3, 1) := by decide +kernel
theorem dL_digest_145 : decode cL_digest 145 = .ok (.bipush 7, 2) := by decide +kernel
theorem dL_digest_147 : decode cL_digest 147 = .ok (.irem, 1) := by decide +kernel
theorem dL_digest_148 : decode cL_digest 148 = .ok (.invokevirtual 27, 3) := by decide +kernel
theorem dL_digest_151 : decode cL_digest 151 = .ok (.i2l, 1) := by decide +kernel
theorem dL_digest_152 : decode cL_digest 152 = .ok (.ladd, 1) := by decide +kernel
theorem dL_digest_153 : decode cL_digest 153 = .ok (.lstore_n 1, 1) := by decide +kernel
theorem dL_digest_154 : decode cL_digest 154 = .ok (.iinc 3 1, 3) := by decide +kernel
theorem dL_digest_157 : decode cL_digest 157 = .ok (.goto (-35), 3) := by decide +kernel
theorem dL_digest_160 : decode cL_digest 160 = .ok (.lload_n 1, 1) := by decide +kernel
theorem dL_digest_161 : decode cL_digest 161 = .ok (.lreturn, 1) := by decide +kernel
set_option maxRecDepth 20000 in
theorem ggL_holds_X6_count : GoodIn wsL_holds wsX6_count := goodIn_r _ [5, 6, 7, 8, 9, 10, 11, 12, 13, 14, 15, 16, 17, 18, 19, 20, 21, 22, 23, 24, 25, 26, 27, 28, 29, 30, 31, 32, 33, 34, 35, 36, 37, 38, 39, 40, 41, 42, 43, 44, 45, 200, 201, 202, 203, 204, 205, 206, 207, 208, 209, 210, 211, 212, 213, 214, 215, 216, 217, 218, 219, 220, 221, 222, 223, 224, 225, 226, 227, 228, 229, 230, 231, 232, 233, 234, 235, 236, 237, 238, 239, 240, 241] (by decide +kernel) (by decide +kernel)
set_option maxRecDepth 20000 in
theorem gL_holds_X6_count : GoodIn wsL_holds (wsV RL 13 RX6 yX6_count wsX6_count) := goodIn_app (goodIn_of _ (by decide +kernel)) ggL_holds_X6_count
set_option maxRecDepth 20000 in
theorem ggL_holds_X6_partyOf : GoodIn wsL_holds wsX6_partyOf := goodIn_r _ [49, 6, 7, 50, 51, 52, 53, 54, 55, 56, 57, 58, 59, 60, 61, 62, 25, 63, 27, 200, 201, 202, 203, 204, 205, 206, 207, 208, 209, 210, 211, 212, 213, 214, 215, 216, 217, 218, 219, 220, 221, 222, 223] (by decide +kernel) (by decide +kernel)
set_option maxRecDepth 20000 in
theorem gL_holds_X6_partyOf : GoodIn wsL_holds (wsV RL 27 RX6 yX6_partyOf wsX6_partyOf) := goodIn_app (goodIn_of _ (by decide +kernel)) ggL_holds_X6_partyOf
set_option maxRecDepth 20000 in
theorem ggL_holds_X6_goneOn : GoodIn wsL_holds wsX6_goneOn := goodIn_r _ [67, 6, 7, 68, 60, 61, 62, 25, 63, 27, 69, 70, 71, 72, 28, 73, 74, 75, 76, 37, 77, 78, 79, 40, 80, 81, 82, 83, 45, 39, 84, 85, 86, 87, 88, 89, 90, 91, 92, 93, 94, 95, 96, 97, 98, 99, 100, 101, 102, 103, 104, 105, 106, 107, 108, 109, 33, 110, 111, 112, 113, 114, 115, 116, 117, 118, 119, 120, 121, 122, 123, 124, 125, 58, 126, 127, 35, 36, 38, 128, 129, 130, 131, 132, 30, 31, 32, 133, 134, 135, 136, 137, 138, 139, 140, 141, 142, 143, 144, 145, 146, 147, 148, 149, 150, 151, 152, 153, 154, 155, 156, 157, 158, 159, 160, 161, 162, 163, 164, 165, 166, 167, 168, 200, 201, 202, 203, 204, 205, 206, 207, 208, 209, 210, 211, 212, 213, 214, 215, 216, 217, 218, 219, 220, 221, 222, 223, 224, 225, 226, 227, 228, 229, 230, 231, 232, 233, 234] (by decide +kernel) (by decide +kernel)
set_option maxRecDepth 20000 in
theorem gL_holds_X6_goneOn : GoodIn wsL_holds (wsV RL 32 RX6 yX6_goneOn wsX6_goneOn) := goodIn_app (goodIn_of _ (by decide +kernel)) ggL_holds_X6_goneOn
set_option maxRecDepth 20000 in
theorem ggL_holds_X6_storeOf : GoodIn wsL_holds wsX6_storeOf := goodIn_r _ [172, 6, 11, 173, 174, 175, 176, 177, 92, 178, 179, 138, 139, 140, 104, 94, 96, 180, 181, 182, 183, 184, 185, 186, 187, 105, 98, 99, 200, 201, 202, 203, 204, 205, 206, 207, 208, 209, 210, 211, 212, 213, 214, 215, 216, 224, 225, 226, 227, 228, 229, 230, 231, 232, 233, 234] (by decide +kernel) (by decide +kernel)
set_option maxRecDepth 20000 in
theorem gL_holds_X6_storeOf : GoodIn wsL_holds (wsV RL 19 RX6 yX6_storeOf wsX6_storeOf) := goodIn_app (goodIn_of _ (by decide +kernel)) ggL_holds_X6_storeOf
