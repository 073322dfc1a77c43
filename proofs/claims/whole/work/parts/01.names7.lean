theorem dX7_number_39 : decode cX7_number 39 = .ok (.aload_n 0, 1) := by decide +kernel
theorem dX7_number_40 : decode cX7_number 40 = .ok (.invokevirtual 169, 3) := by decide +kernel
theorem dX7_number_43 : decode cX7_number 43 = .ok (.ifCond .eq 32, 3) := by decide +kernel
theorem dX7_number_46 : decode cX7_number 46 = .ok (.bipush 10, 2) := by decide +kernel
theorem dX7_number_48 : decode cX7_number 48 = .ok (.iload_n 1, 1) := by decide +kernel
theorem dX7_number_49 : decode cX7_number 49 = .ok (.imul, 1) := by decide +kernel
theorem dX7_number_50 : decode cX7_number 50 = .ok (.aload_n 0, 1) := by decide +kernel
theorem dX7_number_51 : decode cX7_number 51 = .ok (.invokevirtual 163, 3) := by decide +kernel
theorem dX7_number_54 : decode cX7_number 54 = .ok (.iadd, 1) := by decide +kernel
theorem dX7_number_55 : decode cX7_number 55 = .ok (.bipush 48, 2) := by decide +kernel
theorem dX7_number_57 : decode cX7_number 57 = .ok (.isub, 1) := by decide +kernel
theorem dX7_number_58 : decode cX7_number 58 = .ok (.istore_n 1, 1) := by decide +kernel
theorem dX7_number_59 : decode cX7_number 59 = .ok (.aload_n 0, 1) := by decide +kernel
theorem dX7_number_60 : decode cX7_number 60 = .ok (.dup, 1) := by decide +kernel
theorem dX7_number_61 : decode cX7_number 61 = .ok (.getfield 160, 3) := by decide +kernel
theorem dX7_number_64 : decode cX7_number 64 = .ok (.iconst 1, 1) := by decide +kernel
theorem dX7_number_65 : decode cX7_number 65 = .ok (.iadd, 1) := by decide +kernel
theorem dX7_number_66 : decode cX7_number 66 = .ok (.putfield 160, 3) := by decide +kernel
theorem dX7_number_69 : decode cX7_number 69 = .ok (.iinc 2 1, 3) := by decide +kernel
theorem dX7_number_72 : decode cX7_number 72 = .ok (.goto (-45), 3) := by decide +kernel
theorem dX7_number_75 : decode cX7_number 75 = .ok (.iload_n 1, 1) := by decide +kernel
theorem dX7_number_76 : decode cX7_number 76 = .ok (.ireturn, 1) := by decide +kernel
theorem dX7_wants_0 : decode cX7_wants 0 = .ok (.iload_n 0, 1) := by decide +kernel
theorem dX7_wants_1 : decode cX7_wants 1 = .ok (.lookupswitch 57 #[(98, 51), (108, 51), (110, 55), (115, 53), (120, 55)], 51) := by decide +kernel
theorem dX7_wants_52 : decode cX7_wants 52 = .ok (.iconst 3, 1) := by decide +kernel
theorem dX7_wants_53 : decode cX7_wants 53 = .ok (.ireturn, 1) := by decide +kernel
theorem dX7_wants_54 : decode cX7_wants 54 = .ok (.iconst 2, 1) := by decide +kernel
theorem dX7_wants_55 : decode cX7_wants 55 = .ok (.ireturn, 1) := by decide +kernel
theorem dX7_wants_56 : decode cX7_wants 56 = .ok (.iconst 1, 1) := by decide +kernel
theorem dX7_wants_57 : decode cX7_wants 57 = .ok (.ireturn, 1) := by decide +kernel
theorem dX7_wants_58 : decode cX7_wants 58 = .ok (.iload_n 0, 1) := by decide +kernel
theorem dX7_wants_59 : decode cX7_wants 59 = .ok (.bipush 102, 2) := by decide +kernel
theorem dX7_wants_61 : decode cX7_wants 61 = .ok (.if_icmp .ne 7, 3) := by decide +kernel
theorem dX7_wants_64 : decode cX7_wants 64 = .ok (.iconst 0, 1) := by decide +kernel
theorem dX7_wants_65 : decode cX7_wants 65 = .ok (.goto 4, 3) := by decide +kernel
theorem dX7_wants_68 : decode cX7_wants 68 = .ok (.iconst (-1), 1) := by decide +kernel
theorem dX7_wants_69 : decode cX7_wants 69 = .ok (.ireturn, 1) := by decide +kernel
set_option maxRecDepth 20000 in
theorem ggX7_called_X7_loads : GoodIn wsX7_called wsX7_loads := goodIn_r _ [6, 7, 8, 9, 5, 10, 124, 125, 126, 127, 128, 129, 130, 131, 132, 133, 134, 135, 136, 137] (by decide +kernel) (by decide +kernel)
set_option maxRecDepth 20000 in
theorem gX7_called_X7_loads : GoodIn wsX7_called (wsV RX7 122 RX7 yX7_loads wsX7_loads) := goodIn_app (goodIn_of _ (by decide +kernel)) ggX7_called_X7_loads
set_option maxRecDepth 20000 in
theorem ggX7_called_X7_books : GoodIn wsX7_called wsX7_books := goodIn_r _ [14, 7, 8, 9, 5, 10, 15, 16, 17, 18, 19, 20, 21, 22, 23, 24, 25, 26, 27, 28, 29, 30, 31, 32, 33, 34, 35, 36, 37, 38, 39, 40, 41, 42, 43, 44, 45, 46, 47, 48, 49, 50, 51, 52, 53, 54, 55, 56, 57, 58, 59, 60, 61, 62, 63, 64, 65, 66, 67, 68, 69, 70, 71, 72, 73, 74, 75, 76, 77, 78, 79, 80, 81, 82, 83, 84, 85, 86, 87, 88, 89, 90, 91, 92, 93, 94, 95, 124, 125, 126, 127, 128, 129, 130, 131, 132, 133, 134, 135, 136, 137] (by decide +kernel) (by decide +kernel)
set_option maxRecDepth 20000 in
theorem gX7_called_X7_books : GoodIn wsX7_called (wsV RX7 132 RX7 yX7_books wsX7_books) := goodIn_app (goodIn_of _ (by decide +kernel)) ggX7_called_X7_books
set_option maxRecDepth 20000 in
theorem ggX7_called_X7_storms : GoodIn wsX7_called wsX7_storms := goodIn_r _ [99, 7, 8, 9, 5, 10, 100, 101, 102, 103, 124, 125, 126, 127, 128, 129, 130, 131, 132, 133, 134, 135, 136, 137] (by decide +kernel) (by decide +kernel)
set_option maxRecDepth 20000 in
theorem gX7_called_X7_storms : GoodIn wsX7_called (wsV RX7 138 RX7 yX7_storms wsX7_storms) := goodIn_app (goodIn_of _ (by decide +kernel)) ggX7_called_X7_storms
set_option maxRecDepth 20000 in
theorem ggX7_called_X7_cancels : GoodIn wsX7_called wsX7_cancels := goodIn_r _ [107, 108, 109, 110, 5, 111, 7, 8, 9, 10, 40, 41, 42, 43, 28, 29, 30, 31, 36, 37, 38, 39, 124, 125, 126, 127, 128, 129, 130, 131, 132, 133, 134, 135, 136, 137] (by decide +kernel) (by decide +kernel)
set_option maxRecDepth 20000 in
theorem gX7_called_X7_cancels : GoodIn wsX7_called (wsV RX7 135 RX7 yX7_cancels wsX7_cancels) := goodIn_app (goodIn_of _ (by decide +kernel)) ggX7_called_X7_cancels
set_option maxRecDepth 20000 in
theorem ggX7_called_X7_sleeps : GoodIn wsX7_called wsX7_sleeps := goodIn_r _ [115, 7, 8, 9, 5, 10, 44, 45, 46, 47, 48, 49, 50, 51, 52, 53, 54, 55, 40, 41, 42, 43, 28, 29, 30, 31, 56, 57, 58, 59, 60, 61, 62, 63, 64, 65, 66, 67, 68, 69, 70, 71, 72, 73, 74, 75, 76, 77, 78, 79, 80, 81, 82, 83, 84, 85, 86, 87, 88, 89, 90, 91, 92, 93, 94, 95, 124, 125, 126, 127, 128, 129, 130, 131, 132, 133, 134, 135, 136, 137] (by decide +kernel) (by decide +kernel)
set_option maxRecDepth 20000 in
theorem gX7_called_X7_sleeps : GoodIn wsX7_called (wsV RX7 141 RX7 yX7_sleeps wsX7_sleeps) := goodIn_app (goodIn_of _ (by decide +kernel)) ggX7_called_X7_sleeps
set_option maxRecDepth 20000 in
theorem ggX7_called_X7_flies : GoodIn wsX7_called wsX7_flies := goodIn_r _ [119, 7, 48, 49, 50, 5, 51, 120, 121, 122, 123, 72, 73, 74, 75, 124, 125, 126, 127, 128, 129, 130, 131, 132, 133, 134, 135, 136, 137] (by decide +kernel) (by decide +kernel)
set_option maxRecDepth 20000 in
theorem gX7_called_X7_flies : GoodIn wsX7_called (wsV RX7 129 RX7 yX7_flies wsX7_flies) := goodIn_app (goodIn_of _ (by decide +kernel)) ggX7_called_X7_flies
theorem dX7_called_0 : decode cX7_called 0 = .ok (.iload_n 1, 1) := by decide +kernel
theorem dX7_called_1 : decode cX7_called 1 = .ok (.lookupswitch 136 #[(98, 74), (108, 51), (110, 125), (115, 97), (120, 114)], 51) := by decide +kernel
theorem dX7_called_52 : decode cX7_called 52 = .ok (.aload_n 0, 1) := by decide +kernel
theorem dX7_called_53 : decode cX7_called 53 = .ok (.aload_n 0, 1) := by decide +kernel
theorem dX7_called_54 : decode cX7_called 54 = .ok (.getfield 28, 3) := by decide +kernel
theorem dX7_called_57 : decode cX7_called 57 = .ok (.iconst 0, 1) := by decide +kernel
theorem dX7_called_58 : decode cX7_called 58 = .ok (.iaload, 1) := by decide +kernel
theorem dX7_called_59 : decode cX7_called 59 = .ok (.aload_n 0, 1) := by decide +kernel
theorem dX7_called_60 : decode cX7_called 60 = .ok (.getfield 28, 3) := by decide +kernel
theorem dX7_called_63 : decode cX7_called 63 = .ok (.iconst 1, 1) := by decide +kernel
theorem dX7_called_64 : decode cX7_called 64 = .ok (.iaload, 1) := by decide +kernel
theorem dX7_called_65 : decode cX7_called 65 = .ok (.aload_n 0, 1) := by decide +kernel
theorem dX7_called_66 : decode cX7_called 66 = .ok (.getfield 28, 3) := by decide +kernel
theorem dX7_called_69 : decode cX7_called 69 = .ok (.iconst 2, 1) := by decide +kernel
theorem dX7_called_70 : decode cX7_called 70 = .ok (.iaload, 1) := by decide +kernel
theorem dX7_called_71 : decode cX7_called 71 = .ok (.invokevirtual 122, 3) := by decide +kernel
theorem dX7_called_74 : decode cX7_called 74 = .ok (.ireturn, 1) := by decide +kernel
theorem dX7_called_75 : decode cX7_called 75 = .ok (.aload_n 0, 1) := by decide +kernel
theorem dX7_called_76 : decode cX7_called 76 = .ok (.aload_n 0, 1) := by decide +kernel
theorem dX7_called_77 : decode cX7_called 77 = .ok (.getfield 28, 3) := by decide +kernel
theorem dX7_called_80 : decode cX7_called 80 = .ok (.iconst 0, 1) := by decide +kernel
theorem dX7_called_81 : decode cX7_called 81 = .ok (.iaload, 1) := by decide +kernel
theorem dX7_called_82 : decode cX7_called 82 = .ok (.aload_n 0, 1) := by decide +kernel
theorem dX7_called_83 : decode cX7_called 83 = .ok (.getfield 28, 3) := by decide +kernel
theorem dX7_called_86 : decode cX7_called 86 = .ok (.iconst 1, 1) := by decide +kernel
theorem dX7_called_87 : decode cX7_called 87 = .ok (.iaload, 1) := by decide +kernel
theorem dX7_called_88 : decode cX7_called 88 = .ok (.aload_n 0, 1) := by decide +kernel
theorem dX7_called_89 : decode cX7_called 89 = .ok (.getfield 28, 3) := by decide +kernel
theorem dX7_called_92 : decode cX7_called 92 = .ok (.iconst 2, 1) := by decide +kernel
theorem dX7_called_93 : decode cX7_called 93 = .ok (.iaload, 1) := by decide +kernel
theorem dX7_called_94 : decode cX7_called 94 = .ok (.invokevirtual 132, 3) := by decide +kernel
theorem dX7_called_97 : decode cX7_called 97 = .ok (.ireturn, 1) := by decide +kernel
theorem dX7_called_98 : decode cX7_called 98 = .ok (.aload_n 0, 1) := by decide +kernel
theorem dX7_called_99 : decode cX7_called 99 = .ok (.aload_n 0, 1) := by decide +kernel
theorem dX7_called_100 : decode cX7_called 100 = .ok (.getfield 28, 3) := by decide +kernel
theorem dX7_called_103 : decode cX7_called 103 = .ok (.iconst 0, 1) := by decide +kernel
theorem dX7_called_104 : decode cX7_called 104 = .ok (.iaload, 1) := by decide +kernel
theorem dX7_called_105 : decode cX7_called 105 = .ok (.aload_n 0, 1) := by decide +kernel
theorem dX7_called_106 : decode cX7_called 106 = .ok (.getfield 28, 3) := by decide +kernel
theorem dX7_called_109 : decode cX7_called 109 = .ok (.iconst 1, 1) := by decide +kernel
theorem dX7_called_110 : decode cX7_called 110 = .ok (.iaload, 1) := by decide +kernel
theorem dX7_called_111 : decode cX7_called 111 = .ok (.invokevirtual 138, 3) := by decide +kernel
theorem dX7_called_114 : decode cX7_called 114 = .ok (.ireturn, 1) := by decide +kernel
theorem dX7_called_115 : decode cX7_called 115 = .ok (.aload_n 0, 1) := by decide +kernel
theorem dX7_called_116 : decode cX7_called 116 = .ok (.aload_n 0, 1) := by decide +kernel
theorem dX7_called_117 : decode cX7_called 117 = .ok (.getfield 28, 3) := by decide +kernel
theorem dX7_called_120 : decode cX7_called 120 = .ok (.iconst 0, 1) := by decide +kernel
theorem dX7_called_121 : decode cX7_called 121 = .ok (.iaload, 1) := by decide +kernel
theorem dX7_called_122 : decode cX7_called 122 = .ok (.invokevirtual 135, 3) := by decide +kernel
theorem dX7_called_125 : decode cX7_called 125 = .ok (.ireturn, 1) := by decide +kernel
theorem dX7_called_126 : decode cX7_called 126 = .ok (.aload_n 0, 1) := by decide +kernel
theorem dX7_called_127 : decode cX7_called 127 = .ok (.aload_n 0, 1) := by decide +kernel
theorem dX7_called_128 : decode cX7_called 128 = .ok (.getfield 28, 3) := by decide +kernel
theorem dX7_called_131 : decode cX7_called 131 = .ok (.iconst 0, 1) := by decide +kernel
theorem dX7_called_132 : decode cX7_called 132 = .ok (.iaload, 1) := by decide +kernel
theorem dX7_called_133 : decode cX7_called 133 = .ok (.invokevirtual 141, 3) := by decide +kernel
theorem dX7_called_136 : decode cX7_called 136 = .ok (.ireturn, 1) := by decide +kernel
theorem dX7_called_137 : decode cX7_called 137 = .ok (.aload_n 0, 1) := by decide +kernel
theorem dX7_called_138 : decode cX7_called 138 = .ok (.invokevirtual 129, 3) := by decide +kernel
theorem dX7_called_141 : decode cX7_called 141 = .ok (.ireturn, 1) := by decide +kernel
set_option maxRecDepth 20000 in
theorem ggX7_does_X7_here : GoodIn wsX7_does wsX7_here := goodIn_r _ [11, 1, 3, 12, 153, 154, 155, 156, 157, 158, 159, 160, 161, 162, 163, 164, 165, 166] (by decide +kernel) (by decide +kernel)
set_option maxRecDepth 20000 in
theorem gX7_does_X7_here : GoodIn wsX7_does (wsV RX7 163 RX7 yX7_here wsX7_here) := goodIn_app (goodIn_of _ (by decide +kernel)) ggX7_does_X7_here
set_option maxRecDepth 20000 in
theorem ggX7_does_X7_wants : GoodIn wsX7_does wsX7_wants := goodIn_r _ [15] (by decide +kernel) (by decide +kernel)
set_option maxRecDepth 20000 in
theorem gX7_does_X7_wants : GoodIn wsX7_does (va_wsS RX7 175 yX7_wants wsX7_wants) := goodIn_app (goodIn_of _ (by decide +kernel)) ggX7_does_X7_wants
set_option maxRecDepth 20000 in
theorem ggX7_does_X7_takesSign : GoodIn wsX7_does wsX7_takesSign := goodIn_r _ [19, 4, 1, 7, 8, 9, 10, 11, 3, 12, 153, 154, 155, 156, 157, 158, 159, 160, 161, 162, 163, 164, 165, 166] (by decide +kernel) (by decide +kernel)
set_option maxRecDepth 20000 in
theorem gX7_does_X7_takesSign : GoodIn wsX7_does (wsV RX7 178 RX7 yX7_takesSign wsX7_takesSign) := goodIn_app (goodIn_of _ (by decide +kernel)) ggX7_does_X7_takesSign
set_option maxRecDepth 20000 in
theorem ggX7_does_X7_number : GoodIn wsX7_does wsX7_number := goodIn_r _ [23, 4, 1, 24, 25, 26, 10, 27, 7, 8, 9, 11, 3, 12, 28, 29, 30, 153, 154, 155, 156, 157, 158, 159, 160, 161, 162, 163, 164, 165, 166] (by decide +kernel) (by decide +kernel)
set_option maxRecDepth 20000 in
theorem gX7_does_X7_number : GoodIn wsX7_does (wsV RX7 181 RX7 yX7_number wsX7_number) := goodIn_app (goodIn_of _ (by decide +kernel)) ggX7_does_X7_number
set_option maxRecDepth 20000 in
theorem ggX7_does_X7_called : GoodIn wsX7_does wsX7_called := goodIn_r _ [34, 5, 35, 36, 37, 10, 38, 39, 28, 29, 30, 40, 41, 42, 43, 44, 45, 46, 47, 48, 49, 50, 51, 52, 53, 54, 55, 56, 57, 58, 59, 60, 61, 62, 63, 64, 65, 66, 67, 68, 69, 70, 71, 72, 73, 74, 75, 76, 77, 78, 79, 80, 81, 82, 83, 84, 85, 86, 87, 88, 89, 90, 91, 92, 93, 94, 95, 96, 97, 98, 99, 100, 101, 102, 103, 104, 105, 106, 107, 108, 109, 110, 111, 112, 113, 114, 115, 116, 117, 118, 119, 120, 121, 122, 123, 124, 125, 126, 127, 128, 129, 130, 131, 132, 133, 134, 135, 136, 137, 138, 139, 140, 141, 142, 143, 144, 145, 146, 147, 148, 149, 150, 151, 152, 153, 154, 155, 156, 157, 158, 159, 160, 161, 162, 163, 164, 165, 166] (by decide +kernel) (by decide +kernel)
set_option maxRecDepth 20000 in
theorem gX7_does_X7_called : GoodIn wsX7_does (wsV RX7 184 RX7 yX7_called wsX7_called) := goodIn_app (goodIn_of _ (by decide +kernel)) ggX7_does_X7_called
theorem dX7_does_0 : decode cX7_does 0 = .ok (.aload_n 0, 1) := by decide +kernel
theorem dX7_does_1 : decode cX7_does 1 = .ok (.iconst 0, 1) := by decide +kernel
theorem dX7_does_2 : decode cX7_does 2 = .ok (.putfield 160, 3) := by decide +kernel
theorem dX7_does_5 : decode cX7_does 5 = .ok (.aload_n 0, 1) := by decide +kernel
theorem dX7_does_6 : decode cX7_does 6 = .ok (.iconst 0, 1) := by decide +kernel
theorem dX7_does_7 : decode cX7_does 7 = .ok (.putfield 172, 3) := by decide +kernel
theorem dX7_does_10 : decode cX7_does 10 = .ok (.aload_n 0, 1) := by decide +kernel
theorem dX7_does_11 : decode cX7_does 11 = .ok (.getfield 160, 3) := by decide +kernel
theorem dX7_does_14 : decode cX7_does 14 = .ok (.aload_n 0, 1) := by decide +kernel
theorem dX7_does_15 : decode cX7_does 15 = .ok (.getfield 153, 3) := by decide +kernel
theorem dX7_does_18 : decode cX7_does 18 = .ok (.if_icmp .ge 141, 3) := by decide +kernel
theorem dX7_does_21 : decode cX7_does 21 = .ok (.aload_n 0, 1) := by decide +kernel
theorem dX7_does_22 : decode cX7_does 22 = .ok (.getfield 160, 3) := by decide +kernel
theorem dX7_does_25 : decode cX7_does 25 = .ok (.istore_n 1, 1) := by decide +kernel
theorem dX7_does_26 : decode cX7_does 26 = .ok (.aload_n 0, 1) := by decide +kernel
theorem dX7_does_27 : decode cX7_does 27 = .ok (.invokevirtual 163, 3) := by decide +kernel
theorem dX7_does_30 : decode cX7_does 30 = .ok (.istore_n 2, 1) := by decide +kernel
theorem dX7_does_31 : decode cX7_does 31 = .ok (.aload_n 0, 1) := by decide +kernel
theorem dX7_does_32 : decode cX7_does 32 = .ok (.iload_n 2, 1) := by decide +kernel
theorem dX7_does_33 : decode cX7_does 33 = .ok (.invokestatic 175, 3) := by decide +kernel
theorem dX7_does_36 : decode cX7_does 36 = .ok (.ifCond .lt 7, 3) := by decide +kernel
theorem dX7_does_39 : decode cX7_does 39 = .ok (.iconst 1, 1) := by decide +kernel
theorem dX7_does_40 : decode cX7_does 40 = .ok (.goto 4, 3) := by decide +kernel
theorem dX7_does_43 : decode cX7_does 43 = .ok (.iconst 0, 1) := by decide +kernel
theorem dX7_does_44 : decode cX7_does 44 = .ok (.putfield 166, 3) := by decide +kernel
theorem dX7_does_47 : decode cX7_does 47 = .ok (.aload_n 0, 1) := by decide +kernel
theorem dX7_does_48 : decode cX7_does 48 = .ok (.dup, 1) := by decide +kernel
theorem dX7_does_49 : decode cX7_does 49 = .ok (.getfield 160, 3) := by decide +kernel
theorem dX7_does_52 : decode cX7_does 52 = .ok (.aload_n 0, 1) := by decide +kernel
theorem dX7_does_53 : decode cX7_does 53 = .ok (.getfield 166, 3) := by decide +kernel
theorem dX7_does_56 : decode cX7_does 56 = .ok (.ifCond .eq 7, 3) := by decide +kernel
theorem dX7_does_59 : decode cX7_does 59 = .ok (.iconst 1, 1) := by decide +kernel
theorem dX7_does_60 : decode cX7_does 60 = .ok (.goto 4, 3) := by decide +kernel
theorem dX7_does_63 : decode cX7_does 63 = .ok (.iconst 0, 1) := by decide +kernel
theorem dX7_does_64 : decode cX7_does 64 = .ok (.iadd, 1) := by decide +kernel
theorem dX7_does_65 : decode cX7_does 65 = .ok (.putfield 160, 3) := by decide +kernel
theorem dX7_does_68 : decode cX7_does 68 = .ok (.iconst 0, 1) := by decide +kernel
theorem dX7_does_69 : decode cX7_does 69 = .ok (.istore_n 3, 1) := by decide +kernel
theorem dX7_does_70 : decode cX7_does 70 = .ok (.iload_n 3, 1) := by decide +kernel
theorem dX7_does_71 : decode cX7_does 71 = .ok (.iload_n 2, 1) := by decide +kernel
theorem dX7_does_72 : decode cX7_does 72 = .ok (.invokestatic 175, 3) := by decide +kernel
theorem dX7_does_75 : decode cX7_does 75 = .ok (.if_icmp .ge 29, 3) := by decide +kernel
theorem dX7_does_78 : decode cX7_does 78 = .ok (.iload_n 3, 1) := by decide +kernel
theorem dX7_does_79 : decode cX7_does 79 = .ok (.ifCond .le 9, 3) := by decide +kernel
theorem dX7_does_82 : decode cX7_does 82 = .ok (.aload_n 0, 1) := by decide +kernel
theorem dX7_does_83 : decode cX7_does 83 = .ok (.bipush 44, 2) := by decide +kernel
theorem dX7_does_85 : decode cX7_does 85 = .ok (.invokevirtual 178, 3) := by decide +kernel
theorem dX7_does_88 : decode cX7_does 88 = .ok (.aload_n 0, 1) := by decide +kernel
theorem dX7_does_89 : decode cX7_does 89 = .ok (.getfield 28, 3) := by decide +kernel
theorem dX7_does_92 : decode cX7_does 92 = .ok (.iload_n 3, 1) := by decide +kernel
theorem dX7_does_93 : decode cX7_does 93 = .ok (.aload_n 0, 1) := by decide +kernel
theorem dX7_does_94 : decode cX7_does 94 = .ok (.invokevirtual 181, 3) := by decide +kernel
theorem dX7_does_97 : decode cX7_does 97 = .ok (.iastore, 1) := by decide +kernel
theorem dX7_does_98 : decode cX7_does 98 = .ok (.iinc 3 1, 3) := by decide +kernel
theorem dX7_does_101 : decode cX7_does 101 = .ok (.goto (-31), 3) := by decide +kernel
theorem dX7_does_104 : decode cX7_does 104 = .ok (.aload_n 0, 1) := by decide +kernel
theorem dX7_does_105 : decode cX7_does 105 = .ok (.bipush 59, 2) := by decide +kernel
theorem dX7_does_107 : decode cX7_does 107 = .ok (.invokevirtual 178, 3) := by decide +kernel
theorem dX7_does_110 : decode cX7_does 110 = .ok (.aload_n 0, 1) := by decide +kernel
theorem dX7_does_111 : decode cX7_does 111 = .ok (.aload_n 0, 1) := by decide +kernel
theorem dX7_does_112 : decode cX7_does 112 = .ok (.getfield 166, 3) := by decide +kernel
theorem dX7_does_115 : decode cX7_does 115 = .ok (.ifCond .eq 11, 3) := by decide +kernel
theorem dX7_does_118 : decode cX7_does 118 = .ok (.aload_n 0, 1) := by decide +kernel
theorem dX7_does_119 : decode cX7_does 119 = .ok (.iload_n 2, 1) := by decide +kernel
theorem dX7_does_120 : decode cX7_does 120 = .ok (.invokevirtual 184, 3) := by decide +kernel
theorem dX7_does_123 : decode cX7_does 123 = .ok (.goto 4, 3) := by decide +kernel
theorem dX7_does_126 : decode cX7_does 126 = .ok (.iconst 0, 1) := by decide +kernel
theorem dX7_does_127 : decode cX7_does 127 = .ok (.putfield 187, 3) := by decide +kernel
theorem dX7_does_130 : decode cX7_does 130 = .ok (.aload_n 0, 1) := by decide +kernel
theorem dX7_does_131 : decode cX7_does 131 = .ok (.getfield 166, 3) := by decide +kernel
theorem dX7_does_134 : decode cX7_does 134 = .ok (.ifCond .eq 10, 3) := by decide +kernel
theorem dX7_does_137 : decode cX7_does 137 = .ok (.aload_n 0, 1) := by decide +kernel
theorem dX7_does_138 : decode cX7_does 138 = .ok (.getfield 187, 3) := by decide +kernel
theorem dX7_does_141 : decode cX7_does 141 = .ok (.ifCond .ge 5, 3) := by decide +kernel
theorem dX7_does_144 : decode cX7_does 144 = .ok (.iload_n 1, 1) := by decide +kernel
theorem dX7_does_145 : decode cX7_does 145 = .ok (.ireturn, 1) := by decide +kernel
theorem dX7_does_146 : decode cX7_does 146 = .ok (.aload_n 0, 1) := by decide +kernel
theorem dX7_does_147 : decode cX7_does 147 = .ok (.dup, 1) := by decide +kernel
theorem dX7_does_148 : decode cX7_does 148 = .ok (.getfield 172, 3) := by decide +kernel
theorem dX7_does_151 : decode cX7_does 151 = .ok (.iconst 1, 1) := by decide +kernel
theorem dX7_does_152 : decode cX7_does 152 = .ok (.iadd, 1) := by decide +kernel
theorem dX7_does_153 : decode cX7_does 153 = .ok (.putfield 172, 3) := by decide +kernel
theorem dX7_does_156 : decode cX7_does 156 = .ok (.goto (-146), 3) := by decide +kernel
theorem dX7_does_159 : decode cX7_does 159 = .ok (.iconst (-1), 1) := by decide +kernel
theorem dX7_does_160 : decode cX7_does 160 = .ok (.ireturn, 1) := by decide +kernel
set_option maxRecDepth 20000 in
theorem ggX7_fault_X7_in : GoodIn wsX7_fault wsX7_in := goodIn_r _ [6] (by decide +kernel) (by decide +kernel)
set_option maxRecDepth 20000 in
theorem gX7_fault_X7_in : GoodIn wsX7_fault (va_wsS RX7 50 yX7_in wsX7_in) := goodIn_app (goodIn_of _ (by decide +kernel)) ggX7_fault_X7_in
set_option maxRecDepth 20000 in
theorem ggX7_fault_X7_begins : GoodIn wsX7_fault wsX7_begins := goodIn_r _ [10, 11, 12, 166, 167, 168, 169, 170, 171, 172, 173, 174, 175, 176, 177, 178, 179] (by decide +kernel) (by decide +kernel)
set_option maxRecDepth 20000 in
theorem gX7_fault_X7_begins : GoodIn wsX7_fault (wsV RX7 119 RX7 yX7_begins wsX7_begins) := goodIn_app (goodIn_of _ (by decide +kernel)) ggX7_fault_X7_begins
set_option maxRecDepth 20000 in
theorem ggX7_fault_X7_does : GoodIn wsX7_fault wsX7_does := goodIn_r _ [16, 17, 18, 19, 1, 20, 2, 21, 22, 23, 5, 24, 25, 26, 27, 28, 29, 30, 31, 32, 33, 34, 35, 36, 37, 38, 39, 40, 3, 4, 6, 41, 42, 43, 44, 45, 46, 47, 48, 12, 49, 50, 51, 52, 53, 54, 55, 56, 57, 58, 59, 60, 61, 62, 63, 64, 65, 66, 67, 68, 69, 70, 71, 72, 73, 74, 75, 76, 77, 78, 79, 80, 81, 82, 83, 84, 85, 86, 87, 88, 89, 90, 91, 92, 93, 94, 95, 96, 97, 98, 99, 100, 101, 102, 103, 104, 105, 106, 107, 108, 109, 110, 111, 112, 113, 114, 115, 116, 117, 118, 119, 120, 121, 122, 123, 124, 125, 126, 127, 128, 129, 130, 131, 132, 133, 134, 135, 136, 137, 138, 139, 140, 141, 142, 143, 144, 145, 146, 147, 148, 149, 150, 151, 152, 153, 154, 155, 156, 157, 158, 159, 160, 161, 166, 167, 168, 169, 170, 171, 172, 173, 174, 175, 176, 177, 178, 179] (by decide +kernel) (by decide +kernel)
set_option maxRecDepth 20000 in
theorem gX7_fault_X7_does : GoodIn wsX7_fault (wsV RX7 190 RX7 yX7_does wsX7_does) := goodIn_app (goodIn_of _ (by decide +kernel)) ggX7_fault_X7_does
set_option maxRecDepth 20000 in
theorem ggX7_fault_X7_returns : GoodIn wsX7_fault wsX7_returns := goodIn_r _ [165, 12, 11, 166, 167, 168, 169, 170, 171, 172, 173, 174, 175, 176, 177, 178, 179] (by decide +kernel) (by decide +kernel)
set_option maxRecDepth 20000 in
theorem gX7_fault_X7_returns : GoodIn wsX7_fault (wsV RX7 31 RX7 yX7_returns wsX7_returns) := goodIn_app (goodIn_of _ (by decide +kernel)) ggX7_fault_X7_returns
theorem dX7_fault_0 : decode cX7_fault 0 = .ok (.iload_n 1, 1) := by decide +kernel
theorem dX7_fault_1 : decode cX7_fault 1 = .ok (.iconst 0, 1) := by decide +kernel
theorem dX7_fault_2 : decode cX7_fault 2 = .ok (.iconst 2, 1) := by decide +kernel
theorem dX7_fault_3 : decode cX7_fault 3 = .ok (.invokestatic 50, 3) := by decide +kernel
theorem dX7_fault_6 : decode cX7_fault 6 = .ok (.ifCond .ne 5, 3) := by decide +kernel
theorem dX7_fault_9 : decode cX7_fault 9 = .ok (.iconst (-1), 1) := by decide +kernel
theorem dX7_fault_10 : decode cX7_fault 10 = .ok (.ireturn, 1) := by decide +kernel
theorem dX7_fault_11 : decode cX7_fault 11 = .ok (.aload_n 0, 1) := by decide +kernel
theorem dX7_fault_12 : decode cX7_fault 12 = .ok (.invokevirtual 119, 3) := by decide +kernel
theorem dX7_fault_15 : decode cX7_fault 15 = .ok (.aload_n 0, 1) := by decide +kernel
theorem dX7_fault_16 : decode cX7_fault 16 = .ok (.invokevirtual 190, 3) := by decide +kernel
theorem dX7_fault_19 : decode cX7_fault 19 = .ok (.istore_n 2, 1) := by decide +kernel
theorem dX7_fault_20 : decode cX7_fault 20 = .ok (.aload_n 0, 1) := by decide +kernel
theorem dX7_fault_21 : decode cX7_fault 21 = .ok (.invokevirtual 31, 3) := by decide +kernel
theorem dX7_fault_24 : decode cX7_fault 24 = .ok (.iload_n 2, 1) := by decide +kernel
theorem dX7_fault_25 : decode cX7_fault 25 = .ok (.ifCond .lt 19, 3) := by decide +kernel
theorem dX7_fault_28 : decode cX7_fault 28 = .ok (.iload_n 1, 1) := by decide +kernel
theorem dX7_fault_29 : decode cX7_fault 29 = .ok (.iconst 2, 1) := by decide +kernel
theorem dX7_fault_30 : decode cX7_fault 30 = .ok (.if_icmp .lt 10, 3) := by decide +kernel
theorem dX7_fault_33 : decode cX7_fault 33 = .ok (.aload_n 0, 1) := by decide +kernel
theorem dX7_fault_34 : decode cX7_fault 34 = .ok (.getfield 166, 3) := by decide +kernel
theorem dX7_fault_37 : decode cX7_fault 37 = .ok (.ifCond .eq 7, 3) := by decide +kernel
theorem dX7_fault_40 : decode cX7_fault 40 = .ok (.iconst 1, 1) := by decide +kernel
theorem dX7_fault_41 : decode cX7_fault 41 = .ok (.goto 4, 3) := by decide +kernel
theorem dX7_fault_44 : decode cX7_fault 44 = .ok (.iconst 0, 1) := by decide +kernel
theorem dX7_fault_45 : decode cX7_fault 45 = .ok (.istore_n 3, 1) := by decide +kernel
theorem dX7_fault_46 : decode cX7_fault 46 = .ok (.iload_n 3, 1) := by decide +kernel
theorem dX7_fault_47 : decode cX7_fault 47 = .ok (.ifCond .ne 8, 3) := by decide +kernel
theorem dX7_fault_50 : decode cX7_fault 50 = .ok (.bipush (-4), 2) := by decide +kernel
theorem dX7_fault_52 : decode cX7_fault 52 = .ok (.goto 35, 3) := by decide +kernel
theorem dX7_fault_55 : decode cX7_fault 55 = .ok (.iload_n 1, 1) := by decide +kernel
theorem dX7_fault_56 : decode cX7_fault 56 = .ok (.ifCond .ne 7, 3) := by decide +kernel
theorem dX7_fault_59 : decode cX7_fault 59 = .ok (.iload_n 2, 1) := by decide +kernel
theorem dX7_fault_60 : decode cX7_fault 60 = .ok (.goto 27, 3) := by decide +kernel
theorem dX7_fault_63 : decode cX7_fault 63 = .ok (.iload_n 1, 1) := by decide +kernel
theorem dX7_fault_64 : decode cX7_fault 64 = .ok (.iconst 1, 1) := by decide +kernel
theorem dX7_fault_65 : decode cX7_fault 65 = .ok (.if_icmp .ne 18, 3) := by decide +kernel
theorem dX7_fault_68 : decode cX7_fault 68 = .ok (.aload_n 0, 1) := by decide +kernel
theorem dX7_fault_69 : decode cX7_fault 69 = .ok (.getfield 166, 3) := by decide +kernel
theorem dX7_fault_72 : decode cX7_fault 72 = .ok (.ifCond .eq 7, 3) := by decide +kernel
theorem dX7_fault_75 : decode cX7_fault 75 = .ok (.iconst 2, 1) := by decide +kernel
theorem dX7_fault_76 : decode cX7_fault 76 = .ok (.goto 11, 3) := by decide +kernel
theorem dX7_fault_79 : decode cX7_fault 79 = .ok (.iconst 1, 1) := by decide +kernel
theorem dX7_fault_80 : decode cX7_fault 80 = .ok (.goto 7, 3) := by decide +kernel
theorem dX7_fault_83 : decode cX7_fault 83 = .ok (.aload_n 0, 1) := by decide +kernel
theorem dX7_fault_84 : decode cX7_fault 84 = .ok (.getfield 187, 3) := by decide +kernel
theorem dX7_fault_87 : decode cX7_fault 87 = .ok (.ireturn, 1) := by decide +kernel
set_option maxRecDepth 20000 in
theorem ggX7_play_X7_begins : GoodIn wsX7_play wsX7_begins := goodIn_r _ [6, 7, 8, 172, 173, 174, 175, 176, 177, 178, 179, 180, 181, 182, 183, 184, 185] (by decide +kernel) (by decide +kernel)
set_option maxRecDepth 20000 in
theorem gX7_play_X7_begins : GoodIn wsX7_play (wsV RX7 119 RX7 yX7_begins wsX7_begins) := goodIn_app (goodIn_of _ (by decide +kernel)) ggX7_play_X7_begins
set_option maxRecDepth 20000 in
theorem ggX7_play_X7_does : GoodIn wsX7_play wsX7_does := goodIn_r _ [12, 13, 1, 14, 15, 16, 17, 18, 19, 20, 5, 21, 22, 23, 24, 25, 26, 27, 28, 29, 30, 31, 32, 33, 34, 35, 36, 37, 38, 39, 40, 41, 42, 43, 44, 45, 46, 47, 48, 8, 49, 50, 51, 52, 53, 54, 55, 56, 57, 58, 59, 60, 61, 62, 63, 64, 65, 66, 67, 68, 69, 70, 71, 72, 73, 74, 75, 76, 77, 78, 79, 80, 81, 82, 83, 84, 85, 86, 87, 88, 89, 90, 91, 92, 93, 94, 95, 96, 97, 98, 99, 100, 101, 102, 103, 104, 105, 106, 107, 108, 109, 110, 111, 112, 113, 114, 115, 116, 117, 118, 119, 120, 121, 122, 123, 124, 125, 126, 127, 128, 129, 130, 131, 132, 133, 134, 135, 136, 137, 138, 139, 140, 141, 142, 143, 144, 145, 146, 147, 148, 149, 150, 151, 152, 153, 154, 155, 156, 157, 158, 159, 160, 161, 172, 173, 174, 175, 176, 177, 178, 179, 180, 181, 182, 183, 184, 185] (by decide +kernel) (by decide +kernel)
set_option maxRecDepth 20000 in
theorem gX7_play_X7_does : GoodIn wsX7_play (wsV RX7 190 RX7 yX7_does wsX7_does) := goodIn_app (goodIn_of _ (by decide +kernel)) ggX7_play_X7_does
set_option maxRecDepth 20000 in
theorem ggX7_play_X7_acted : GoodIn wsX7_play wsX7_acted := goodIn_r _ [165, 166, 167, 7, 168, 169, 170, 5, 171, 8, 172, 173, 174, 175, 176, 177, 178, 179, 180, 181, 182, 183, 184, 185] (by decide +kernel) (by decide +kernel)
set_option maxRecDepth 20000 in
theorem gX7_play_X7_acted : GoodIn wsX7_play (wsV RX7 126 RX7 yX7_acted wsX7_acted) := goodIn_app (goodIn_of _ (by decide +kernel)) ggX7_play_X7_acted
theorem dX7_play_0 : decode cX7_play 0 = .ok (.aload_n 0, 1) := by decide +kernel
theorem dX7_play_1 : decode cX7_play 1 = .ok (.invokevirtual 119, 3) := by decide +kernel
theorem dX7_play_4 : decode cX7_play 4 = .ok (.aload_n 0, 1) := by decide +kernel
theorem dX7_play_5 : decode cX7_play 5 = .ok (.aload_n 0, 1) := by decide +kernel
theorem dX7_play_6 : decode cX7_play 6 = .ok (.invokevirtual 190, 3) := by decide +kernel
theorem dX7_play_9 : decode cX7_play 9 = .ok (.ifCond .ge 10, 3) := by decide +kernel
theorem dX7_play_12 : decode cX7_play 12 = .ok (.aload_n 0, 1) := by decide +kernel
theorem dX7_play_13 : decode cX7_play 13 = .ok (.getfield 172, 3) := by decide +kernel
theorem dX7_play_16 : decode cX7_play 16 = .ok (.goto 5, 3) := by decide +kernel
theorem dX7_play_19 : decode cX7_play 19 = .ok (.bipush (-2), 2) := by decide +kernel
theorem dX7_play_21 : decode cX7_play 21 = .ok (.invokevirtual 126, 3) := by decide +kernel
theorem dX7_play_24 : decode cX7_play 24 = .ok (.ireturn, 1) := by decide +kernel
theorem dJ9_max_7cf53_0 : decode cJ9_max_7cf53 0 = .ok (.iload_n 0, 1) := by decide +kernel
theorem dJ9_max_7cf53_1 : decode cJ9_max_7cf53 1 = .ok (.iload_n 1, 1) := by decide +kernel
theorem dJ9_max_7cf53_2 : decode cJ9_max_7cf53 2 = .ok (.if_icmp .lt 7, 3) := by decide +kernel
theorem dJ9_max_7cf53_5 : decode cJ9_max_7cf53 5 = .ok (.iload_n 0, 1) := by decide +kernel
theorem dJ9_max_7cf53_6 : decode cJ9_max_7cf53 6 = .ok (.goto 4, 3) := by decide +kernel
theorem dJ9_max_7cf53_9 : decode cJ9_max_7cf53 9 = .ok (.iload_n 1, 1) := by decide +kernel
theorem dJ9_max_7cf53_10 : decode cJ9_max_7cf53 10 = .ok (.ireturn, 1) := by decide +kernel
theorem dJ9_min_7cf53_0 : decode cJ9_min_7cf53 0 = .ok (.iload_n 0, 1) := by decide +kernel
theorem dJ9_min_7cf53_1 : decode cJ9_min_7cf53 1 = .ok (.iload_n 1, 1) := by decide +kernel
theorem dJ9_min_7cf53_2 : decode cJ9_min_7cf53 2 = .ok (.if_icmp .gt 7, 3) := by decide +kernel
theorem dJ9_min_7cf53_5 : decode cJ9_min_7cf53 5 = .ok (.iload_n 0, 1) := by decide +kernel
theorem dJ9_min_7cf53_6 : decode cJ9_min_7cf53 6 = .ok (.goto 4, 3) := by decide +kernel
theorem dJ9_min_7cf53_9 : decode cJ9_min_7cf53 9 = .ok (.iload_n 1, 1) := by decide +kernel
theorem dJ9_min_7cf53_10 : decode cJ9_min_7cf53 10 = .ok (.ireturn, 1) := by decide +kernel
set_option maxRecDepth 20000 in
theorem ggL_law_X6_init : GoodIn wsL_law wsX6_init := goodIn_r _ [8, 9, 10, 11, 12, 13, 14, 15, 16, 17, 18, 19, 20, 21, 22, 23, 24, 25, 26, 27, 28, 29, 30, 31, 32, 33, 34, 35, 36, 37, 38, 39, 40, 41, 42, 43, 44, 45, 46, 47, 48, 49, 50, 51, 52, 53, 54, 55, 56, 57, 58, 59, 60, 61, 62, 63, 64, 65, 66, 67, 68, 69, 70, 71, 72, 73, 74, 75, 76, 77, 78, 79, 80, 81, 82, 83, 84, 85, 86, 87, 88, 89, 90, 91, 92, 777, 778, 779, 780, 781, 782, 783, 784, 785, 786, 756, 757, 758, 759, 760, 761, 762, 787, 788, 789, 790, 791, 792, 793, 794, 795, 796, 797, 798, 799, 800, 801, 802, 803, 804, 805, 806, 807, 808, 809, 810, 811, 812, 813, 814, 815, 816, 817] (by decide +kernel) (by decide +kernel)
set_option maxRecDepth 20000 in
theorem gL_law_X6_init : GoodIn wsL_law (wsX6_init) := ggL_law_X6_init
set_option maxRecDepth 20000 in
theorem ggL_law_X7_init : GoodIn wsL_law wsX7_init := goodIn_r _ [95, 96, 10, 11, 45, 97, 98, 99, 100, 101, 102, 103, 763, 764, 765, 766, 767, 768, 769, 770, 771, 772, 773, 774, 775, 776] (by decide +kernel) (by decide +kernel)
set_option maxRecDepth 20000 in
theorem gL_law_X7_init : GoodIn wsL_law (wsX7_init) := ggL_law_X7_init
set_option maxRecDepth 20000 in
theorem ggL_law_X6_load : GoodIn wsL_law wsX6_load := goodIn_r _ [107, 21, 15, 108, 109, 110, 20, 111, 112, 76, 113, 114, 115, 14, 116, 38, 42, 44, 117, 118, 119, 120, 46, 121, 122, 123, 124, 125, 126, 127, 128, 129, 37, 130, 52, 131, 53, 54, 55, 56, 57, 58, 59, 60, 132, 133, 134, 135, 136, 41, 137, 65, 138, 66, 67, 68, 69, 70, 139, 140, 141, 142, 143, 144, 145, 146, 147, 148, 149, 150, 151, 152, 153, 154, 2, 155, 156, 157, 158, 159, 756, 757, 758, 759, 760, 761, 762, 787, 788, 777, 778, 779, 780, 781, 782, 783, 784, 785, 786, 800, 801, 802, 803, 804, 805, 806, 807, 808, 809, 810, 811, 812, 813, 814, 815, 816, 817] (by decide +kernel) (by decide +kernel)
set_option maxRecDepth 20000 in
theorem gL_law_X6_load : GoodIn wsL_law (wsV RL 13 RX6 yX6_load wsX6_load) := goodIn_app (goodIn_of _ (by decide +kernel)) ggL_law_X6_load
set_option maxRecDepth 20000 in
theorem ggL_law_X7_load : GoodIn wsL_law wsX7_load := goodIn_r _ [163, 164, 165, 166, 5, 167, 98, 97, 168, 169, 170, 171, 172, 173, 174, 175, 176, 177, 178, 179, 100, 180, 181, 182, 183, 763, 764, 765, 766, 767, 768, 769, 770, 771, 772, 773, 774, 775, 776] (by decide +kernel) (by decide +kernel)
set_option maxRecDepth 20000 in
theorem gL_law_X7_load : GoodIn wsL_law (wsV RL 17 RX7 yX7_load wsX7_load) := goodIn_app (goodIn_of _ (by decide +kernel)) ggL_law_X7_load
set_option maxRecDepth 20000 in
theorem ggL_law_X6_fly : GoodIn wsL_law wsX6_fly := goodIn_r _ [187, 21, 15, 108, 109, 110, 20, 111, 112, 76, 113, 114, 115, 14, 116, 38, 42, 44, 117, 118, 119, 120, 46, 121, 122, 123, 124, 125, 126, 127, 128, 129, 37, 130, 52, 131, 53, 54, 55, 56, 57, 58, 59, 60, 132, 133, 134, 135, 136, 41, 137, 65, 138, 66, 67, 68, 69, 70, 139, 188, 189, 190, 191, 144, 192, 193, 194, 195, 196, 197, 198, 199, 200, 201, 202, 203, 204, 205, 146, 147, 152, 153, 154, 2, 155, 156, 157, 158, 159, 756, 757, 758, 759, 760, 761, 762, 787, 788, 777, 778, 779, 780, 781, 782, 783, 784, 785, 786, 800, 801, 802, 803, 804, 805, 806, 807, 808, 809, 810, 811, 812, 813, 814, 815, 816, 817] (by decide +kernel) (by decide +kernel)
set_option maxRecDepth 20000 in
theorem gL_law_X6_fly : GoodIn wsL_law (wsV RL 18 RX6 yX6_fly wsX6_fly) := goodIn_app (goodIn_of _ (by decide +kernel)) ggL_law_X6_fly
set_option maxRecDepth 20000 in
theorem ggL_law_X7_fly : GoodIn wsL_law wsX7_fly := goodIn_r _ [209, 164, 165, 166, 5, 167, 98, 97, 210, 211, 212, 213, 214, 215, 216, 217, 218, 219, 220, 221, 222, 223, 224, 225, 175, 176, 177, 178, 179, 100, 180, 181, 182, 183, 763, 764, 765, 766, 767, 768, 769, 770, 771, 772, 773, 774, 775, 776] (by decide +kernel) (by decide +kernel)
set_option maxRecDepth 20000 in
theorem gL_law_X7_fly : GoodIn wsL_law (wsV RL 22 RX7 yX7_fly wsX7_fly) := goodIn_app (goodIn_of _ (by decide +kernel)) ggL_law_X7_fly
set_option maxRecDepth 20000 in
theorem ggL_law_X6_book : GoodIn wsL_law wsX6_book := goodIn_r _ [229, 21, 15, 16, 108, 109, 110, 20, 111, 112, 76, 113, 114, 115, 14, 116, 38, 42, 44, 117, 118, 119, 120, 46, 121, 122, 123, 124, 125, 126, 127, 128, 129, 37, 130, 52, 131, 53, 54, 55, 56, 57, 58, 59, 60, 132, 133, 134, 135, 136, 41, 137, 65, 138, 66, 67, 68, 69, 70, 139, 230, 231, 232, 233, 234, 235, 236, 237, 238, 239, 240, 241, 242, 243, 244, 245, 246, 247, 248, 249, 250, 251, 252, 253, 254, 255, 256, 257, 258, 259, 193, 194, 195, 196, 260, 261, 262, 263, 264, 265, 266, 267, 268, 269, 270, 271, 272, 273, 274, 275, 276, 277, 278, 279, 280, 281, 282, 283, 284, 285, 286, 287, 288, 289, 290, 291, 292, 293, 294, 295, 296, 297, 298, 299, 152, 153, 154, 2, 155, 156, 157, 158, 159, 756, 757, 758, 759, 760, 761, 762, 787, 788, 777, 778, 779, 780, 781, 782, 783, 784, 785, 786, 800, 801, 802, 803, 804, 805, 806, 807, 808, 809, 810, 811, 812, 813, 814, 815, 816, 817] (by decide +kernel) (by decide +kernel)
set_option maxRecDepth 20000 in
theorem gL_law_X6_book : GoodIn wsL_law (wsV RL 23 RX6 yX6_book wsX6_book) := goodIn_app (goodIn_of _ (by decide +kernel)) ggL_law_X6_book
set_option maxRecDepth 20000 in
theorem ggL_law_X7_book : GoodIn wsL_law wsX7_book := goodIn_r _ [303, 164, 165, 166, 5, 167, 98, 97, 304, 305, 306, 307, 172, 173, 174, 308, 309, 310, 311, 312, 313, 314, 315, 102, 316, 317, 318, 319, 320, 321, 322, 323, 324, 325, 326, 327, 328, 329, 330, 331, 332, 333, 334, 335, 336, 337, 338, 339, 214, 215, 216, 217, 340, 341, 342, 343, 344, 345, 346, 347, 348, 349, 350, 351, 352, 353, 354, 355, 356, 357, 358, 359, 222, 223, 224, 225, 360, 361, 362, 363, 364, 365, 366, 367, 368, 369, 370, 371, 372, 373, 374, 375, 376, 377, 378, 379, 175, 176, 177, 178, 179, 100, 180, 181, 182, 183, 763, 764, 765, 766, 767, 768, 769, 770, 771, 772, 773, 774, 775, 776] (by decide +kernel) (by decide +kernel)
set_option maxRecDepth 20000 in
theorem gL_law_X7_book : GoodIn wsL_law (wsV RL 26 RX7 yX7_book wsX7_book) := goodIn_app (goodIn_of _ (by decide +kernel)) ggL_law_X7_book
set_option maxRecDepth 20000 in
theorem ggL_law_X6_cancel : GoodIn wsL_law wsX6_cancel := goodIn_r _ [383, 21, 15, 108, 109, 110, 20, 111, 112, 76, 113, 114, 115, 14, 116, 38, 42, 44, 117, 118, 119, 120, 46, 121, 122, 123, 124, 125, 126, 127, 128, 129, 37, 130, 52, 131, 53, 54, 55, 56, 57, 58, 59, 60, 132, 133, 134, 135, 136, 41, 137, 65, 138, 66, 67, 68, 69, 70, 139, 384, 385, 386, 387, 388, 389, 390, 391, 392, 393, 394, 395, 396, 152, 153, 154, 2, 155, 156, 157, 158, 159, 756, 757, 758, 759, 760, 761, 762, 787, 788, 777, 778, 779, 780, 781, 782, 783, 784, 785, 786, 800, 801, 802, 803, 804, 805, 806, 807, 808, 809, 810, 811, 812, 813, 814, 815, 816, 817] (by decide +kernel) (by decide +kernel)
set_option maxRecDepth 20000 in
theorem gL_law_X6_cancel : GoodIn wsL_law (wsV RL 27 RX6 yX6_cancel wsX6_cancel) := goodIn_app (goodIn_of _ (by decide +kernel)) ggL_law_X6_cancel
set_option maxRecDepth 20000 in
theorem ggL_law_X7_cancel : GoodIn wsL_law wsX7_cancel := goodIn_r _ [400, 164, 165, 166, 5, 167, 98, 97, 401, 402, 403, 404, 405, 406, 407, 408, 172, 173, 174, 332, 333, 334, 335, 320, 321, 322, 323, 328, 329, 330, 331, 175, 176, 177, 178, 179, 100, 180, 181, 182, 183, 763, 764, 765, 766, 767, 768, 769, 770, 771, 772, 773, 774, 775, 776] (by decide +kernel) (by decide +kernel)
set_option maxRecDepth 20000 in
theorem gL_law_X7_cancel : GoodIn wsL_law (wsV RL 31 RX7 yX7_cancel wsX7_cancel) := goodIn_app (goodIn_of _ (by decide +kernel)) ggL_law_X7_cancel
set_option maxRecDepth 20000 in
theorem ggL_law_X6_storm : GoodIn wsL_law wsX6_storm := goodIn_r _ [412, 21, 15, 108, 109, 110, 20, 111, 112, 76, 113, 114, 115, 14, 116, 38, 42, 44, 117, 118, 119, 120, 46, 121, 122, 123, 124, 125, 126, 127, 128, 129, 37, 130, 52, 131, 53, 54, 55, 56, 57, 58, 59, 60, 132, 133, 134, 135, 136, 41, 137, 65, 138, 66, 67, 68, 69, 70, 139, 413, 414, 415, 416, 152, 153, 154, 2, 155, 156, 157, 158, 159, 756, 757, 758, 759, 760, 761, 762, 787, 788, 777, 778, 779, 780, 781, 782, 783, 784, 785, 786, 800, 801, 802, 803, 804, 805, 806, 807, 808, 809, 810, 811, 812, 813, 814, 815, 816, 817] (by decide +kernel) (by decide +kernel)
set_option maxRecDepth 20000 in
theorem gL_law_X6_storm : GoodIn wsL_law (wsV RL 32 RX6 yX6_storm wsX6_storm) := goodIn_app (goodIn_of _ (by decide +kernel)) ggL_law_X6_storm
set_option maxRecDepth 20000 in
theorem ggL_law_X7_storm : GoodIn wsL_law wsX7_storm := goodIn_r _ [420, 164, 165, 166, 5, 167, 98, 97, 421, 422, 423, 424, 172, 173, 174, 425, 426, 427, 428, 175, 176, 177, 178, 179, 100, 180, 181, 182, 183, 763, 764, 765, 766, 767, 768, 769, 770, 771, 772, 773, 774, 775, 776] (by decide +kernel) (by decide +kernel)
set_option maxRecDepth 20000 in
theorem gL_law_X7_storm : GoodIn wsL_law (wsV RL 36 RX7 yX7_storm wsX7_storm) := goodIn_app (goodIn_of _ (by decide +kernel)) ggL_law_X7_storm
set_option maxRecDepth 20000 in
theorem ggL_law_X6_clear : GoodIn wsL_law wsX6_clear := goodIn_r _ [432, 21, 15, 108, 109, 110, 20, 111, 112, 76, 113, 114, 115, 14, 116, 38, 42, 44, 117, 118, 119, 120, 46, 121, 122, 123, 124, 125, 126, 127, 128, 129, 37, 130, 52, 131, 53, 54, 55, 56, 57, 58, 59, 60, 132, 133, 134, 135, 136, 41, 137, 65, 138, 66, 67, 68, 69, 70, 139, 433, 434, 435, 436, 152, 153, 154, 2, 155, 156, 157, 158, 159, 756, 757, 758, 759, 760, 761, 762, 787, 788, 777, 778, 779, 780, 781, 782, 783, 784, 785, 786, 800, 801, 802, 803, 804, 805, 806, 807, 808, 809, 810, 811, 812, 813, 814, 815, 816, 817] (by decide +kernel) (by decide +kernel)
set_option maxRecDepth 20000 in
theorem gL_law_X6_clear : GoodIn wsL_law (wsV RL 37 RX6 yX6_clear wsX6_clear) := goodIn_app (goodIn_of _ (by decide +kernel)) ggL_law_X6_clear
set_option maxRecDepth 20000 in
theorem ggL_law_X7_clear : GoodIn wsL_law wsX7_clear := goodIn_r _ [440, 97, 164, 165, 166, 5, 167, 98, 172, 173, 174, 175, 176, 177, 178, 179, 100, 180, 181, 182, 183, 763, 764, 765, 766, 767, 768, 769, 770, 771, 772, 773, 774, 775, 776] (by decide +kernel) (by decide +kernel)
set_option maxRecDepth 20000 in
theorem gL_law_X7_clear : GoodIn wsL_law (wsV RL 40 RX7 yX7_clear wsX7_clear) := goodIn_app (goodIn_of _ (by decide +kernel)) ggL_law_X7_clear
set_option maxRecDepth 20000 in
theorem ggL_law_X6_sleep : GoodIn wsL_law wsX6_sleep := goodIn_r _ [444, 21, 15, 108, 109, 110, 20, 111, 112, 76, 113, 114, 115, 14, 116, 38, 42, 44, 117, 118, 119, 120, 46, 121, 122, 123, 124, 125, 126, 127, 128, 129, 37, 130, 52, 131, 53, 54, 55, 56, 57, 58, 59, 60, 132, 133, 134, 135, 136, 41, 137, 65, 138, 66, 67, 68, 69, 70, 139, 445, 446, 447, 448, 252, 253, 254, 255, 256, 257, 258, 259, 193, 194, 195, 196, 260, 261, 262, 263, 264, 265, 266, 267, 268, 269, 270, 271, 272, 273, 274, 275, 276, 277, 278, 279, 280, 281, 282, 283, 284, 285, 286, 287, 288, 289, 290, 291, 292, 293, 294, 295, 296, 297, 298, 299, 152, 153, 154, 2, 155, 156, 157, 158, 159, 756, 757, 758, 759, 760, 761, 762, 787, 788, 777, 778, 779, 780, 781, 782, 783, 784, 785, 786, 800, 801, 802, 803, 804, 805, 806, 807, 808, 809, 810, 811, 812, 813, 814, 815, 816, 817] (by decide +kernel) (by decide +kernel)
set_option maxRecDepth 20000 in
theorem gL_law_X6_sleep : GoodIn wsL_law (wsV RL 41 RX6 yX6_sleep wsX6_sleep) := goodIn_app (goodIn_of _ (by decide +kernel)) ggL_law_X6_sleep
set_option maxRecDepth 20000 in
theorem ggL_law_X7_sleep : GoodIn wsL_law wsX7_sleep := goodIn_r _ [452, 164, 165, 166, 5, 167, 98, 97, 453, 454, 455, 456, 172, 173, 174, 336, 337, 338, 339, 214, 215, 216, 217, 340, 341, 342, 343, 332, 333, 334, 335, 320, 321, 322, 323, 344, 345, 346, 347, 348, 349, 350, 351, 352, 353, 354, 355, 356, 357, 358, 359, 222, 223, 224, 225, 360, 361, 362, 363, 364, 365, 366, 367, 368, 369, 370, 371, 372, 373, 374, 375, 376, 377, 378, 379, 175, 176, 177, 178, 179, 100, 180, 181, 182, 183, 763, 764, 765, 766, 767, 768, 769, 770, 771, 772, 773, 774, 775, 776] (by decide +kernel) (by decide +kernel)
set_option maxRecDepth 20000 in
theorem gL_law_X7_sleep : GoodIn wsL_law (wsV RL 44 RX7 yX7_sleep wsX7_sleep) := goodIn_app (goodIn_of _ (by decide +kernel)) ggL_law_X7_sleep
set_option maxRecDepth 20000 in
theorem ggL_law_X6_set : GoodIn wsL_law wsX6_set := goodIn_r _ [460, 21, 15, 108, 109, 110, 20, 111, 112, 76, 113, 114, 115, 14, 116, 38, 42, 44, 117, 118, 119, 120, 46, 121, 122, 123, 124, 125, 126, 127, 128, 129, 37, 130, 52, 131, 53, 54, 55, 56, 57, 58, 59, 60, 132, 133, 134, 135, 136, 41, 137, 65, 138, 66, 67, 68, 69, 70, 139, 461, 462, 463, 464, 465, 466, 152, 153, 154, 2, 155, 156, 157, 158, 159, 756, 757, 758, 759, 760, 761, 762, 787, 788, 777, 778, 779, 780, 781, 782, 783, 784, 785, 786, 800, 801, 802, 803, 804, 805, 806, 807, 808, 809, 810, 811, 812, 813, 814, 815, 816, 817] (by decide +kernel) (by decide +kernel)
set_option maxRecDepth 20000 in
theorem gL_law_X6_set : GoodIn wsL_law (wsV RL 45 RX6 yX6_set wsX6_set) := goodIn_app (goodIn_of _ (by decide +kernel)) ggL_law_X6_set
set_option maxRecDepth 20000 in
theorem ggL_law_X7_set : GoodIn wsL_law wsX7_set := goodIn_r _ [470, 97, 164, 165, 166, 5, 167, 98, 471, 472, 473, 172, 173, 174, 175, 176, 177, 178, 179, 100, 180, 181, 182, 183, 763, 764, 765, 766, 767, 768, 769, 770, 771, 772, 773, 774, 775, 776] (by decide +kernel) (by decide +kernel)
set_option maxRecDepth 20000 in
theorem gL_law_X7_set : GoodIn wsL_law (wsV RL 48 RX7 yX7_set wsX7_set) := goodIn_app (goodIn_of _ (by decide +kernel)) ggL_law_X7_set
set_option maxRecDepth 20000 in
theorem ggL_law_X6_lotOf : GoodIn wsL_law wsX6_lotOf := goodIn_r _ [477, 15, 478, 479, 480, 481, 146, 37, 147, 482, 483, 484, 485, 132, 52, 756, 757, 758, 759, 760, 761, 762, 777, 778, 779, 780, 781, 782, 783, 784, 785, 786, 800, 801, 802, 803, 804, 805, 806, 807, 808, 809, 810] (by decide +kernel) (by decide +kernel)
set_option maxRecDepth 20000 in
theorem gL_law_X6_lotOf : GoodIn wsL_law (wsV RL 49 RX6 yX6_lotOf wsX6_lotOf) := goodIn_app (goodIn_of _ (by decide +kernel)) ggL_law_X6_lotOf
set_option maxRecDepth 20000 in
theorem ggL_law_X7_lotOf : GoodIn wsL_law wsX7_lotOf := goodIn_r _ [489, 97, 172, 173, 5, 174, 222, 223, 224, 225, 763, 764, 765, 766, 767, 768, 769, 770, 771, 772, 773, 774, 775, 776] (by decide +kernel) (by decide +kernel)
set_option maxRecDepth 20000 in
theorem gL_law_X7_lotOf : GoodIn wsL_law (wsV RL 52 RX7 yX7_lotOf wsX7_lotOf) := goodIn_app (goodIn_of _ (by decide +kernel)) ggL_law_X7_lotOf
set_option maxRecDepth 20000 in
theorem ggL_law_X6_storeOf : GoodIn wsL_law wsX6_storeOf := goodIn_r _ [493, 15, 478, 494, 495, 496, 481, 146, 37, 147, 497, 273, 274, 275, 132, 52, 53, 498, 499, 500, 501, 502, 503, 504, 505, 133, 55, 56, 756, 757, 758, 759, 760, 761, 762, 777, 778, 779, 780, 781, 782, 783, 784, 785, 786, 800, 801, 802, 803, 804, 805, 806, 807, 808, 809, 810] (by decide +kernel) (by decide +kernel)
set_option maxRecDepth 20000 in
theorem gL_law_X6_storeOf : GoodIn wsL_law (wsV RL 53 RX6 yX6_storeOf wsX6_storeOf) := goodIn_app (goodIn_of _ (by decide +kernel)) ggL_law_X6_storeOf
set_option maxRecDepth 20000 in
theorem ggL_law_X7_storeOf : GoodIn wsL_law wsX7_storeOf := goodIn_r _ [509, 97, 172, 173, 5, 174, 356, 357, 358, 359, 222, 223, 224, 225, 510, 511, 512, 513, 514, 515, 516, 517, 763, 764, 765, 766, 767, 768, 769, 770, 771, 772, 773, 774, 775, 776] (by decide +kernel) (by decide +kernel)
set_option maxRecDepth 20000 in
theorem gL_law_X7_storeOf : GoodIn wsL_law (wsV RL 56 RX7 yX7_storeOf wsX7_storeOf) := goodIn_app (goodIn_of _ (by decide +kernel)) ggL_law_X7_storeOf
set_option maxRecDepth 20000 in
theorem ggL_law_X6_partyOf : GoodIn wsL_law wsX6_partyOf := goodIn_r _ [521, 15, 522, 523, 524, 525, 526, 527, 528, 529, 530, 258, 531, 532, 390, 391, 41, 392, 139, 756, 757, 758, 759, 760, 761, 762, 777, 778, 779, 780, 781, 782, 783, 784, 785, 786, 811, 812, 813, 814, 815, 816, 817] (by decide +kernel) (by decide +kernel)
set_option maxRecDepth 20000 in
theorem gL_law_X6_partyOf : GoodIn wsL_law (wsV RL 57 RX6 yX6_partyOf wsX6_partyOf) := goodIn_app (goodIn_of _ (by decide +kernel)) ggL_law_X6_partyOf
set_option maxRecDepth 20000 in
theorem ggL_law_X7_partyOf : GoodIn wsL_law wsX7_partyOf := goodIn_r _ [536, 405, 406, 407, 5, 408, 97, 172, 173, 174, 332, 333, 334, 335, 763, 764, 765, 766, 767, 768, 769, 770, 771, 772, 773, 774, 775, 776] (by decide +kernel) (by decide +kernel)
set_option maxRecDepth 20000 in
theorem gL_law_X7_partyOf : GoodIn wsL_law (wsV RL 60 RX7 yX7_partyOf wsX7_partyOf) := goodIn_app (goodIn_of _ (by decide +kernel)) ggL_law_X7_partyOf
set_option maxRecDepth 20000 in
theorem ggL_law_X6_count : GoodIn wsL_law wsX6_count := goodIn_r _ [540, 15, 522, 541, 542, 543, 478, 544, 545, 546, 547, 548, 21, 549, 25, 550, 30, 551, 394, 395, 41, 396, 139, 68, 552, 265, 266, 267, 65, 553, 194, 195, 14, 196, 121, 44, 554, 555, 556, 557, 46, 756, 757, 758, 759, 760, 761, 762, 777, 778, 779, 780, 781, 782, 783, 784, 785, 786, 811, 812, 813, 814, 815, 816, 817, 800, 801, 802, 803, 804, 805, 806, 807, 808, 809, 810, 787, 788, 789, 790, 791, 792, 793] (by decide +kernel) (by decide +kernel)
set_option maxRecDepth 20000 in
theorem gL_law_X6_count : GoodIn wsL_law (wsV RL 61 RX6 yX6_count wsX6_count) := goodIn_app (goodIn_of _ (by decide +kernel)) ggL_law_X6_count
set_option maxRecDepth 20000 in
theorem ggL_law_X7_count : GoodIn wsL_law wsX7_count := goodIn_r _ [561, 97, 179, 562, 563, 328, 329, 330, 5, 331, 332, 333, 334, 335, 348, 349, 350, 351, 214, 215, 216, 217, 172, 173, 174, 763, 764, 765, 766, 767, 768, 769, 770, 771, 772, 773, 774, 775, 776] (by decide +kernel) (by decide +kernel)
set_option maxRecDepth 20000 in
theorem gL_law_X7_count : GoodIn wsL_law (wsV RL 64 RX7 yX7_count wsX7_count) := goodIn_app (goodIn_of _ (by decide +kernel)) ggL_law_X7_count
set_option maxRecDepth 20000 in
theorem ggL_law_X6_goneOn : GoodIn wsL_law wsX6_goneOn := goodIn_r _ [567, 15, 522, 16, 532, 390, 391, 41, 392, 139, 568, 569, 570, 571, 68, 572, 573, 114, 115, 14, 116, 38, 42, 44, 117, 118, 119, 120, 46, 121, 122, 123, 124, 125, 126, 127, 128, 129, 37, 130, 52, 131, 53, 54, 55, 56, 57, 58, 59, 60, 132, 133, 134, 135, 136, 137, 65, 138, 66, 67, 69, 70, 574, 575, 576, 577, 578, 252, 253, 254, 255, 256, 257, 258, 259, 193, 194, 195, 196, 260, 261, 262, 263, 264, 265, 266, 267, 268, 269, 270, 271, 272, 273, 274, 275, 276, 277, 278, 279, 280, 281, 282, 283, 284, 285, 286, 287, 288, 289, 290, 291, 292, 293, 294, 295, 296, 297, 298, 299, 579, 580, 581, 582, 756, 757, 758, 759, 760, 761, 762, 777, 778, 779, 780, 781, 782, 783, 784, 785, 786, 811, 812, 813, 814, 815, 816, 817, 800, 801, 802, 803, 804, 805, 806, 807, 808, 809, 810] (by decide +kernel) (by decide +kernel)
set_option maxRecDepth 20000 in
theorem gL_law_X6_goneOn : GoodIn wsL_law (wsV RL 65 RX6 yX6_goneOn wsX6_goneOn) := goodIn_app (goodIn_of _ (by decide +kernel)) ggL_law_X6_goneOn
set_option maxRecDepth 20000 in
theorem ggL_law_X7_goneOn : GoodIn wsL_law wsX7_goneOn := goodIn_r _ [586, 97, 405, 406, 407, 5, 408, 172, 173, 174, 332, 333, 334, 335, 164, 165, 166, 167, 98, 336, 337, 338, 339, 214, 215, 216, 217, 340, 341, 342, 343, 320, 321, 322, 323, 344, 345, 346, 347, 348, 349, 350, 351, 352, 353, 354, 355, 356, 357, 358, 359, 222, 223, 224, 225, 360, 361, 362, 363, 364, 365, 366, 367, 368, 369, 370, 371, 372, 373, 374, 375, 376, 377, 378, 379, 180, 181, 182, 183, 763, 764, 765, 766, 767, 768, 769, 770, 771, 772, 773, 774, 775, 776] (by decide +kernel) (by decide +kernel)
set_option maxRecDepth 20000 in
theorem gL_law_X7_goneOn : GoodIn wsL_law (wsV RL 68 RX7 yX7_goneOn wsX7_goneOn) := goodIn_app (goodIn_of _ (by decide +kernel)) ggL_law_X7_goneOn
set_option maxRecDepth 20000 in
theorem ggL_law_X6_outOn : GoodIn wsL_law wsX6_outOn := goodIn_r _ [590, 16, 15, 481, 146, 37, 147, 573, 114, 115, 14, 116, 38, 42, 44, 117, 118, 119, 120, 46, 121, 122, 123, 124, 125, 126, 127, 128, 129, 130, 52, 131, 53, 54, 55, 56, 57, 58, 59, 60, 132, 133, 134, 135, 136, 41, 137, 65, 138, 66, 67, 68, 69, 70, 139, 591, 592, 593, 594, 248, 249, 250, 251, 252, 253, 254, 255, 256, 257, 258, 259, 193, 194, 195, 196, 260, 261, 262, 263, 264, 265, 266, 267, 268, 269, 270, 271, 272, 273, 274, 275, 276, 277, 278, 279, 280, 281, 282, 283, 284, 285, 286, 287, 288, 289, 290, 291, 292, 293, 294, 295, 296, 297, 298, 299, 756, 757, 758, 759, 760, 761, 762, 777, 778, 779, 780, 781, 782, 783, 784, 785, 786, 800, 801, 802, 803, 804, 805, 806, 807, 808, 809, 810, 811, 812, 813, 814, 815, 816, 817] (by decide +kernel) (by decide +kernel)
set_option maxRecDepth 20000 in
theorem gL_law_X6_outOn : GoodIn wsL_law (wsV RL 69 RX6 yX6_outOn wsX6_outOn) := goodIn_app (goodIn_of _ (by decide +kernel)) ggL_law_X6_outOn
set_option maxRecDepth 20000 in
theorem ggL_law_X7_outOn : GoodIn wsL_law wsX7_outOn := goodIn_r _ [598, 97, 172, 173, 5, 174, 164, 165, 166, 167, 98, 324, 325, 326, 327, 328, 329, 330, 331, 332, 333, 334, 335, 336, 337, 338, 339, 214, 215, 216, 217, 340, 341, 342, 343, 320, 321, 322, 323, 344, 345, 346, 347, 348, 349, 350, 351, 352, 353, 354, 355, 356, 357, 358, 359, 222, 223, 224, 225, 360, 361, 362, 363, 364, 365, 366, 367, 368, 369, 370, 371, 372, 373, 374, 375, 376, 377, 378, 379, 180, 181, 182, 183, 763, 764, 765, 766, 767, 768, 769, 770, 771, 772, 773, 774, 775, 776] (by decide +kernel) (by decide +kernel)
set_option maxRecDepth 20000 in
theorem gL_law_X7_outOn : GoodIn wsL_law (wsV RL 72 RX7 yX7_outOn wsX7_outOn) := goodIn_app (goodIn_of _ (by decide +kernel)) ggL_law_X7_outOn
set_option maxRecDepth 20000 in
theorem ggL_law_X6_most : GoodIn wsL_law wsX6_most := goodIn_r _ [602, 15, 522, 541, 16, 603, 236, 237, 14, 238, 121, 604, 240, 241, 242, 42, 243, 114, 115, 116, 38, 44, 117, 118, 119, 120, 46, 122, 123, 124, 125, 126, 127, 128, 129, 37, 130, 52, 131, 53, 54, 55, 56, 57, 58, 59, 60, 132, 133, 134, 135, 136, 41, 137, 65, 138, 66, 67, 68, 69, 70, 139, 244, 245, 246, 247, 248, 249, 250, 251, 252, 253, 254, 255, 256, 257, 258, 259, 193, 194, 195, 196, 260, 261, 262, 263, 264, 265, 266, 267, 268, 269, 270, 271, 272, 273, 274, 275, 276, 277, 278, 279, 280, 281, 282, 283, 284, 285, 286, 287, 288, 289, 290, 291, 292, 293, 294, 295, 296, 297, 298, 299, 756, 757, 758, 759, 760, 761, 762, 777, 778, 779, 780, 781, 782, 783, 784, 785, 786, 811, 812, 813, 814, 815, 816, 817, 800, 801, 802, 803, 804, 805, 806, 807, 808, 809, 810] (by decide +kernel) (by decide +kernel)
set_option maxRecDepth 20000 in
theorem gL_law_X6_most : GoodIn wsL_law (wsV RL 73 RX6 yX6_most wsX6_most) := goodIn_app (goodIn_of _ (by decide +kernel)) ggL_law_X6_most
set_option maxRecDepth 20000 in
theorem ggL_law_X7_most : GoodIn wsL_law wsX7_most := goodIn_r _ [608, 97, 308, 309, 310, 5, 311, 172, 173, 174, 312, 313, 314, 315, 102, 316, 317, 318, 319, 320, 321, 322, 323, 324, 325, 326, 327, 328, 329, 330, 331, 332, 333, 334, 335, 336, 337, 338, 339, 214, 215, 216, 217, 340, 341, 342, 343, 344, 345, 346, 347, 348, 349, 350, 351, 352, 353, 354, 355, 356, 357, 358, 359, 222, 223, 224, 225, 360, 361, 362, 363, 364, 365, 366, 367, 368, 369, 370, 371, 372, 373, 374, 375, 376, 377, 378, 379, 763, 764, 765, 766, 767, 768, 769, 770, 771, 772, 773, 774, 775, 776] (by decide +kernel) (by decide +kernel)
set_option maxRecDepth 20000 in
theorem gL_law_X7_most : GoodIn wsL_law (wsV RL 76 RX7 yX7_most wsX7_most) := goodIn_app (goodIn_of _ (by decide +kernel)) ggL_law_X7_most
set_option maxRecDepth 20000 in
theorem ggL_law_X6_keep : GoodIn wsL_law wsX6_keep := goodIn_r _ [612, 17, 15, 30, 542, 573, 114, 115, 14, 116, 38, 42, 44, 117, 118, 119, 120, 46, 121, 122, 123, 124, 125, 126, 127, 128, 129, 37, 130, 52, 131, 53, 54, 55, 56, 57, 58, 59, 60, 132, 133, 134, 135, 136, 41, 137, 65, 138, 66, 67, 68, 69, 70, 139, 756, 757, 758, 759, 760, 761, 762, 777, 778, 779, 780, 781, 782, 783, 784, 785, 786, 800, 801, 802, 803, 804, 805, 806, 807, 808, 809, 810, 811, 812, 813, 814, 815, 816, 817] (by decide +kernel) (by decide +kernel)
set_option maxRecDepth 20000 in
theorem gL_law_X6_keep : GoodIn wsL_law (wsV RL 77 RX6 yX6_keep wsX6_keep) := goodIn_app (goodIn_of _ (by decide +kernel)) ggL_law_X6_keep
set_option maxRecDepth 20000 in
theorem ggL_law_X7_keep : GoodIn wsL_law wsX7_keep := goodIn_r _ [616, 99, 97, 563, 763, 764, 765, 766, 767, 768, 769, 770, 771, 772, 773, 774, 775, 776] (by decide +kernel) (by decide +kernel)
set_option maxRecDepth 20000 in
theorem gL_law_X7_keep : GoodIn wsL_law (wsV RL 80 RX7 yX7_keep wsX7_keep) := goodIn_app (goodIn_of _ (by decide +kernel)) ggL_law_X7_keep
set_option maxRecDepth 20000 in
theorem ggL_law_X6_restore : GoodIn wsL_law wsX6_restore := goodIn_r _ [620, 30, 21, 15, 17, 542, 108, 109, 110, 20, 111, 112, 76, 113, 114, 115, 14, 116, 38, 42, 44, 117, 118, 119, 120, 46, 121, 122, 123, 124, 125, 126, 127, 128, 129, 37, 130, 52, 131, 53, 54, 55, 56, 57, 58, 59, 60, 132, 133, 134, 135, 136, 41, 137, 65, 138, 66, 67, 68, 69, 70, 139, 573, 152, 153, 154, 2, 155, 156, 157, 158, 159, 756, 757, 758, 759, 760, 761, 762, 777, 778, 779, 780, 781, 782, 783, 784, 785, 786, 787, 788, 800, 801, 802, 803, 804, 805, 806, 807, 808, 809, 810, 811, 812, 813, 814, 815, 816, 817] (by decide +kernel) (by decide +kernel)
set_option maxRecDepth 20000 in
theorem gL_law_X6_restore : GoodIn wsL_law (wsV RL 81 RX6 yX6_restore wsX6_restore) := goodIn_app (goodIn_of _ (by decide +kernel)) ggL_law_X6_restore
set_option maxRecDepth 20000 in
theorem ggL_law_X7_restore : GoodIn wsL_law wsX7_restore := goodIn_r _ [624, 563, 97, 99, 164, 165, 166, 5, 167, 98, 175, 176, 177, 178, 179, 100, 180, 181, 182, 183, 763, 764, 765, 766, 767, 768, 769, 770, 771, 772, 773, 774, 775, 776] (by decide +kernel) (by decide +kernel)
set_option maxRecDepth 20000 in
theorem gL_law_X7_restore : GoodIn wsL_law (wsV RL 84 RX7 yX7_restore wsX7_restore) := goodIn_app (goodIn_of _ (by decide +kernel)) ggL_law_X7_restore
set_option maxRecDepth 20000 in
theorem ggL_law_X6_undo : GoodIn wsL_law wsX6_undo := goodIn_r _ [628, 21, 549, 15, 629, 630, 631, 20, 632, 112, 76, 113, 114, 115, 14, 116, 38, 42, 44, 117, 118, 119, 120, 46, 121, 122, 123, 124, 125, 126, 127, 128, 129, 37, 130, 52, 131, 53, 54, 55, 56, 57, 58, 59, 60, 132, 133, 134, 135, 136, 41, 137, 65, 138, 66, 67, 68, 69, 70, 139, 756, 757, 758, 759, 760, 761, 762, 787, 788, 777, 778, 779, 780, 781, 782, 783, 784, 785, 786, 800, 801, 802, 803, 804, 805, 806, 807, 808, 809, 810, 811, 812, 813, 814, 815, 816, 817] (by decide +kernel) (by decide +kernel)
set_option maxRecDepth 20000 in
theorem gL_law_X6_undo : GoodIn wsL_law (wsV RL 85 RX6 yX6_undo wsX6_undo) := goodIn_app (goodIn_of _ (by decide +kernel)) ggL_law_X6_undo
set_option maxRecDepth 20000 in
theorem ggL_law_X7_undo : GoodIn wsL_law wsX7_undo := goodIn_r _ [636, 179, 97, 100, 763, 764, 765, 766, 767, 768, 769, 770, 771, 772, 773, 774, 775, 776] (by decide +kernel) (by decide +kernel)
set_option maxRecDepth 20000 in
theorem gL_law_X7_undo : GoodIn wsL_law (wsV RL 88 RX7 yX7_undo wsX7_undo) := goodIn_app (goodIn_of _ (by decide +kernel)) ggL_law_X7_undo
set_option maxRecDepth 20000 in
theorem ggL_law_X6_type : GoodIn wsL_law wsX6_type := goodIn_r _ [640, 25, 550, 641, 642, 643, 24, 644, 645, 83, 756, 757, 758, 759, 760, 761, 762, 789, 790, 791, 792, 793] (by decide +kernel) (by decide +kernel)
set_option maxRecDepth 20000 in
theorem gL_law_X6_type : GoodIn wsL_law (wsV RL 89 RX6 yX6_type wsX6_type) := goodIn_app (goodIn_of _ (by decide +kernel)) ggL_law_X6_type
set_option maxRecDepth 20000 in
theorem ggL_law_X7_type : GoodIn wsL_law wsX7_type := goodIn_r _ [649, 562, 101, 172, 173, 5, 174, 763, 764, 765, 766, 767, 768, 769, 770, 771, 772, 773, 774, 775, 776] (by decide +kernel) (by decide +kernel)
set_option maxRecDepth 20000 in
theorem gL_law_X7_type : GoodIn wsL_law (wsV RL 92 RX7 yX7_type wsX7_type) := goodIn_app (goodIn_of _ (by decide +kernel)) ggL_law_X7_type
set_option maxRecDepth 20000 in
theorem ggL_law_X6_clearText : GoodIn wsL_law wsX6_clearText := goodIn_r _ [653, 25, 550, 756, 757, 758, 759, 760, 761, 762, 789, 790, 791, 792, 793] (by decide +kernel) (by decide +kernel)
set_option maxRecDepth 20000 in
theorem gL_law_X6_clearText : GoodIn wsL_law (wsV RL 93 RX6 yX6_clearText wsX6_clearText) := goodIn_app (goodIn_of _ (by decide +kernel)) ggL_law_X6_clearText
set_option maxRecDepth 20000 in
theorem ggL_law_X7_clearText : GoodIn wsL_law wsX7_clearText := goodIn_r _ [657, 562, 763, 764, 765, 766, 767, 768, 769, 770, 771, 772, 773, 774, 775, 776] (by decide +kernel) (by decide +kernel)
set_option maxRecDepth 20000 in
theorem gL_law_X7_clearText : GoodIn wsL_law (wsV RL 96 RX7 yX7_clearText wsX7_clearText) := goodIn_app (goodIn_of _ (by decide +kernel)) ggL_law_X7_clearText
set_option maxRecDepth 20000 in
theorem ggL_law_X6_fault : GoodIn wsL_law wsX6_fault := goodIn_r _ [661, 29, 25, 15, 662, 663, 664, 665, 666, 667, 28, 668, 90, 669, 670, 671, 672, 673, 674, 675, 676, 677, 114, 115, 14, 116, 38, 42, 44, 117, 118, 119, 120, 46, 121, 122, 123, 124, 125, 126, 127, 128, 129, 37, 130, 52, 131, 53, 54, 55, 56, 57, 58, 59, 60, 132, 133, 134, 135, 136, 41, 137, 65, 138, 66, 67, 68, 69, 70, 139, 678, 679, 680, 24, 681, 682, 683, 84, 684, 685, 686, 687, 645, 83, 688, 689, 690, 691, 692, 693, 694, 695, 696, 697, 698, 699, 700, 530, 258, 531, 701, 702, 703, 704, 91, 705, 141, 142, 143, 144, 145, 146, 147, 148, 149, 150, 151, 706, 189, 190, 191, 192, 193, 194, 195, 196, 197, 198, 199, 200, 201, 202, 203, 204, 205, 707, 231, 232, 233, 234, 235, 236, 237, 238, 239, 240, 241, 242, 243, 244, 245, 246, 247, 248, 249, 250, 251, 252, 253, 254, 255, 256, 257, 259, 260, 261, 262, 263, 264, 265, 266, 267, 268, 269, 270, 271, 272, 273, 274, 275, 276, 277, 278, 279, 280, 281, 282, 283, 284, 285, 286, 287, 288, 289, 290, 291, 292, 293, 294, 295, 296, 297, 298, 299, 708, 385, 386, 387, 388, 389, 390, 391, 392, 393, 394, 395, 396, 709, 414, 415, 416, 710, 446, 447, 448, 756, 757, 758, 759, 760, 761, 762, 794, 795, 796, 797, 798, 799, 789, 790, 791, 792, 793, 777, 778, 779, 780, 781, 782, 783, 784, 785, 786, 800, 801, 802, 803, 804, 805, 806, 807, 808, 809, 810, 811, 812, 813, 814, 815, 816, 817] (by decide +kernel) (by decide +kernel)
set_option maxRecDepth 20000 in
theorem gL_law_X6_fault : GoodIn wsL_law (wsV RL 97 RX6 yX6_fault wsX6_fault) := goodIn_app (goodIn_of _ (by decide +kernel)) ggL_law_X6_fault
set_option maxRecDepth 20000 in
theorem ggL_law_X7_fault : GoodIn wsL_law wsX7_fault := goodIn_r _ [714, 715, 716, 172, 173, 5, 174, 164, 165, 166, 167, 98, 97, 717, 718, 719, 720, 721, 722, 562, 103, 723, 724, 725, 726, 101, 727, 728, 729, 730, 731, 732, 733, 734, 735, 736, 737, 738, 739, 740, 741, 742, 743, 744, 745, 168, 169, 170, 171, 304, 305, 306, 307, 308, 309, 310, 311, 312, 313, 314, 315, 102, 316, 317, 318, 319, 320, 321, 322, 323, 324, 325, 326, 327, 328, 329, 330, 331, 332, 333, 334, 335, 336, 337, 338, 339, 214, 215, 216, 217, 340, 341, 342, 343, 344, 345, 346, 347, 348, 349, 350, 351, 352, 353, 354, 355, 356, 357, 358, 359, 222, 223, 224, 225, 360, 361, 362, 363, 364, 365, 366, 367, 368, 369, 370, 371, 372, 373, 374, 375, 376, 377, 378, 379, 421, 422, 423, 424, 425, 426, 427, 428, 401, 402, 403, 404, 405, 406, 407, 408, 453, 454, 455, 456, 210, 211, 212, 213, 218, 219, 220, 221, 180, 181, 182, 183, 763, 764, 765, 766, 767, 768, 769, 770, 771, 772, 773, 774, 775, 776] (by decide +kernel) (by decide +kernel)
set_option maxRecDepth 20000 in
theorem gL_law_X7_fault : GoodIn wsL_law (wsV RL 100 RX7 yX7_fault wsX7_fault) := goodIn_app (goodIn_of _ (by decide +kernel)) ggL_law_X7_fault
set_option maxRecDepth 20000 in
theorem ggL_law_X6_play : GoodIn wsL_law wsX6_play := goodIn_r _ [749, 29, 25, 15, 662, 21, 750, 751, 665, 666, 667, 28, 668, 90, 669, 670, 671, 672, 673, 674, 675, 676, 677, 114, 115, 14, 116, 38, 42, 44, 117, 118, 119, 120, 46, 121, 122, 123, 124, 125, 126, 127, 128, 129, 37, 130, 52, 131, 53, 54, 55, 56, 57, 58, 59, 60, 132, 133, 134, 135, 136, 41, 137, 65, 138, 66, 67, 68, 69, 70, 139, 678, 679, 680, 24, 681, 682, 683, 84, 684, 685, 686, 687, 645, 83, 688, 689, 690, 691, 692, 693, 694, 695, 696, 697, 698, 699, 700, 530, 258, 531, 701, 702, 703, 704, 91, 705, 141, 142, 143, 144, 145, 146, 147, 148, 149, 150, 151, 706, 189, 190, 191, 192, 193, 194, 195, 196, 197, 198, 199, 200, 201, 202, 203, 204, 205, 707, 231, 232, 233, 234, 235, 236, 237, 238, 239, 240, 241, 242, 243, 244, 245, 246, 247, 248, 249, 250, 251, 252, 253, 254, 255, 256, 257, 259, 260, 261, 262, 263, 264, 265, 266, 267, 268, 269, 270, 271, 272, 273, 274, 275, 276, 277, 278, 279, 280, 281, 282, 283, 284, 285, 286, 287, 288, 289, 290, 291, 292, 293, 294, 295, 296, 297, 298, 299, 708, 385, 386, 387, 388, 389, 390, 391, 392, 393, 394, 395, 396, 709, 414, 415, 416, 710, 446, 447, 448, 108, 109, 110, 20, 111, 112, 76, 113, 573, 152, 153, 154, 2, 155, 156, 157, 158, 159, 756, 757, 758, 759, 760, 761, 762, 794, 795, 796, 797, 798, 799, 789, 790, 791, 792, 793, 777, 778, 779, 780, 781, 782, 783, 784, 785, 786, 800, 801, 802, 803, 804, 805, 806, 807, 808, 809, 810, 811, 812, 813, 814, 815, 816, 817, 787, 788] (by decide +kernel) (by decide +kernel)
set_option maxRecDepth 20000 in
theorem gL_law_X6_play : GoodIn wsL_law (wsV RL 101 RX6 yX6_play wsX6_play) := goodIn_app (goodIn_of _ (by decide +kernel)) ggL_law_X6_play
set_option maxRecDepth 20000 in
theorem ggL_law_X7_play : GoodIn wsL_law wsX7_play := goodIn_r _ [755, 722, 164, 165, 166, 5, 167, 98, 97, 717, 718, 719, 720, 721, 562, 715, 103, 716, 723, 724, 725, 726, 101, 727, 728, 729, 730, 731, 732, 733, 734, 735, 736, 737, 738, 739, 740, 741, 172, 173, 174, 742, 743, 744, 745, 168, 169, 170, 171, 304, 305, 306, 307, 308, 309, 310, 311, 312, 313, 314, 315, 102, 316, 317, 318, 319, 320, 321, 322, 323, 324, 325, 326, 327, 328, 329, 330, 331, 332, 333, 334, 335, 336, 337, 338, 339, 214, 215, 216, 217, 340, 341, 342, 343, 344, 345, 346, 347, 348, 349, 350, 351, 352, 353, 354, 355, 356, 357, 358, 359, 222, 223, 224, 225, 360, 361, 362, 363, 364, 365, 366, 367, 368, 369, 370, 371, 372, 373, 374, 375, 376, 377, 378, 379, 421, 422, 423, 424, 425, 426, 427, 428, 401, 402, 403, 404, 405, 406, 407, 408, 453, 454, 455, 456, 210, 211, 212, 213, 218, 219, 220, 221, 175, 176, 177, 178, 179, 100, 180, 181, 182, 183, 763, 764, 765, 766, 767, 768, 769, 770, 771, 772, 773, 774, 775, 776] (by decide +kernel) (by decide +kernel)
set_option maxRecDepth 20000 in
theorem gL_law_X7_play : GoodIn wsL_law (wsV RL 104 RX7 yX7_play wsX7_play) := goodIn_app (goodIn_of _ (by decide +kernel)) ggL_law_X7_play
