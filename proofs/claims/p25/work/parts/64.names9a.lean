set_option maxRecDepth 20000 in
theorem ggL_law_X6_init : GoodIn wsL_law wsX6_init := goodIn_r _ [5, 6, 7, 8, 9, 10, 11, 12, 13, 14, 15, 16, 17, 18, 19, 20, 21, 22, 23, 24, 25, 26, 27, 28, 29, 30, 31, 32, 33, 34, 35, 36, 37, 38, 39, 40, 41, 42, 43, 44, 45, 46, 47, 48, 49, 50, 51, 52, 53, 54, 55, 56, 57, 58, 59, 60, 61, 62, 63, 64, 65, 66, 67, 68, 69, 70, 71, 72, 73, 74, 75, 76, 77, 78, 79, 80, 81, 82, 83, 84, 85, 86, 87, 88, 89, 514, 515, 516, 517, 518, 519, 520, 521, 522, 523, 507, 508, 509, 510, 511, 512, 513, 524, 525, 526, 527, 528, 529, 530, 531, 532, 533, 534, 535, 536, 537, 538, 539, 540, 541, 542, 543, 544, 545, 546, 547, 548, 549, 550, 551, 552, 553, 554] (by decide +kernel) (by decide +kernel)
set_option maxRecDepth 20000 in
theorem gL_law_X6_init : GoodIn wsL_law (wsX6_init) := ggL_law_X6_init
set_option maxRecDepth 20000 in
theorem ggL_law_L_holds_p0 : GoodIn wsL_law [Cond.code yL_holds cL_holds 10 (some .boolean)] := goodIn_r _ [93] (by decide +kernel) (by decide +kernel)
set_option maxRecDepth 20000 in
theorem ggL_law_L_holds_p1 : GoodIn wsL_law wsL_holds_r1 := goodIn_r _ [94, 95, 96, 2, 97, 12, 98, 99, 100, 101, 102, 103, 104, 105, 106, 107, 18, 108, 22, 109, 27, 110, 111, 112] (by decide +kernel) (by decide +kernel)
set_option maxRecDepth 20000 in
theorem ggL_law_L_holds_p2 : GoodIn wsL_law wsL_holds_r2 := goodIn_r _ [38, 113, 114, 65, 115, 116, 117, 118, 62, 119, 120, 121, 11, 122, 123, 41, 124, 125, 126, 127, 43, 128, 129, 130] (by decide +kernel) (by decide +kernel)
set_option maxRecDepth 20000 in
theorem ggL_law_L_holds_p3 : GoodIn wsL_law wsL_holds_r3 := goodIn_r _ [131, 132, 133, 134, 135, 136, 137, 138, 139, 140, 141, 142, 143, 144, 145, 146, 147, 148, 149, 13, 150, 151, 152, 153] (by decide +kernel) (by decide +kernel)
set_option maxRecDepth 20000 in
theorem ggL_law_L_holds_p4 : GoodIn wsL_law wsL_holds_r4 := goodIn_r _ [154, 155, 156, 157, 158, 35, 39, 159, 160, 161, 162, 163, 164, 165, 166, 167, 168, 169, 170, 34, 171, 49, 172, 50] (by decide +kernel) (by decide +kernel)
set_option maxRecDepth 20000 in
theorem ggL_law_L_holds_p5 : GoodIn wsL_law wsL_holds_r5 := goodIn_r _ [51, 52, 53, 54, 55, 56, 57, 173, 174, 175, 176, 177, 178, 179, 63, 64, 66, 67, 180, 181, 182, 183, 184, 185] (by decide +kernel) (by decide +kernel)
set_option maxRecDepth 20000 in
theorem ggL_law_L_holds_p6 : GoodIn wsL_law wsL_holds_r6 := goodIn_r _ [186, 187, 188, 189, 190, 191, 192, 193, 194, 195, 196, 197, 198, 199, 200, 201, 202, 203, 204, 205, 206, 207, 208, 209] (by decide +kernel) (by decide +kernel)
set_option maxRecDepth 20000 in
theorem ggL_law_L_holds_p7 : GoodIn wsL_law wsL_holds_r7 := goodIn_r _ [210, 211, 212, 213, 214, 215, 216, 217, 218, 219, 220, 221, 222, 223, 224, 225, 226, 227, 228, 229, 230, 231, 232, 233] (by decide +kernel) (by decide +kernel)
set_option maxRecDepth 20000 in
theorem ggL_law_L_holds_p8 : GoodIn wsL_law wsL_holds_r8 := goodIn_r _ [234, 235, 236, 237, 238, 239, 240, 241, 242, 243, 244, 245, 246, 247, 248, 249, 250, 251, 252, 253, 254, 255, 256, 257] (by decide +kernel) (by decide +kernel)
set_option maxRecDepth 20000 in
theorem ggL_law_L_holds_p9 : GoodIn wsL_law wsL_holds_r9 := goodIn_r _ [258, 259, 260, 261, 262, 263, 264] (by decide +kernel) (by decide +kernel)
set_option maxRecDepth 20000 in
theorem ggL_law_L_holds_p10 : GoodIn wsL_law wsX60 := goodIn_r _ [507, 508, 509, 510, 511, 512, 513] (by decide +kernel) (by decide +kernel)
set_option maxRecDepth 20000 in
theorem ggL_law_L_holds_p11 : GoodIn wsL_law wsX10 := goodIn_r _ [514, 515, 516, 517, 518, 519, 520, 521, 522, 523] (by decide +kernel) (by decide +kernel)
set_option maxRecDepth 20000 in
theorem ggL_law_L_holds_p12 : GoodIn wsL_law wsX20 := goodIn_r _ [548, 549, 550, 551, 552, 553, 554] (by decide +kernel) (by decide +kernel)
set_option maxRecDepth 20000 in
theorem ggL_law_L_holds_p13 : GoodIn wsL_law wsX40 := goodIn_r _ [537, 538, 539, 540, 541, 542, 543, 544, 545, 546, 547] (by decide +kernel) (by decide +kernel)
set_option maxRecDepth 20000 in
theorem ggL_law_L_holds_p14 : GoodIn wsL_law wsX00 := goodIn_r _ [524, 525] (by decide +kernel) (by decide +kernel)
set_option maxRecDepth 20000 in
theorem ggL_law_L_holds_p15 : GoodIn wsL_law wsX50 := goodIn_r _ [526, 527, 528, 529, 530] (by decide +kernel) (by decide +kernel)
theorem ggL_law_L_holds : GoodIn wsL_law wsL_holds := goodIn_app (a := [Cond.code yL_holds cL_holds 10 (some .boolean)]) ggL_law_L_holds_p0 (goodIn_app (goodIn_app (goodIn_app (goodIn_app (goodIn_app (goodIn_app (goodIn_app ggL_law_L_holds_p1 (goodIn_app ggL_law_L_holds_p2 (goodIn_app ggL_law_L_holds_p3 (goodIn_app ggL_law_L_holds_p4 (goodIn_app ggL_law_L_holds_p5 (goodIn_app ggL_law_L_holds_p6 (goodIn_app ggL_law_L_holds_p7 (goodIn_app ggL_law_L_holds_p8 ggL_law_L_holds_p9)))))))) ggL_law_L_holds_p10) ggL_law_L_holds_p11) ggL_law_L_holds_p12) ggL_law_L_holds_p13) ggL_law_L_holds_p14) ggL_law_L_holds_p15)
set_option maxRecDepth 20000 in
theorem gL_law_L_holds : GoodIn wsL_law (va_wsS RL 99 yL_holds wsL_holds) := goodIn_app (goodIn_of _ (by decide +kernel)) ggL_law_L_holds
