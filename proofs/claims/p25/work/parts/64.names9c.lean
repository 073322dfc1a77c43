set_option maxRecDepth 20000 in
theorem ggL_law_X6_fly : GoodIn wsL_law wsX6_fly := goodIn_r _ [314, 18, 12, 279, 280, 281, 17, 282, 273, 73, 274, 156, 157, 11, 158, 35, 39, 41, 159, 160, 161, 162, 43, 123, 163, 164, 165, 166, 167, 168, 169, 170, 34, 171, 49, 172, 50, 51, 52, 53, 54, 55, 56, 57, 173, 174, 175, 176, 177, 38, 178, 62, 179, 63, 64, 65, 66, 67, 114, 315, 316, 317, 318, 305, 319, 192, 120, 121, 122, 320, 321, 322, 323, 324, 325, 326, 327, 328, 242, 243, 289, 290, 291, 2, 292, 293, 294, 295, 296, 507, 508, 509, 510, 511, 512, 513, 524, 525, 514, 515, 516, 517, 518, 519, 520, 521, 522, 523, 537, 538, 539, 540, 541, 542, 543, 544, 545, 546, 547, 548, 549, 550, 551, 552, 553, 554] (by decide +kernel) (by decide +kernel)
set_option maxRecDepth 20000 in
theorem gL_law_X6_fly : GoodIn wsL_law (wsV RL 61 RX6 yX6_fly wsX6_fly) := goodIn_app (goodIn_of _ (by decide +kernel)) ggL_law_X6_fly
set_option maxRecDepth 20000 in
theorem ggL_law_L_lot : GoodIn wsL_law wsL_lot := goodIn_r _ [331, 332] (by decide +kernel) (by decide +kernel)
set_option maxRecDepth 20000 in
theorem gL_law_L_lot : GoodIn wsL_law (va_wsS RL 105 yL_lot wsL_lot) := goodIn_app (goodIn_of _ (by decide +kernel)) ggL_law_L_lot
set_option maxRecDepth 20000 in
theorem ggL_law_L_digest : GoodIn wsL_law wsL_digest := goodIn_r _ [335, 336, 337, 94, 95, 96, 2, 97, 12, 98, 99, 100, 101, 102, 103, 104, 105, 106, 107, 18, 108, 22, 109, 27, 110, 111, 112, 38, 113, 114, 65, 115, 116, 117, 118, 62, 119, 120, 121, 11, 122, 123, 41, 124, 125, 126, 127, 43, 234, 235, 236, 237, 238, 239, 240, 241, 242, 34, 243, 244, 203, 204, 205, 173, 49, 50, 245, 246, 247, 248, 249, 250, 251, 252, 174, 52, 53, 338, 339, 340, 341, 342, 343, 344, 345, 346, 347, 128, 129, 130, 131, 132, 133, 134, 135, 136, 137, 138, 139, 140, 141, 142, 143, 144, 145, 507, 508, 509, 510, 511, 512, 513, 514, 515, 516, 517, 518, 519, 520, 521, 522, 523, 548, 549, 550, 551, 552, 553, 554, 537, 538, 539, 540, 541, 542, 543, 544, 545, 546, 547, 524, 525, 526, 527, 528, 529, 530] (by decide +kernel) (by decide +kernel)
set_option maxRecDepth 20000 in
theorem gL_law_L_digest : GoodIn wsL_law (va_wsS RL 109 yL_digest wsL_digest) := goodIn_app (goodIn_of _ (by decide +kernel)) ggL_law_L_digest
set_option maxRecDepth 20000 in
theorem ggL_law_X6_count : GoodIn wsL_law wsX6_count := goodIn_r _ [97, 12, 98, 99, 100, 101, 102, 103, 104, 105, 106, 107, 18, 108, 22, 109, 27, 110, 111, 112, 38, 113, 114, 65, 115, 116, 117, 118, 62, 119, 120, 121, 11, 122, 123, 41, 124, 125, 126, 127, 43, 507, 508, 509, 510, 511, 512, 513, 514, 515, 516, 517, 518, 519, 520, 521, 522, 523, 548, 549, 550, 551, 552, 553, 554, 537, 538, 539, 540, 541, 542, 543, 544, 545, 546, 547, 524, 525, 526, 527, 528, 529, 530] (by decide +kernel) (by decide +kernel)
set_option maxRecDepth 20000 in
theorem gL_law_X6_count : GoodIn wsL_law (wsV RL 13 RX6 yX6_count wsX6_count) := goodIn_app (goodIn_of _ (by decide +kernel)) ggL_law_X6_count
set_option maxRecDepth 20000 in
theorem ggL_law_L_acts_p0 : GoodIn wsL_law [Cond.code yL_acts cL_acts 14 (some .boolean)] := goodIn_r _ [350] rfl (by decide +kernel)
set_option maxRecDepth 20000 in
theorem ggL_law_L_acts_p1 : GoodIn wsL_law wsL_acts_r1 := goodIn_r _ [351, 352, 92, 353, 354, 94, 95, 96, 2, 97, 12, 98, 99, 100, 101, 102, 103, 104, 105, 106, 107, 18, 108, 22] (by decide +kernel) (by decide +kernel)
