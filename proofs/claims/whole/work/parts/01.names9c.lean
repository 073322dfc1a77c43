set_option maxRecDepth 20000 in
theorem ggL_law_X6_lotOf : GoodIn wsL_law wsX6_lotOf := goodIn_r _ [477, 15, 478, 479, 480, 481, 146, 37, 147, 482, 483, 484, 485, 132, 52, 756, 757, 758, 759, 760, 761, 762, 777, 778, 779, 780, 781, 782, 783, 784, 785, 786, 800, 801, 802, 803, 804, 805, 806, 807, 808, 809, 810] (by decide +kernel) (by decide +kernel)
set_option maxRecDepth 20000 in
theorem gL_law_X6_lotOf : GoodIn wsL_law (wsV RL 49 RX6 yX6_lotOf wsX6_lotOf) := goodIn_app (goodIn_of _ (by decide +kernel)) ggL_law_X6_lotOf
set_option maxRecDepth 20000 in
theorem ggL_law_X7_lotOf : GoodIn wsL_law wsX7_lotOf := goodIn_r _ [489, 97, 172, 173, 5, 174, 222, 223, 224, 225, 763, 764, 765, 766, 767, 768, 769, 770, 771, 772, 773, 774, 775, 776] (by decide +kernel) (by decide +kernel)
set_option maxRecDepth 20000 in
theorem gL_law_X7_lotOf : GoodIn wsL_law (wsV RL 52 RX7 yX7_lotOf wsX7_lotOf) := goodIn_app (goodIn_of _ (by decide +kernel)) ggL_law_X7_lotOf
set_option maxRecDepth 20000 in
theorem ggL_law_X6_storeOf : GoodIn wsL_law wsX6_storeOf := goodIn_r _ [493, 15, 478, 494, 495, 496, 481, 146, 37, 147, 497, 273, 274, 275, 132, 52, 53, 498, 499, 500, 501, 502, 503, 504, 505, 133, 55, 56, 756, 757, 758, 759, 760, 761, 762, 777, 778, 779, 780, 781, 782, 783, 784, 785, 786, 800, 801, 802, 803, 804, 805, 806, 807, 808, 809, 810] (by decide +kernel) (by decide +kernel)
set_option maxRecDepth 20000 in
theorem gL_law_X6_storeOf : GoodIn wsL_law (wsV RL 53 RX6 yX6_storeOf wsX6_storeOf) := goodIn_app (goodIn_of _ (by decide +kernel)) ggL_law_X6_storeOf
set_option maxRecDepth 20000 in
theorem ggL_law_X7_storeOf : GoodIn wsL_law wsX7_storeOf := goodIn_r _ [509, 97, 172, 173, 5, 174, 356, 357, 358, 359, 222, 223, 224, 225, 510, 511, 512, 513, 514, 515, 516, 517, 763, 764, 765, 766, 767, 768, 769, 770, 771, 772, 773, 774, 775, 776] (by decide +kernel) (by decide +kernel)
set_option maxRecDepth 20000 in
theorem gL_law_X7_storeOf : GoodIn wsL_law (wsV RL 56 RX7 yX7_storeOf wsX7_storeOf) := goodIn_app (goodIn_of _ (by decide +kernel)) ggL_law_X7_storeOf
set_option maxRecDepth 20000 in
theorem ggL_law_X6_partyOf : GoodIn wsL_law wsX6_partyOf := goodIn_r _ [521, 15, 522, 523, 524, 525, 526, 527, 528, 529, 530, 258, 531, 532, 390, 391, 41, 392, 139, 756, 757, 758, 759, 760, 761, 762, 777, 778, 779, 780, 781, 782, 783, 784, 785, 786, 811, 812, 813, 814, 815, 816, 817] (by decide +kernel) (by decide +kernel)
set_option maxRecDepth 20000 in
theorem gL_law_X6_partyOf : GoodIn wsL_law (wsV RL 57 RX6 yX6_partyOf wsX6_partyOf) := goodIn_app (goodIn_of _ (by decide +kernel)) ggL_law_X6_partyOf
set_option maxRecDepth 20000 in
theorem ggL_law_X7_partyOf : GoodIn wsL_law wsX7_partyOf := goodIn_r _ [536, 405, 406, 407, 5, 408, 97, 172, 173, 174, 332, 333, 334, 335, 763, 764, 765, 766, 767, 768, 769, 770, 771, 772, 773, 774, 775, 776] (by decide +kernel) (by decide +kernel)
set_option maxRecDepth 20000 in
theorem gL_law_X7_partyOf : GoodIn wsL_law (wsV RL 60 RX7 yX7_partyOf wsX7_partyOf) := goodIn_app (goodIn_of _ (by decide +kernel)) ggL_law_X7_partyOf
set_option maxRecDepth 20000 in
theorem ggL_law_X6_count : GoodIn wsL_law wsX6_count := goodIn_r _ [540, 15, 522, 541, 542, 543, 478, 544, 545, 546, 547, 548, 21, 549, 25, 550, 30, 551, 394, 395, 41, 396, 139, 68, 552, 265, 266, 267, 65, 553, 194, 195, 14, 196, 121, 44, 554, 555, 556, 557, 46, 756, 757, 758, 759, 760, 761, 762, 777, 778, 779, 780, 781, 782, 783, 784, 785, 786, 811, 812, 813, 814, 815, 816, 817, 800, 801, 802, 803, 804, 805, 806, 807, 808, 809, 810, 787, 788, 789, 790, 791, 792, 793] (by decide +kernel) (by decide +kernel)
set_option maxRecDepth 20000 in
theorem gL_law_X6_count : GoodIn wsL_law (wsV RL 61 RX6 yX6_count wsX6_count) := goodIn_app (goodIn_of _ (by decide +kernel)) ggL_law_X6_count
set_option maxRecDepth 20000 in
theorem ggL_law_X7_count : GoodIn wsL_law wsX7_count := goodIn_r _ [561, 97, 179, 562, 563, 328, 329, 330, 5, 331, 332, 333, 334, 335, 348, 349, 350, 351, 214, 215, 216, 217, 172, 173, 174, 763, 764, 765, 766, 767, 768, 769, 770, 771, 772, 773, 774, 775, 776] (by decide +kernel) (by decide +kernel)
set_option maxRecDepth 20000 in
theorem gL_law_X7_count : GoodIn wsL_law (wsV RL 64 RX7 yX7_count wsX7_count) := goodIn_app (goodIn_of _ (by decide +kernel)) ggL_law_X7_count
set_option maxRecDepth 20000 in
theorem ggL_law_X6_goneOn : GoodIn wsL_law wsX6_goneOn := goodIn_r _ [567, 15, 522, 16, 532, 390, 391, 41, 392, 139, 568, 569, 570, 571, 68, 572, 573, 114, 115, 14, 116, 38, 42, 44, 117, 118, 119, 120, 46, 121, 122, 123, 124, 125, 126, 127, 128, 129, 37, 130, 52, 131, 53, 54, 55, 56, 57, 58, 59, 60, 132, 133, 134, 135, 136, 137, 65, 138, 66, 67, 69, 70, 574, 575, 576, 577, 578, 252, 253, 254, 255, 256, 257, 258, 259, 193, 194, 195, 196, 260, 261, 262, 263, 264, 265, 266, 267, 268, 269, 270, 271, 272, 273, 274, 275, 276, 277, 278, 279, 280, 281, 282, 283, 284, 285, 286, 287, 288, 289, 290, 291, 292, 293, 294, 295, 296, 297, 298, 299, 579, 580, 581, 582, 756, 757, 758, 759, 760, 761, 762, 777, 778, 779, 780, 781, 782, 783, 784, 785, 786, 811, 812, 813, 814, 815, 816, 817, 800, 801, 802, 803, 804, 805, 806, 807, 808, 809, 810] (by decide +kernel) (by decide +kernel)
set_option maxRecDepth 20000 in
theorem gL_law_X6_goneOn : GoodIn wsL_law (wsV RL 65 RX6 yX6_goneOn wsX6_goneOn) := goodIn_app (goodIn_of _ (by decide +kernel)) ggL_law_X6_goneOn
