set_option maxRecDepth 20000 in
theorem ggL_law_X7_goneOn : GoodIn wsL_law wsX7_goneOn := goodIn_r _ [586, 97, 405, 406, 407, 5, 408, 172, 173, 174, 332, 333, 334, 335, 164, 165, 166, 167, 98, 336, 337, 338, 339, 214, 215, 216, 217, 340, 341, 342, 343, 320, 321, 322, 323, 344, 345, 346, 347, 348, 349, 350, 351, 352, 353, 354, 355, 356, 357, 358, 359, 222, 223, 224, 225, 360, 361, 362, 363, 364, 365, 366, 367, 368, 369, 370, 371, 372, 373, 374, 375, 376, 377, 378, 379, 180, 181, 182, 183, 763, 764, 765, 766, 767, 768, 769, 770, 771, 772, 773, 774, 775, 776] (by decide +kernel) (by decide +kernel)
set_option maxRecDepth 20000 in
theorem gL_law_X7_goneOn : GoodIn wsL_law (wsV RL 68 RX7 yX7_goneOn wsX7_goneOn) := goodIn_app (goodIn_of _ (by decide +kernel)) ggL_law_X7_goneOn
set_option maxRecDepth 20000 in
theorem ggL_law_X6_outOn : GoodIn wsL_law wsX6_outOn := goodIn_r _ [590, 16, 15, 481, 146, 37, 147, 573, 114, 115, 14, 116, 38, 42, 44, 117, 118, 119, 120, 46, 121, 122, 123, 124, 125, 126, 127, 128, 129, 130, 52, 131, 53, 54, 55, 56, 57, 58, 59, 60, 132, 133, 134, 135, 136, 41, 137, 65, 138, 66, 67, 68, 69, 70, 139, 591, 592, 593, 594, 248, 249, 250, 251, 252, 253, 254, 255, 256, 257, 258, 259, 193, 194, 195, 196, 260, 261, 262, 263, 264, 265, 266, 267, 268, 269, 270, 271, 272, 273, 274, 275, 276, 277, 278, 279, 280, 281, 282, 283, 284, 285, 286, 287, 288, 289, 290, 291, 292, 293, 294, 295, 296, 297, 298, 299, 756, 757, 758, 759, 760, 761, 762, 777, 778, 779, 780, 781, 782, 783, 784, 785, 786, 800, 801, 802, 803, 804, 805, 806, 807, 808, 809, 810, 811, 812, 813, 814, 815, 816, 817] (by decide +kernel) (by decide +kernel)
set_option maxRecDepth 20000 in
theorem gL_law_X6_outOn : GoodIn wsL_law (wsV RL 69 RX6 yX6_outOn wsX6_outOn) := goodIn_app (goodIn_of _ (by decide +kernel)) ggL_law_X6_outOn
set_option maxRecDepth 20000 in
theorem ggL_law_X7_outOn : GoodIn wsL_law wsX7_outOn := goodIn_r _ [598, 97, 172, 173, 5, 174, 164, 165, 166, 167, 98, 324, 325, 326, 327, 328, 329, 330, 331, 332, 333, 334, 335, 336, 337, 338, 339, 214, 215, 216, 217, 340, 341, 342, 343, 320, 321, 322, 323, 344, 345, 346, 347, 348, 349, 350, 351, 352, 353, 354, 355, 356, 357, 358, 359, 222, 223, 224, 225, 360, 361, 362, 363, 364, 365, 366, 367, 368, 369, 370, 371, 372, 373, 374, 375, 376, 377, 378, 379, 180, 181, 182, 183, 763, 764, 765, 766, 767, 768, 769, 770, 771, 772, 773, 774, 775, 776] (by decide +kernel) (by decide +kernel)
set_option maxRecDepth 20000 in
theorem gL_law_X7_outOn : GoodIn wsL_law (wsV RL 72 RX7 yX7_outOn wsX7_outOn) := goodIn_app (goodIn_of _ (by decide +kernel)) ggL_law_X7_outOn
set_option maxRecDepth 20000 in
theorem ggL_law_X6_most : GoodIn wsL_law wsX6_most := goodIn_r _ [602, 15, 522, 541, 16, 603, 236, 237, 14, 238, 121, 573, 114, 115, 116, 38, 42, 44, 117, 118, 119, 120, 46, 122, 123, 124, 125, 126, 127, 128, 129, 37, 130, 52, 131, 53, 54, 55, 56, 57, 58, 59, 60, 132, 133, 134, 135, 136, 41, 137, 65, 138, 66, 67, 68, 69, 70, 139, 604, 241, 242, 243, 244, 245, 246, 247, 248, 249, 250, 251, 252, 253, 254, 255, 256, 257, 258, 259, 193, 194, 195, 196, 260, 261, 262, 263, 264, 265, 266, 267, 268, 269, 270, 271, 272, 273, 274, 275, 276, 277, 278, 279, 280, 281, 282, 283, 284, 285, 286, 287, 288, 289, 290, 291, 292, 293, 294, 295, 296, 297, 298, 299, 756, 757, 758, 759, 760, 761, 762, 777, 778, 779, 780, 781, 782, 783, 784, 785, 786, 811, 812, 813, 814, 815, 816, 817, 800, 801, 802, 803, 804, 805, 806, 807, 808, 809, 810] (by decide +kernel) (by decide +kernel)
set_option maxRecDepth 20000 in
theorem gL_law_X6_most : GoodIn wsL_law (wsV RL 73 RX6 yX6_most wsX6_most) := goodIn_app (goodIn_of _ (by decide +kernel)) ggL_law_X6_most
set_option maxRecDepth 20000 in
theorem ggL_law_X7_most : GoodIn wsL_law wsX7_most := goodIn_r _ [608, 97, 308, 309, 310, 5, 311, 172, 173, 174, 312, 313, 314, 315, 102, 316, 317, 318, 319, 320, 321, 322, 323, 324, 325, 326, 327, 328, 329, 330, 331, 332, 333, 334, 335, 336, 337, 338, 339, 214, 215, 216, 217, 340, 341, 342, 343, 344, 345, 346, 347, 348, 349, 350, 351, 352, 353, 354, 355, 356, 357, 358, 359, 222, 223, 224, 225, 360, 361, 362, 363, 364, 365, 366, 367, 368, 369, 370, 371, 372, 373, 374, 375, 376, 377, 378, 379, 763, 764, 765, 766, 767, 768, 769, 770, 771, 772, 773, 774, 775, 776] (by decide +kernel) (by decide +kernel)
set_option maxRecDepth 20000 in
theorem gL_law_X7_most : GoodIn wsL_law (wsV RL 76 RX7 yX7_most wsX7_most) := goodIn_app (goodIn_of _ (by decide +kernel)) ggL_law_X7_most
set_option maxRecDepth 20000 in
theorem ggL_law_X6_keep : GoodIn wsL_law wsX6_keep := goodIn_r _ [612, 17, 15, 30, 542, 573, 114, 115, 14, 116, 38, 42, 44, 117, 118, 119, 120, 46, 121, 122, 123, 124, 125, 126, 127, 128, 129, 37, 130, 52, 131, 53, 54, 55, 56, 57, 58, 59, 60, 132, 133, 134, 135, 136, 41, 137, 65, 138, 66, 67, 68, 69, 70, 139, 756, 757, 758, 759, 760, 761, 762, 777, 778, 779, 780, 781, 782, 783, 784, 785, 786, 800, 801, 802, 803, 804, 805, 806, 807, 808, 809, 810, 811, 812, 813, 814, 815, 816, 817] (by decide +kernel) (by decide +kernel)
set_option maxRecDepth 20000 in
theorem gL_law_X6_keep : GoodIn wsL_law (wsV RL 77 RX6 yX6_keep wsX6_keep) := goodIn_app (goodIn_of _ (by decide +kernel)) ggL_law_X6_keep
set_option maxRecDepth 20000 in
theorem ggL_law_X7_keep : GoodIn wsL_law wsX7_keep := goodIn_r _ [616, 99, 97, 563, 763, 764, 765, 766, 767, 768, 769, 770, 771, 772, 773, 774, 775, 776] (by decide +kernel) (by decide +kernel)
set_option maxRecDepth 20000 in
theorem gL_law_X7_keep : GoodIn wsL_law (wsV RL 80 RX7 yX7_keep wsX7_keep) := goodIn_app (goodIn_of _ (by decide +kernel)) ggL_law_X7_keep
set_option maxRecDepth 20000 in
theorem ggL_law_X6_restore : GoodIn wsL_law wsX6_restore := goodIn_r _ [620, 30, 21, 15, 17, 542, 108, 109, 110, 20, 111, 112, 76, 113, 114, 115, 14, 116, 38, 42, 44, 117, 118, 119, 120, 46, 121, 122, 123, 124, 125, 126, 127, 128, 129, 37, 130, 52, 131, 53, 54, 55, 56, 57, 58, 59, 60, 132, 133, 134, 135, 136, 41, 137, 65, 138, 66, 67, 68, 69, 70, 139, 573, 152, 153, 154, 2, 155, 156, 157, 158, 159, 756, 757, 758, 759, 760, 761, 762, 777, 778, 779, 780, 781, 782, 783, 784, 785, 786, 787, 788, 800, 801, 802, 803, 804, 805, 806, 807, 808, 809, 810, 811, 812, 813, 814, 815, 816, 817] (by decide +kernel) (by decide +kernel)
set_option maxRecDepth 20000 in
theorem gL_law_X6_restore : GoodIn wsL_law (wsV RL 81 RX6 yX6_restore wsX6_restore) := goodIn_app (goodIn_of _ (by decide +kernel)) ggL_law_X6_restore
set_option maxRecDepth 20000 in
theorem ggL_law_X7_restore : GoodIn wsL_law wsX7_restore := goodIn_r _ [624, 563, 97, 99, 164, 165, 166, 5, 167, 98, 175, 176, 177, 178, 179, 100, 180, 181, 182, 183, 763, 764, 765, 766, 767, 768, 769, 770, 771, 772, 773, 774, 775, 776] (by decide +kernel) (by decide +kernel)
set_option maxRecDepth 20000 in
theorem gL_law_X7_restore : GoodIn wsL_law (wsV RL 84 RX7 yX7_restore wsX7_restore) := goodIn_app (goodIn_of _ (by decide +kernel)) ggL_law_X7_restore
