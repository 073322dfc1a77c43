set_option maxRecDepth 20000 in
theorem ggL_law_X7_cancel : GoodIn wsL_law wsX7_cancel := goodIn_r _ [400, 164, 165, 166, 5, 167, 98, 97, 401, 402, 403, 404, 405, 406, 407, 408, 172, 173, 174, 332, 333, 334, 335, 320, 321, 322, 323, 328, 329, 330, 331, 175, 176, 177, 178, 179, 100, 180, 181, 182, 183, 763, 764, 765, 766, 767, 768, 769, 770, 771, 772, 773, 774, 775, 776] (by decide +kernel) (by decide +kernel)
set_option maxRecDepth 20000 in
theorem gL_law_X7_cancel : GoodIn wsL_law (wsV RL 31 RX7 yX7_cancel wsX7_cancel) := goodIn_app (goodIn_of _ (by decide +kernel)) ggL_law_X7_cancel
set_option maxRecDepth 20000 in
theorem ggL_law_X6_storm : GoodIn wsL_law wsX6_storm := goodIn_r _ [412, 21, 15, 108, 109, 110, 20, 111, 112, 76, 113, 114, 115, 14, 116, 38, 42, 44, 117, 118, 119, 120, 46, 121, 122, 123, 124, 125, 126, 127, 128, 129, 37, 130, 52, 131, 53, 54, 55, 56, 57, 58, 59, 60, 132, 133, 134, 135, 136, 41, 137, 65, 138, 66, 67, 68, 69, 70, 139, 413, 414, 415, 416, 152, 153, 154, 2, 155, 156, 157, 158, 159, 756, 757, 758, 759, 760, 761, 762, 787, 788, 777, 778, 779, 780, 781, 782, 783, 784, 785, 786, 800, 801, 802, 803, 804, 805, 806, 807, 808, 809, 810, 811, 812, 813, 814, 815, 816, 817] (by decide +kernel) (by decide +kernel)
set_option maxRecDepth 20000 in
theorem gL_law_X6_storm : GoodIn wsL_law (wsV RL 32 RX6 yX6_storm wsX6_storm) := goodIn_app (goodIn_of _ (by decide +kernel)) ggL_law_X6_storm
set_option maxRecDepth 20000 in
theorem ggL_law_X7_storm : GoodIn wsL_law wsX7_storm := goodIn_r _ [420, 164, 165, 166, 5, 167, 98, 97, 421, 422, 423, 424, 172, 173, 174, 425, 426, 427, 428, 175, 176, 177, 178, 179, 100, 180, 181, 182, 183, 763, 764, 765, 766, 767, 768, 769, 770, 771, 772, 773, 774, 775, 776] (by decide +kernel) (by decide +kernel)
set_option maxRecDepth 20000 in
theorem gL_law_X7_storm : GoodIn wsL_law (wsV RL 36 RX7 yX7_storm wsX7_storm) := goodIn_app (goodIn_of _ (by decide +kernel)) ggL_law_X7_storm
set_option maxRecDepth 20000 in
theorem ggL_law_X6_clear : GoodIn wsL_law wsX6_clear := goodIn_r _ [432, 21, 15, 108, 109, 110, 20, 111, 112, 76, 113, 114, 115, 14, 116, 38, 42, 44, 117, 118, 119, 120, 46, 121, 122, 123, 124, 125, 126, 127, 128, 129, 37, 130, 52, 131, 53, 54, 55, 56, 57, 58, 59, 60, 132, 133, 134, 135, 136, 41, 137, 65, 138, 66, 67, 68, 69, 70, 139, 433, 434, 435, 436, 152, 153, 154, 2, 155, 156, 157, 158, 159, 756, 757, 758, 759, 760, 761, 762, 787, 788, 777, 778, 779, 780, 781, 782, 783, 784, 785, 786, 800, 801, 802, 803, 804, 805, 806, 807, 808, 809, 810, 811, 812, 813, 814, 815, 816, 817] (by decide +kernel) (by decide +kernel)
set_option maxRecDepth 20000 in
theorem gL_law_X6_clear : GoodIn wsL_law (wsV RL 37 RX6 yX6_clear wsX6_clear) := goodIn_app (goodIn_of _ (by decide +kernel)) ggL_law_X6_clear
set_option maxRecDepth 20000 in
theorem ggL_law_X7_clear : GoodIn wsL_law wsX7_clear := goodIn_r _ [440, 97, 164, 165, 166, 5, 167, 98, 172, 173, 174, 175, 176, 177, 178, 179, 100, 180, 181, 182, 183, 763, 764, 765, 766, 767, 768, 769, 770, 771, 772, 773, 774, 775, 776] (by decide +kernel) (by decide +kernel)
set_option maxRecDepth 20000 in
theorem gL_law_X7_clear : GoodIn wsL_law (wsV RL 40 RX7 yX7_clear wsX7_clear) := goodIn_app (goodIn_of _ (by decide +kernel)) ggL_law_X7_clear
set_option maxRecDepth 20000 in
theorem ggL_law_X6_sleep : GoodIn wsL_law wsX6_sleep := goodIn_r _ [444, 21, 15, 108, 109, 110, 20, 111, 112, 76, 113, 114, 115, 14, 116, 38, 42, 44, 117, 118, 119, 120, 46, 121, 122, 123, 124, 125, 126, 127, 128, 129, 37, 130, 52, 131, 53, 54, 55, 56, 57, 58, 59, 60, 132, 133, 134, 135, 136, 41, 137, 65, 138, 66, 67, 68, 69, 70, 139, 445, 446, 447, 448, 252, 253, 254, 255, 256, 257, 258, 259, 193, 194, 195, 196, 260, 261, 262, 263, 264, 265, 266, 267, 268, 269, 270, 271, 272, 273, 274, 275, 276, 277, 278, 279, 280, 281, 282, 283, 284, 285, 286, 287, 288, 289, 290, 291, 292, 293, 294, 295, 296, 297, 298, 299, 152, 153, 154, 2, 155, 156, 157, 158, 159, 756, 757, 758, 759, 760, 761, 762, 787, 788, 777, 778, 779, 780, 781, 782, 783, 784, 785, 786, 800, 801, 802, 803, 804, 805, 806, 807, 808, 809, 810, 811, 812, 813, 814, 815, 816, 817] (by decide +kernel) (by decide +kernel)
set_option maxRecDepth 20000 in
theorem gL_law_X6_sleep : GoodIn wsL_law (wsV RL 41 RX6 yX6_sleep wsX6_sleep) := goodIn_app (goodIn_of _ (by decide +kernel)) ggL_law_X6_sleep
set_option maxRecDepth 20000 in
theorem ggL_law_X7_sleep : GoodIn wsL_law wsX7_sleep := goodIn_r _ [452, 164, 165, 166, 5, 167, 98, 97, 453, 454, 455, 456, 172, 173, 174, 336, 337, 338, 339, 214, 215, 216, 217, 340, 341, 342, 343, 332, 333, 334, 335, 320, 321, 322, 323, 344, 345, 346, 347, 348, 349, 350, 351, 352, 353, 354, 355, 356, 357, 358, 359, 222, 223, 224, 225, 360, 361, 362, 363, 364, 365, 366, 367, 368, 369, 370, 371, 372, 373, 374, 375, 376, 377, 378, 379, 175, 176, 177, 178, 179, 100, 180, 181, 182, 183, 763, 764, 765, 766, 767, 768, 769, 770, 771, 772, 773, 774, 775, 776] (by decide +kernel) (by decide +kernel)
set_option maxRecDepth 20000 in
theorem gL_law_X7_sleep : GoodIn wsL_law (wsV RL 44 RX7 yX7_sleep wsX7_sleep) := goodIn_app (goodIn_of _ (by decide +kernel)) ggL_law_X7_sleep
set_option maxRecDepth 20000 in
theorem ggL_law_X6_set : GoodIn wsL_law wsX6_set := goodIn_r _ [460, 21, 15, 108, 109, 110, 20, 111, 112, 76, 113, 114, 115, 14, 116, 38, 42, 44, 117, 118, 119, 120, 46, 121, 122, 123, 124, 125, 126, 127, 128, 129, 37, 130, 52, 131, 53, 54, 55, 56, 57, 58, 59, 60, 132, 133, 134, 135, 136, 41, 137, 65, 138, 66, 67, 68, 69, 70, 139, 461, 462, 463, 464, 465, 466, 152, 153, 154, 2, 155, 156, 157, 158, 159, 756, 757, 758, 759, 760, 761, 762, 787, 788, 777, 778, 779, 780, 781, 782, 783, 784, 785, 786, 800, 801, 802, 803, 804, 805, 806, 807, 808, 809, 810, 811, 812, 813, 814, 815, 816, 817] (by decide +kernel) (by decide +kernel)
set_option maxRecDepth 20000 in
theorem gL_law_X6_set : GoodIn wsL_law (wsV RL 45 RX6 yX6_set wsX6_set) := goodIn_app (goodIn_of _ (by decide +kernel)) ggL_law_X6_set
set_option maxRecDepth 20000 in
theorem ggL_law_X7_set : GoodIn wsL_law wsX7_set := goodIn_r _ [470, 97, 164, 165, 166, 5, 167, 98, 471, 472, 473, 172, 173, 174, 175, 176, 177, 178, 179, 100, 180, 181, 182, 183, 763, 764, 765, 766, 767, 768, 769, 770, 771, 772, 773, 774, 775, 776] (by decide +kernel) (by decide +kernel)
set_option maxRecDepth 20000 in
theorem gL_law_X7_set : GoodIn wsL_law (wsV RL 48 RX7 yX7_set wsX7_set) := goodIn_app (goodIn_of _ (by decide +kernel)) ggL_law_X7_set
