set_option maxRecDepth 20000 in
theorem ggL_law_L_acts_p2 : GoodIn wsL_law wsL_acts_r2 := goodIn_r _ [109, 27, 110, 111, 112, 38, 113, 114, 65, 115, 116, 117, 118, 62, 119, 120, 121, 11, 122, 123, 41, 124, 125, 126] (by decide +kernel) (by decide +kernel)
set_option maxRecDepth 20000 in
theorem ggL_law_L_acts_p3 : GoodIn wsL_law wsL_acts_r3 := goodIn_r _ [127, 43, 297, 298, 299, 300, 279, 280, 281, 17, 282, 273, 73, 274, 156, 157, 158, 35, 39, 159, 160, 161, 162, 163] (by decide +kernel) (by decide +kernel)
set_option maxRecDepth 20000 in
theorem ggL_law_L_acts_p4 : GoodIn wsL_law wsL_acts_r4 := goodIn_r _ [164, 165, 166, 167, 168, 169, 170, 34, 171, 49, 172, 50, 51, 52, 53, 54, 55, 56, 57, 173, 174, 175, 176, 177] (by decide +kernel) (by decide +kernel)
set_option maxRecDepth 20000 in
theorem ggL_law_L_acts_p5 : GoodIn wsL_law wsL_acts_r5 := goodIn_r _ [178, 179, 63, 64, 66, 67, 301, 302, 303, 304, 305, 306, 242, 243, 307, 308, 309, 310, 289, 290, 291, 292, 293, 294] (by decide +kernel) (by decide +kernel)
set_option maxRecDepth 20000 in
theorem ggL_law_L_acts_p6 : GoodIn wsL_law wsL_acts_r6 := goodIn_r _ [295, 296, 234, 235, 236, 237, 238, 239, 240, 241, 244, 203, 204, 205, 245, 246, 247, 248, 249, 250, 251, 252, 311, 312] (by decide +kernel) (by decide +kernel)
set_option maxRecDepth 20000 in
theorem ggL_law_L_acts_p7 : GoodIn wsL_law wsL_acts_r7 := goodIn_r _ [313, 314, 315, 316, 317, 318, 319, 192, 320, 321, 322, 323, 324, 325, 326, 327, 328, 355, 356, 357, 358, 13, 359, 360] (by decide +kernel) (by decide +kernel)
set_option maxRecDepth 20000 in
theorem ggL_law_L_acts_p8 : GoodIn wsL_law wsL_acts_r8 := goodIn_r _ [361, 362, 155, 363, 364, 365, 366, 367, 368, 369, 370, 261, 262, 263, 264, 185, 186, 187, 188, 189, 190, 140, 191, 193] (by decide +kernel) (by decide +kernel)
set_option maxRecDepth 20000 in
theorem ggL_law_L_acts_p9 : GoodIn wsL_law wsL_acts_r9 := goodIn_r _ [194, 195, 196, 197, 198, 199, 200, 201, 202, 206, 207, 208, 209, 210, 211, 212, 213, 214, 215, 216, 217, 218, 219, 220] (by decide +kernel) (by decide +kernel)
set_option maxRecDepth 20000 in
theorem ggL_law_L_acts_p10 : GoodIn wsL_law wsL_acts_r10 := goodIn_r _ [221, 222, 223, 224, 225, 226, 227, 228, 229, 371, 372, 373, 374, 375, 376, 377, 378, 379, 380, 381, 382, 128, 129, 130] (by decide +kernel) (by decide +kernel)
set_option maxRecDepth 20000 in
theorem ggL_law_L_acts_p11 : GoodIn wsL_law wsL_acts_r11 := goodIn_r _ [131, 132, 133, 134, 135, 136, 137, 138, 139, 141, 142, 143, 144, 145, 383, 384, 385, 386, 387, 388, 389, 390, 391, 392] (by decide +kernel) (by decide +kernel)
set_option maxRecDepth 20000 in
theorem ggL_law_L_acts_p12 : GoodIn wsL_law wsL_acts_r12 := goodIn_r _ [393, 394, 395, 396, 397, 398, 399, 400, 401, 402, 403, 404, 405, 406, 407, 408, 409, 410, 411, 412, 413, 414, 415, 416] (by decide +kernel) (by decide +kernel)
set_option maxRecDepth 20000 in
theorem ggL_law_L_acts_p13 : GoodIn wsL_law wsL_acts_r13 := goodIn_r _ [417, 275, 276, 277, 278, 283, 284, 285, 286, 287, 288, 418, 419, 420, 421, 14, 422, 423, 424, 425, 426, 427, 428, 429] (by decide +kernel) (by decide +kernel)
set_option maxRecDepth 20000 in
theorem ggL_law_L_acts_p14 : GoodIn wsL_law wsL_acts_r14 := goodIn_r _ [430, 431, 432, 433, 434, 435, 436, 437, 438, 439, 21, 440, 441, 80, 442, 443, 444, 445, 446, 447, 448, 449, 450, 451] (by decide +kernel) (by decide +kernel)
set_option maxRecDepth 20000 in
theorem ggL_law_L_acts_p15 : GoodIn wsL_law wsL_acts_r15 := goodIn_r _ [26, 452, 453, 454, 455, 456, 457, 25, 458, 87, 459, 460, 461, 462, 463, 464, 465, 466, 467, 468, 469, 470, 471, 472] (by decide +kernel) (by decide +kernel)
set_option maxRecDepth 20000 in
theorem ggL_law_L_acts_p16 : GoodIn wsL_law wsL_acts_r16 := goodIn_r _ [473, 81, 474, 475, 476, 477, 478, 479, 480, 481, 482, 483, 484, 485, 486, 487, 488, 489, 490, 491, 492, 493, 494, 88] (by decide +kernel) (by decide +kernel)
set_option maxRecDepth 20000 in
theorem ggL_law_L_acts_p17 : GoodIn wsL_law wsL_acts_r17 := goodIn_r _ [495, 496, 497, 498, 499, 500, 501, 502, 503, 504, 505, 506] (by decide +kernel) (by decide +kernel)
set_option maxRecDepth 20000 in
theorem ggL_law_L_acts_p18 : GoodIn wsL_law wsX60 := goodIn_r _ [507, 508, 509, 510, 511, 512, 513] (by decide +kernel) (by decide +kernel)
set_option maxRecDepth 20000 in
theorem ggL_law_L_acts_p19 : GoodIn wsL_law wsX10 := goodIn_r _ [514, 515, 516, 517, 518, 519, 520, 521, 522, 523] (by decide +kernel) (by decide +kernel)
set_option maxRecDepth 20000 in
theorem ggL_law_L_acts_p20 : GoodIn wsL_law wsX20 := goodIn_r _ [548, 549, 550, 551, 552, 553, 554] (by decide +kernel) (by decide +kernel)
