set_option maxRecDepth 20000 in
theorem ggL_acts_X6_restore : GoodIn wsL_acts wsX6_restore := goodIn_r _ [308, 26, 22, 11, 304, 14, 55, 56, 57, 58, 59, 60, 61, 62, 63, 64, 42, 65, 66, 67, 45, 68, 69, 70, 71, 50, 44, 72, 73, 74, 75, 76, 77, 78, 79, 80, 81, 82, 83, 84, 85, 86, 87, 88, 89, 90, 91, 92, 93, 94, 95, 96, 30, 97, 38, 98, 99, 100, 33, 101, 102, 32, 171, 115, 116, 117, 9, 118, 119, 120, 121, 122, 397, 398, 399, 400, 401, 402, 403, 404, 405, 406, 407, 408, 409, 410, 411, 412, 413, 432, 433, 421, 422, 423, 424, 425, 426, 427, 428, 429, 430, 431, 414, 415, 416, 417, 418, 419, 420] (by decide +kernel) (by decide +kernel)
set_option maxRecDepth 20000 in
theorem gL_acts_X6_restore : GoodIn wsL_acts (wsV RL 88 RX6 yX6_restore wsX6_restore) := goodIn_app (goodIn_of _ (by decide +kernel)) ggL_acts_X6_restore
set_option maxRecDepth 20000 in
theorem ggL_acts_L_types : GoodIn wsL_acts wsL_types := goodIn_r _ [311, 1, 2, 3, 4, 5, 312, 313, 314, 9, 315, 24, 25, 316, 317, 318, 319, 320, 321, 322, 323, 324, 325, 326, 6, 7, 8, 10, 11, 12, 13, 14, 15, 16, 17, 18, 19, 20, 21, 22, 23, 26, 27, 28, 29, 30, 31, 32, 33, 34, 35, 36, 37, 38, 39, 40, 41, 42, 43, 44, 45, 46, 47, 48, 49, 50, 327, 328, 329, 397, 398, 399, 400, 401, 402, 403, 434, 435, 436, 437, 438, 404, 405, 406, 407, 408, 409, 410, 411, 412, 413, 414, 415, 416, 417, 418, 419, 420, 421, 422, 423, 424, 425, 426, 427, 428, 429, 430, 431, 432, 433] (by decide +kernel) (by decide +kernel)
set_option maxRecDepth 20000 in
theorem gL_acts_L_types : GoodIn wsL_acts (va_wsS RL 91 yL_types wsL_types) := goodIn_app (goodIn_of _ (by decide +kernel)) ggL_acts_L_types
set_option maxRecDepth 20000 in
theorem ggL_acts_L_reads_p0 : GoodIn wsL_acts [Cond.code yL_reads cL_reads 8 (some .boolean)] := goodIn_r _ [332] (by decide +kernel) (by decide +kernel)
set_option maxRecDepth 20000 in
theorem ggL_acts_L_reads_p1 : GoodIn wsL_acts wsL_reads_r1 := goodIn_r _ [333, 334, 335, 9, 336, 337, 24, 11, 338, 339, 340, 341, 342, 343, 344, 345, 346, 347, 348, 349, 350, 351, 352, 353] (by decide +kernel) (by decide +kernel)
set_option maxRecDepth 20000 in
theorem ggL_acts_L_reads_p2 : GoodIn wsL_acts wsL_reads_r2 := goodIn_r _ [354, 355, 63, 64, 42, 65, 66, 67, 45, 68, 69, 70, 71, 50, 44, 72, 73, 74, 75, 76, 77, 78, 79, 80] (by decide +kernel) (by decide +kernel)
set_option maxRecDepth 20000 in
theorem ggL_acts_L_reads_p3 : GoodIn wsL_acts wsL_reads_r3 := goodIn_r _ [81, 82, 83, 84, 85, 86, 87, 88, 89, 90, 91, 92, 93, 94, 95, 96, 30, 97, 38, 98, 99, 100, 33, 101] (by decide +kernel) (by decide +kernel)
set_option maxRecDepth 20000 in
theorem ggL_acts_L_reads_p4 : GoodIn wsL_acts wsL_reads_r4 := goodIn_r _ [102, 32, 356, 357, 358, 323, 359, 360, 361, 362, 363, 364, 365, 366, 325, 326, 367, 368, 369, 370, 371, 372, 373, 374] (by decide +kernel) (by decide +kernel)
set_option maxRecDepth 20000 in
theorem ggL_acts_L_reads_p5 : GoodIn wsL_acts wsL_reads_r5 := goodIn_r _ [375, 376, 377, 378, 379, 249, 190, 250, 380, 381, 382, 383, 384, 385, 104, 105, 106, 107, 108, 109, 110, 111, 112, 113] (by decide +kernel) (by decide +kernel)
set_option maxRecDepth 20000 in
theorem ggL_acts_L_reads_p6 : GoodIn wsL_acts wsL_reads_r6 := goodIn_r _ [114, 386, 148, 149, 150, 151, 152, 40, 41, 43, 153, 154, 155, 156, 157, 158, 159, 160, 161, 387, 231, 232, 233, 234] (by decide +kernel) (by decide +kernel)
set_option maxRecDepth 20000 in
theorem ggL_acts_L_reads_p7 : GoodIn wsL_acts wsL_reads_r7 := goodIn_r _ [235, 168, 169, 170, 236, 237, 173, 174, 175, 176, 177, 178, 179, 180, 181, 182, 183, 184, 185, 186, 187, 188, 189, 191] (by decide +kernel) (by decide +kernel)
set_option maxRecDepth 20000 in
theorem ggL_acts_L_reads_p8 : GoodIn wsL_acts wsL_reads_r8 := goodIn_r _ [192, 193, 194, 195, 196, 35, 36, 37, 197, 198, 199, 200, 201, 132, 133, 134, 202, 203, 204, 205, 206, 207, 208, 209] (by decide +kernel) (by decide +kernel)
set_option maxRecDepth 20000 in
theorem ggL_acts_L_reads_p9 : GoodIn wsL_acts wsL_reads_r9 := goodIn_r _ [210, 211, 212, 213, 214, 215, 216, 217, 218, 219, 220, 221, 222, 223, 224, 225, 388, 260, 261, 262, 263, 264, 252, 253] (by decide +kernel) (by decide +kernel)
set_option maxRecDepth 20000 in
theorem ggL_acts_L_reads_p10 : GoodIn wsL_acts wsL_reads_r10 := goodIn_r _ [254, 265, 28, 29, 31, 389, 271, 272, 273, 390, 287, 288, 289, 6, 7, 8, 10, 12, 13, 14, 15, 16, 17, 18] (by decide +kernel) (by decide +kernel)
set_option maxRecDepth 20000 in
theorem ggL_acts_L_reads_p11 : GoodIn wsL_acts wsL_reads_r11 := goodIn_r _ [19, 20, 21, 22, 23, 25, 26, 27, 34, 39, 46, 47, 48, 49, 391, 392, 393, 394, 395, 396, 55, 56, 57, 58] (by decide +kernel) (by decide +kernel)
set_option maxRecDepth 20000 in
theorem ggL_acts_L_reads_p12 : GoodIn wsL_acts wsL_reads_r12 := goodIn_r _ [59, 60, 61, 62, 171, 115, 116, 117, 118, 119, 120, 121, 122] (by decide +kernel) (by decide +kernel)
set_option maxRecDepth 20000 in
theorem ggL_acts_L_reads_p13 : GoodIn wsL_acts wsX60 := goodIn_r _ [397, 398, 399, 400, 401, 402, 403] (by decide +kernel) (by decide +kernel)
set_option maxRecDepth 20000 in
theorem ggL_acts_L_reads_p14 : GoodIn wsL_acts wsX30 := goodIn_r _ [439, 440, 441, 442, 443, 444] (by decide +kernel) (by decide +kernel)
set_option maxRecDepth 20000 in
theorem ggL_acts_L_reads_p15 : GoodIn wsL_acts wsX50 := goodIn_r _ [434, 435, 436, 437, 438] (by decide +kernel) (by decide +kernel)
set_option maxRecDepth 20000 in
theorem ggL_acts_L_reads_p16 : GoodIn wsL_acts wsX10 := goodIn_r _ [404, 405, 406, 407, 408, 409, 410, 411, 412, 413] (by decide +kernel) (by decide +kernel)
set_option maxRecDepth 20000 in
theorem ggL_acts_L_reads_p17 : GoodIn wsL_acts wsX40 := goodIn_r _ [421, 422, 423, 424, 425, 426, 427, 428, 429, 430, 431] (by decide +kernel) (by decide +kernel)
set_option maxRecDepth 20000 in
theorem ggL_acts_L_reads_p18 : GoodIn wsL_acts wsX20 := goodIn_r _ [414, 415, 416, 417, 418, 419, 420] (by decide +kernel) (by decide +kernel)
set_option maxRecDepth 20000 in
theorem ggL_acts_L_reads_p19 : GoodIn wsL_acts wsX00 := goodIn_r _ [432, 433] (by decide +kernel) (by decide +kernel)
theorem ggL_acts_L_reads : GoodIn wsL_acts wsL_reads := goodIn_app (a := [Cond.code yL_reads cL_reads 8 (some .boolean)]) ggL_acts_L_reads_p0 (goodIn_app (goodIn_app (goodIn_app (goodIn_app (goodIn_app (goodIn_app (goodIn_app (goodIn_app ggL_acts_L_reads_p1 (goodIn_app ggL_acts_L_reads_p2 (goodIn_app ggL_acts_L_reads_p3 (goodIn_app ggL_acts_L_reads_p4 (goodIn_app ggL_acts_L_reads_p5 (goodIn_app ggL_acts_L_reads_p6 (goodIn_app ggL_acts_L_reads_p7 (goodIn_app ggL_acts_L_reads_p8 (goodIn_app ggL_acts_L_reads_p9 (goodIn_app ggL_acts_L_reads_p10 (goodIn_app ggL_acts_L_reads_p11 ggL_acts_L_reads_p12))))))))))) ggL_acts_L_reads_p13) ggL_acts_L_reads_p14) ggL_acts_L_reads_p15) ggL_acts_L_reads_p16) ggL_acts_L_reads_p17) ggL_acts_L_reads_p18) ggL_acts_L_reads_p19)
set_option maxRecDepth 20000 in
theorem gL_acts_L_reads : GoodIn wsL_acts (va_wsS RL 94 yL_reads wsL_reads) := goodIn_app (goodIn_of _ (by decide +kernel)) ggL_acts_L_reads
theorem dL_acts_0 : decode cL_acts 0 = .ok (.iload_n 1, 1) := by decide +kernel
theorem dL_acts_1 : decode cL_acts 1 = .ok (.bipush 20, 2) := by decide +kernel
theorem dL_acts_3 : decode cL_acts 3 = .ok (.invokestatic 41, 3) := by decide +kernel
theorem dL_acts_6 : decode cL_acts 6 = .ok (.istore_n 3, 1) := by decide +kernel
theorem dL_acts_7 : decode cL_acts 7 = .ok (.aload_n 0, 1) := by decide +kernel
theorem dL_acts_8 : decode cL_acts 8 = .ok (.iconst 4, 1) := by decide +kernel
theorem dL_acts_9 : decode cL_acts 9 = .ok (.invokevirtual 13, 3) := by decide +kernel
theorem dL_acts_12 : decode cL_acts 12 = .ok (.istore 4, 2) := by decide +kernel
theorem dL_acts_14 : decode cL_acts 14 = .ok (.aload_n 0, 1) := by decide +kernel
theorem dL_acts_15 : decode cL_acts 15 = .ok (.iconst 0, 1) := by decide +kernel
theorem dL_acts_16 : decode cL_acts 16 = .ok (.invokevirtual 13, 3) := by decide +kernel
theorem dL_acts_19 : decode cL_acts 19 = .ok (.istore 5, 2) := by decide +kernel
theorem dL_acts_21 : decode cL_acts 21 = .ok (.iload_n 1, 1) := by decide +kernel
theorem dL_acts_22 : decode cL_acts 22 = .ok (.iconst 5, 1) := by decide +kernel
theorem dL_acts_23 : decode cL_acts 23 = .ok (.ishr, 1) := by decide +kernel
theorem dL_acts_24 : decode cL_acts 24 = .ok (.iload 5, 2) := by decide +kernel
theorem dL_acts_26 : decode cL_acts 26 = .ok (.iconst 1, 1) := by decide +kernel
theorem dL_acts_27 : decode cL_acts 27 = .ok (.iadd, 1) := by decide +kernel
theorem dL_acts_28 : decode cL_acts 28 = .ok (.invokestatic 41, 3) := by decide +kernel
theorem dL_acts_31 : decode cL_acts 31 = .ok (.istore 6, 2) := by decide +kernel
theorem dL_acts_33 : decode cL_acts 33 = .ok (.iload_n 3, 1) := by decide +kernel
theorem dL_acts_34 : decode cL_acts 34 = .ok (.iconst 4, 1) := by decide +kernel
theorem dL_acts_35 : decode cL_acts 35 = .ok (.if_icmp .ge 89, 3) := by decide +kernel
theorem dL_acts_38 : decode cL_acts 38 = .ok (.iload_n 2, 1) := by decide +kernel
theorem dL_acts_39 : decode cL_acts 39 = .ok (.iconst 4, 1) := by decide +kernel
theorem dL_acts_40 : decode cL_acts 40 = .ok (.invokestatic 41, 3) := by decide +kernel
theorem dL_acts_43 : decode cL_acts 43 = .ok (.istore 7, 2) := by decide +kernel
theorem dL_acts_45 : decode cL_acts 45 = .ok (.iload_n 2, 1) := by decide +kernel
theorem dL_acts_46 : decode cL_acts 46 = .ok (.iconst 2, 1) := by decide +kernel
theorem dL_acts_47 : decode cL_acts 47 = .ok (.ishr, 1) := by decide +kernel
theorem dL_acts_48 : decode cL_acts 48 = .ok (.bipush 80, 2) := by decide +kernel
theorem dL_acts_50 : decode cL_acts 50 = .ok (.invokestatic 41, 3) := by decide +kernel
theorem dL_acts_53 : decode cL_acts 53 = .ok (.istore 8, 2) := by decide +kernel
theorem dL_acts_55 : decode cL_acts 55 = .ok (.iload_n 2, 1) := by decide +kernel
theorem dL_acts_56 : decode cL_acts 56 = .ok (.bipush 9, 2) := by decide +kernel
theorem dL_acts_58 : decode cL_acts 58 = .ok (.ishr, 1) := by decide +kernel
theorem dL_acts_59 : decode cL_acts 59 = .ok (.bipush 30, 2) := by decide +kernel
theorem dL_acts_61 : decode cL_acts 61 = .ok (.invokestatic 41, 3) := by decide +kernel
theorem dL_acts_64 : decode cL_acts 64 = .ok (.istore 9, 2) := by decide +kernel
theorem dL_acts_66 : decode cL_acts 66 = .ok (.aload_n 0, 1) := by decide +kernel
theorem dL_acts_67 : decode cL_acts 67 = .ok (.bipush 7, 2) := by decide +kernel
theorem dL_acts_69 : decode cL_acts 69 = .ok (.invokevirtual 13, 3) := by decide +kernel
theorem dL_acts_72 : decode cL_acts 72 = .ok (.istore 10, 2) := by decide +kernel
theorem dL_acts_74 : decode cL_acts 74 = .ok (.aload_n 0, 1) := by decide +kernel
theorem dL_acts_75 : decode cL_acts 75 = .ok (.iload 7, 2) := by decide +kernel
theorem dL_acts_77 : decode cL_acts 77 = .ok (.iload 8, 2) := by decide +kernel
theorem dL_acts_79 : decode cL_acts 79 = .ok (.iload 9, 2) := by decide +kernel
theorem dL_acts_81 : decode cL_acts 81 = .ok (.invokevirtual 58, 3) := by decide +kernel
theorem dL_acts_84 : decode cL_acts 84 = .ok (.iload 7, 2) := by decide +kernel
theorem dL_acts_86 : decode cL_acts 86 = .ok (.iconst 3, 1) := by decide +kernel
theorem dL_acts_87 : decode cL_acts 87 = .ok (.if_icmp .eq 8, 3) := by decide +kernel
theorem dL_acts_90 : decode cL_acts 90 = .ok (.iload 8, 2) := by decide +kernel
theorem dL_acts_92 : decode cL_acts 92 = .ok (.ifCond .ne 7, 3) := by decide +kernel
theorem dL_acts_95 : decode cL_acts 95 = .ok (.iconst (-1), 1) := by decide +kernel
theorem dL_acts_96 : decode cL_acts 96 = .ok (.goto 19, 3) := by decide +kernel
theorem dL_acts_99 : decode cL_acts 99 = .ok (.iload 10, 2) := by decide +kernel
theorem dL_acts_101 : decode cL_acts 101 = .ok (.bipush 6, 2) := by decide +kernel
theorem dL_acts_103 : decode cL_acts 103 = .ok (.if_icmp .ne 8, 3) := by decide +kernel
theorem dL_acts_106 : decode cL_acts 106 = .ok (.bipush (-3), 2) := by decide +kernel
theorem dL_acts_108 : decode cL_acts 108 = .ok (.goto 7, 3) := by decide +kernel
theorem dL_acts_111 : decode cL_acts 111 = .ok (.iload 10, 2) := by decide +kernel
theorem dL_acts_113 : decode cL_acts 113 = .ok (.iconst 1, 1) := by decide +kernel
theorem dL_acts_114 : decode cL_acts 114 = .ok (.iadd, 1) := by decide +kernel
theorem dL_acts_115 : decode cL_acts 115 = .ok (.if_icmp .ne 7, 3) := by decide +kernel
theorem dL_acts_118 : decode cL_acts 118 = .ok (.iconst 1, 1) := by decide +kernel
theorem dL_acts_119 : decode cL_acts 119 = .ok (.goto 4, 3) := by decide +kernel
theorem dL_acts_122 : decode cL_acts 122 = .ok (.iconst 0, 1) := by decide +kernel
theorem dL_acts_123 : decode cL_acts 123 = .ok (.ireturn, 1) := by decide +kernel
theorem dL_acts_124 : decode cL_acts 124 = .ok (.iload_n 3, 1) := by decide +kernel
theorem dL_acts_125 : decode cL_acts 125 = .ok (.bipush 7, 2) := by decide +kernel
theorem dL_acts_127 : decode cL_acts 127 = .ok (.if_icmp .ge 101, 3) := by decide +kernel
theorem dL_acts_130 : decode cL_acts 130 = .ok (.aload_n 0, 1) := by decide +kernel
theorem dL_acts_131 : decode cL_acts 131 = .ok (.bipush 7, 2) := by decide +kernel
theorem dL_acts_133 : decode cL_acts 133 = .ok (.invokevirtual 13, 3) := by decide +kernel
theorem dL_acts_136 : decode cL_acts 136 = .ok (.istore 7, 2) := by decide +kernel
theorem dL_acts_138 : decode cL_acts 138 = .ok (.aload_n 0, 1) := by decide +kernel
theorem dL_acts_139 : decode cL_acts 139 = .ok (.iconst 0, 1) := by decide +kernel
theorem dL_acts_140 : decode cL_acts 140 = .ok (.iconst 4, 1) := by decide +kernel
theorem dL_acts_141 : decode cL_acts 141 = .ok (.invokevirtual 19, 3) := by decide +kernel
theorem dL_acts_144 : decode cL_acts 144 = .ok (.aload_n 0, 1) := by decide +kernel
theorem dL_acts_145 : decode cL_acts 145 = .ok (.iconst 1, 1) := by decide +kernel
theorem dL_acts_146 : decode cL_acts 146 = .ok (.iconst 4, 1) := by decide +kernel
theorem dL_acts_147 : decode cL_acts 147 = .ok (.invokevirtual 19, 3) := by decide +kernel
theorem dL_acts_150 : decode cL_acts 150 = .ok (.iadd, 1) := by decide +kernel
theorem dL_acts_151 : decode cL_acts 151 = .ok (.aload_n 0, 1) := by decide +kernel
theorem dL_acts_152 : decode cL_acts 152 = .ok (.iconst 2, 1) := by decide +kernel
theorem dL_acts_153 : decode cL_acts 153 = .ok (.iconst 4, 1) := by decide +kernel
theorem dL_acts_154 : decode cL_acts 154 = .ok (.invokevirtual 19, 3) := by decide +kernel
theorem dL_acts_157 : decode cL_acts 157 = .ok (.iadd, 1) := by decide +kernel
theorem dL_acts_158 : decode cL_acts 158 = .ok (.istore 8, 2) := by decide +kernel
theorem dL_acts_160 : decode cL_acts 160 = .ok (.iload 7, 2) := by decide +kernel
theorem dL_acts_162 : decode cL_acts 162 = .ok (.ifCond .eq 27, 3) := by decide +kernel
theorem dL_acts_165 : decode cL_acts 165 = .ok (.aload_n 0, 1) := by decide +kernel
theorem dL_acts_166 : decode cL_acts 166 = .ok (.iconst 5, 1) := by decide +kernel
theorem dL_acts_167 : decode cL_acts 167 = .ok (.invokevirtual 13, 3) := by decide +kernel
theorem dL_acts_170 : decode cL_acts 170 = .ok (.iconst 1, 1) := by decide +kernel
theorem dL_acts_171 : decode cL_acts 171 = .ok (.if_icmp .eq 18, 3) := by decide +kernel
theorem dL_acts_174 : decode cL_acts 174 = .ok (.aload_n 0, 1) := by decide +kernel
theorem dL_acts_175 : decode cL_acts 175 = .ok (.bipush 6, 2) := by decide +kernel
theorem dL_acts_177 : decode cL_acts 177 = .ok (.invokevirtual 13, 3) := by decide +kernel
theorem dL_acts_180 : decode cL_acts 180 = .ok (.aload_n 0, 1) := by decide +kernel
theorem dL_acts_181 : decode cL_acts 181 = .ok (.bipush 23, 2) := by decide +kernel
theorem dL_acts_183 : decode cL_acts 183 = .ok (.invokevirtual 13, 3) := by decide +kernel
theorem dL_acts_186 : decode cL_acts 186 = .ok (.if_icmp .lt 8, 3) := by decide +kernel
theorem dL_acts_189 : decode cL_acts 189 = .ok (.bipush (-2), 2) := by decide +kernel
theorem dL_acts_191 : decode cL_acts 191 = .ok (.goto 20, 3) := by decide +kernel
theorem dL_acts_194 : decode cL_acts 194 = .ok (.iload 8, 2) := by decide +kernel
theorem dL_acts_196 : decode cL_acts 196 = .ok (.iload 7, 2) := by decide +kernel
theorem dL_acts_198 : decode cL_acts 198 = .ok (.iadd, 1) := by decide +kernel
theorem dL_acts_199 : decode cL_acts 199 = .ok (.bipush 20, 2) := by decide +kernel
theorem dL_acts_201 : decode cL_acts 201 = .ok (.if_icmp .le 8, 3) := by decide +kernel
theorem dL_acts_204 : decode cL_acts 204 = .ok (.bipush (-3), 2) := by decide +kernel
theorem dL_acts_206 : decode cL_acts 206 = .ok (.goto 5, 3) := by decide +kernel
theorem dL_acts_209 : decode cL_acts 209 = .ok (.iload 7, 2) := by decide +kernel
theorem dL_acts_211 : decode cL_acts 211 = .ok (.istore 9, 2) := by decide +kernel
theorem dL_acts_213 : decode cL_acts 213 = .ok (.aload_n 0, 1) := by decide +kernel
theorem dL_acts_214 : decode cL_acts 214 = .ok (.invokevirtual 61, 3) := by decide +kernel
theorem dL_acts_217 : decode cL_acts 217 = .ok (.iload 9, 2) := by decide +kernel
theorem dL_acts_219 : decode cL_acts 219 = .ok (.if_icmp .ne 7, 3) := by decide +kernel
theorem dL_acts_222 : decode cL_acts 222 = .ok (.iconst 1, 1) := by decide +kernel
theorem dL_acts_223 : decode cL_acts 223 = .ok (.goto 4, 3) := by decide +kernel
theorem dL_acts_226 : decode cL_acts 226 = .ok (.iconst 0, 1) := by decide +kernel
theorem dL_acts_227 : decode cL_acts 227 = .ok (.ireturn, 1) := by decide +kernel
theorem dL_acts_228 : decode cL_acts 228 = .ok (.iload_n 3, 1) := by decide +kernel
theorem dL_acts_229 : decode cL_acts 229 = .ok (.bipush 11, 2) := by decide +kernel
theorem dL_acts_231 : decode cL_acts 231 = .ok (.if_icmp .ge 237, 3) := by decide +kernel
theorem dL_acts_234 : decode cL_acts 234 = .ok (.iload_n 2, 1) := by decide +kernel
theorem dL_acts_235 : decode cL_acts 235 = .ok (.bipush 8, 2) := by decide +kernel
theorem dL_acts_237 : decode cL_acts 237 = .ok (.invokestatic 41, 3) := by decide +kernel
theorem dL_acts_240 : decode cL_acts 240 = .ok (.istore 7, 2) := by decide +kernel
theorem dL_acts_242 : decode cL_acts 242 = .ok (.iload 4, 2) := by decide +kernel
theorem dL_acts_244 : decode cL_acts 244 = .ok (.iload_n 2, 1) := by decide +kernel
theorem dL_acts_245 : decode cL_acts 245 = .ok (.iconst 3, 1) := by decide +kernel
theorem dL_acts_246 : decode cL_acts 246 = .ok (.ishr, 1) := by decide +kernel
theorem dL_acts_247 : decode cL_acts 247 = .ok (.bipush 9, 2) := by decide +kernel
theorem dL_acts_249 : decode cL_acts 249 = .ok (.invokestatic 41, 3) := by decide +kernel
theorem dL_acts_252 : decode cL_acts 252 = .ok (.iadd, 1) := by decide +kernel
theorem dL_acts_253 : decode cL_acts 253 = .ok (.istore 8, 2) := by decide +kernel
theorem dL_acts_255 : decode cL_acts 255 = .ok (.iload_n 2, 1) := by decide +kernel
theorem dL_acts_256 : decode cL_acts 256 = .ok (.bipush 7, 2) := by decide +kernel
theorem dL_acts_258 : decode cL_acts 258 = .ok (.ishr, 1) := by decide +kernel
theorem dL_acts_259 : decode cL_acts 259 = .ok (.bipush 7, 2) := by decide +kernel
theorem dL_acts_261 : decode cL_acts 261 = .ok (.invokestatic 41, 3) := by decide +kernel
theorem dL_acts_264 : decode cL_acts 264 = .ok (.istore 9, 2) := by decide +kernel
theorem dL_acts_266 : decode cL_acts 266 = .ok (.iload 7, 2) := by decide +kernel
theorem dL_acts_268 : decode cL_acts 268 = .ok (.ifCond .eq 23, 3) := by decide +kernel
theorem dL_acts_271 : decode cL_acts 271 = .ok (.iload 7, 2) := by decide +kernel
theorem dL_acts_273 : decode cL_acts 273 = .ok (.bipush 7, 2) := by decide +kernel
theorem dL_acts_275 : decode cL_acts 275 = .ok (.if_icmp .eq 16, 3) := by decide +kernel
theorem dL_acts_278 : decode cL_acts 278 = .ok (.iload 9, 2) := by decide +kernel
theorem dL_acts_280 : decode cL_acts 280 = .ok (.ifCond .eq 11, 3) := by decide +kernel
theorem dL_acts_283 : decode cL_acts 283 = .ok (.iload 8, 2) := by decide +kernel
theorem dL_acts_285 : decode cL_acts 285 = .ok (.sipush 365, 3) := by decide +kernel
theorem dL_acts_288 : decode cL_acts 288 = .ok (.if_icmp .le 7, 3) := by decide +kernel
theorem dL_acts_291 : decode cL_acts 291 = .ok (.iconst 1, 1) := by decide +kernel
theorem dL_acts_292 : decode cL_acts 292 = .ok (.goto 4, 3) := by decide +kernel
theorem dL_acts_295 : decode cL_acts 295 = .ok (.iconst 0, 1) := by decide +kernel
theorem dL_acts_296 : decode cL_acts 296 = .ok (.istore 10, 2) := by decide +kernel
theorem dL_acts_298 : decode cL_acts 298 = .ok (.aload_n 0, 1) := by decide +kernel
theorem dL_acts_299 : decode cL_acts 299 = .ok (.iload 8, 2) := by decide +kernel
theorem dL_acts_301 : decode cL_acts 301 = .ok (.iload 9, 2) := by decide +kernel
theorem dL_acts_303 : decode cL_acts 303 = .ok (.invokevirtual 64, 3) := by decide +kernel
theorem dL_acts_306 : decode cL_acts 306 = .ok (.istore 11, 2) := by decide +kernel
theorem dL_acts_308 : decode cL_acts 308 = .ok (.aload_n 0, 1) := by decide +kernel
theorem dL_acts_309 : decode cL_acts 309 = .ok (.iload 7, 2) := by decide +kernel
theorem dL_acts_311 : decode cL_acts 311 = .ok (.iload 8, 2) := by decide +kernel
theorem dL_acts_313 : decode cL_acts 313 = .ok (.iload 9, 2) := by decide +kernel
theorem dL_acts_315 : decode cL_acts 315 = .ok (.invokevirtual 67, 3) := by decide +kernel
theorem dL_acts_318 : decode cL_acts 318 = .ok (.istore 12, 2) := by decide +kernel
theorem dL_acts_320 : decode cL_acts 320 = .ok (.iload 8, 2) := by decide +kernel
theorem dL_acts_322 : decode cL_acts 322 = .ok (.sipush 365, 3) := by decide +kernel
theorem dL_acts_325 : decode cL_acts 325 = .ok (.if_icmp .gt 8, 3) := by decide +kernel
theorem dL_acts_328 : decode cL_acts 328 = .ok (.iload 9, 2) := by decide +kernel
theorem dL_acts_330 : decode cL_acts 330 = .ok (.ifCond .ne 17, 3) := by decide +kernel
theorem dL_acts_333 : decode cL_acts 333 = .ok (.iload 11, 2) := by decide +kernel
theorem dL_acts_335 : decode cL_acts 335 = .ok (.iconst (-1), 1) := by decide +kernel
theorem dL_acts_336 : decode cL_acts 336 = .ok (.if_icmp .ne 7, 3) := by decide +kernel
theorem dL_acts_339 : decode cL_acts 339 = .ok (.iconst 1, 1) := by decide +kernel
theorem dL_acts_340 : decode cL_acts 340 = .ok (.goto 46, 3) := by decide +kernel
theorem dL_acts_343 : decode cL_acts 343 = .ok (.iconst 0, 1) := by decide +kernel
theorem dL_acts_344 : decode cL_acts 344 = .ok (.goto 42, 3) := by decide +kernel
theorem dL_acts_347 : decode cL_acts 347 = .ok (.iload 5, 2) := by decide +kernel
theorem dL_acts_349 : decode cL_acts 349 = .ok (.bipush 16, 2) := by decide +kernel
theorem dL_acts_351 : decode cL_acts 351 = .ok (.if_icmp .ne 18, 3) := by decide +kernel
theorem dL_acts_354 : decode cL_acts 354 = .ok (.iload 11, 2) := by decide +kernel
theorem dL_acts_356 : decode cL_acts 356 = .ok (.bipush (-3), 2) := by decide +kernel
theorem dL_acts_358 : decode cL_acts 358 = .ok (.if_icmp .ne 7, 3) := by decide +kernel
theorem dL_acts_361 : decode cL_acts 361 = .ok (.iconst 1, 1) := by decide +kernel
theorem dL_acts_362 : decode cL_acts 362 = .ok (.goto 24, 3) := by decide +kernel
theorem dL_acts_365 : decode cL_acts 365 = .ok (.iconst 0, 1) := by decide +kernel
theorem dL_acts_366 : decode cL_acts 366 = .ok (.goto 20, 3) := by decide +kernel
theorem dL_acts_369 : decode cL_acts 369 = .ok (.iload 11, 2) := by decide +kernel
theorem dL_acts_371 : decode cL_acts 371 = .ok (.ifCond .lt 14, 3) := by decide +kernel
theorem dL_acts_374 : decode cL_acts 374 = .ok (.iload 11, 2) := by decide +kernel
theorem dL_acts_376 : decode cL_acts 376 = .ok (.bipush 6, 2) := by decide +kernel
theorem dL_acts_378 : decode cL_acts 378 = .ok (.if_icmp .gt 7, 3) := by decide +kernel
theorem dL_acts_381 : decode cL_acts 381 = .ok (.iconst 1, 1) := by decide +kernel
theorem dL_acts_382 : decode cL_acts 382 = .ok (.goto 4, 3) := by decide +kernel
theorem dL_acts_385 : decode cL_acts 385 = .ok (.iconst 0, 1) := by decide +kernel
theorem dL_acts_386 : decode cL_acts 386 = .ok (.istore 13, 2) := by decide +kernel
theorem dL_acts_388 : decode cL_acts 388 = .ok (.iload 13, 2) := by decide +kernel
theorem dL_acts_390 : decode cL_acts 390 = .ok (.ifCond .eq 76, 3) := by decide +kernel
theorem dL_acts_393 : decode cL_acts 393 = .ok (.iload 10, 2) := by decide +kernel
theorem dL_acts_395 : decode cL_acts 395 = .ok (.ifCond .eq 12, 3) := by decide +kernel
theorem dL_acts_398 : decode cL_acts 398 = .ok (.iload 12, 2) := by decide +kernel
theorem dL_acts_400 : decode cL_acts 400 = .ok (.iconst (-1), 1) := by decide +kernel
theorem dL_acts_401 : decode cL_acts 401 = .ok (.if_icmp .ne 65, 3) := by decide +kernel
theorem dL_acts_404 : decode cL_acts 404 = .ok (.goto 58, 3) := by decide +kernel
theorem dL_acts_407 : decode cL_acts 407 = .ok (.iload 5, 2) := by decide +kernel
theorem dL_acts_409 : decode cL_acts 409 = .ok (.bipush 16, 2) := by decide +kernel
theorem dL_acts_411 : decode cL_acts 411 = .ok (.if_icmp .ne 20, 3) := by decide +kernel
theorem dL_acts_414 : decode cL_acts 414 = .ok (.iload 12, 2) := by decide +kernel
theorem dL_acts_416 : decode cL_acts 416 = .ok (.bipush (-2), 2) := by decide +kernel
theorem dL_acts_418 : decode cL_acts 418 = .ok (.if_icmp .eq 44, 3) := by decide +kernel
theorem dL_acts_421 : decode cL_acts 421 = .ok (.iload 12, 2) := by decide +kernel
theorem dL_acts_423 : decode cL_acts 423 = .ok (.bipush (-3), 2) := by decide +kernel
theorem dL_acts_425 : decode cL_acts 425 = .ok (.if_icmp .ne 41, 3) := by decide +kernel
theorem dL_acts_428 : decode cL_acts 428 = .ok (.goto 34, 3) := by decide +kernel
theorem dL_acts_431 : decode cL_acts 431 = .ok (.iload 12, 2) := by decide +kernel
theorem dL_acts_433 : decode cL_acts 433 = .ok (.bipush (-2), 2) := by decide +kernel
theorem dL_acts_435 : decode cL_acts 435 = .ok (.if_icmp .ne 13, 3) := by decide +kernel
theorem dL_acts_438 : decode cL_acts 438 = .ok (.iload 11, 2) := by decide +kernel
theorem dL_acts_440 : decode cL_acts 440 = .ok (.iload 7, 2) := by decide +kernel
theorem dL_acts_442 : decode cL_acts 442 = .ok (.if_icmp .eq 24, 3) := by decide +kernel
theorem dL_acts_445 : decode cL_acts 445 = .ok (.goto 17, 3) := by decide +kernel
theorem dL_acts_448 : decode cL_acts 448 = .ok (.iload 12, 2) := by decide +kernel
theorem dL_acts_450 : decode cL_acts 450 = .ok (.iload 5, 2) := by decide +kernel
theorem dL_acts_452 : decode cL_acts 452 = .ok (.if_icmp .ne 14, 3) := by decide +kernel
theorem dL_acts_455 : decode cL_acts 455 = .ok (.iload 7, 2) := by decide +kernel
theorem dL_acts_457 : decode cL_acts 457 = .ok (.iload 11, 2) := by decide +kernel
theorem dL_acts_459 : decode cL_acts 459 = .ok (.if_icmp .gt 7, 3) := by decide +kernel
theorem dL_acts_462 : decode cL_acts 462 = .ok (.iconst 1, 1) := by decide +kernel
theorem dL_acts_463 : decode cL_acts 463 = .ok (.goto 4, 3) := by decide +kernel
theorem dL_acts_466 : decode cL_acts 466 = .ok (.iconst 0, 1) := by decide +kernel
theorem dL_acts_467 : decode cL_acts 467 = .ok (.ireturn, 1) := by decide +kernel
theorem dL_acts_468 : decode cL_acts 468 = .ok (.iload_n 3, 1) := by decide +kernel
theorem dL_acts_469 : decode cL_acts 469 = .ok (.bipush 11, 2) := by decide +kernel
theorem dL_acts_471 : decode cL_acts 471 = .ok (.if_icmp .ne 70, 3) := by decide +kernel
theorem dL_acts_474 : decode cL_acts 474 = .ok (.aload_n 0, 1) := by decide +kernel
theorem dL_acts_475 : decode cL_acts 475 = .ok (.iconst 1, 1) := by decide +kernel
theorem dL_acts_476 : decode cL_acts 476 = .ok (.invokevirtual 13, 3) := by decide +kernel
theorem dL_acts_479 : decode cL_acts 479 = .ok (.istore 7, 2) := by decide +kernel
theorem dL_acts_481 : decode cL_acts 481 = .ok (.iload 6, 2) := by decide +kernel
theorem dL_acts_483 : decode cL_acts 483 = .ok (.iload 5, 2) := by decide +kernel
theorem dL_acts_485 : decode cL_acts 485 = .ok (.if_icmp .ge 13, 3) := by decide +kernel
theorem dL_acts_488 : decode cL_acts 488 = .ok (.aload_n 0, 1) := by decide +kernel
theorem dL_acts_489 : decode cL_acts 489 = .ok (.iload 6, 2) := by decide +kernel
theorem dL_acts_491 : decode cL_acts 491 = .ok (.iconst 3, 1) := by decide +kernel
theorem dL_acts_492 : decode cL_acts 492 = .ok (.invokevirtual 27, 3) := by decide +kernel
theorem dL_acts_495 : decode cL_acts 495 = .ok (.goto 4, 3) := by decide +kernel
theorem dL_acts_498 : decode cL_acts 498 = .ok (.iconst 0, 1) := by decide +kernel
theorem dL_acts_499 : decode cL_acts 499 = .ok (.istore 8, 2) := by decide +kernel
theorem dL_acts_501 : decode cL_acts 501 = .ok (.aload_n 0, 1) := by decide +kernel
theorem dL_acts_502 : decode cL_acts 502 = .ok (.iload 6, 2) := by decide +kernel
theorem dL_acts_504 : decode cL_acts 504 = .ok (.invokevirtual 70, 3) := by decide +kernel
theorem dL_acts_507 : decode cL_acts 507 = .ok (.iload 6, 2) := by decide +kernel
theorem dL_acts_509 : decode cL_acts 509 = .ok (.iload 5, 2) := by decide +kernel
theorem dL_acts_511 : decode cL_acts 511 = .ok (.if_icmp .ne 7, 3) := by decide +kernel
theorem dL_acts_514 : decode cL_acts 514 = .ok (.iconst (-1), 1) := by decide +kernel
theorem dL_acts_515 : decode cL_acts 515 = .ok (.goto 17, 3) := by decide +kernel
theorem dL_acts_518 : decode cL_acts 518 = .ok (.iload 8, 2) := by decide +kernel
theorem dL_acts_520 : decode cL_acts 520 = .ok (.ifCond .le 8, 3) := by decide +kernel
theorem dL_acts_523 : decode cL_acts 523 = .ok (.bipush (-2), 2) := by decide +kernel
theorem dL_acts_525 : decode cL_acts 525 = .ok (.goto 7, 3) := by decide +kernel
theorem dL_acts_528 : decode cL_acts 528 = .ok (.iload 7, 2) := by decide +kernel
theorem dL_acts_530 : decode cL_acts 530 = .ok (.iconst 1, 1) := by decide +kernel
theorem dL_acts_531 : decode cL_acts 531 = .ok (.isub, 1) := by decide +kernel
theorem dL_acts_532 : decode cL_acts 532 = .ok (.if_icmp .ne 7, 3) := by decide +kernel
theorem dL_acts_535 : decode cL_acts 535 = .ok (.iconst 1, 1) := by decide +kernel
theorem dL_acts_536 : decode cL_acts 536 = .ok (.goto 4, 3) := by decide +kernel
theorem dL_acts_539 : decode cL_acts 539 = .ok (.iconst 0, 1) := by decide +kernel
theorem dL_acts_540 : decode cL_acts 540 = .ok (.ireturn, 1) := by decide +kernel
theorem dL_acts_541 : decode cL_acts 541 = .ok (.iload_n 3, 1) := by decide +kernel
theorem dL_acts_542 : decode cL_acts 542 = .ok (.bipush 12, 2) := by decide +kernel
theorem dL_acts_544 : decode cL_acts 544 = .ok (.if_icmp .ne 96, 3) := by decide +kernel
theorem dL_acts_547 : decode cL_acts 547 = .ok (.iload 4, 2) := by decide +kernel
theorem dL_acts_549 : decode cL_acts 549 = .ok (.iload_n 2, 1) := by decide +kernel
theorem dL_acts_550 : decode cL_acts 550 = .ok (.bipush 12, 2) := by decide +kernel
theorem dL_acts_552 : decode cL_acts 552 = .ok (.invokestatic 41, 3) := by decide +kernel
theorem dL_acts_555 : decode cL_acts 555 = .ok (.iadd, 1) := by decide +kernel
theorem dL_acts_556 : decode cL_acts 556 = .ok (.iconst 1, 1) := by decide +kernel
theorem dL_acts_557 : decode cL_acts 557 = .ok (.isub, 1) := by decide +kernel
theorem dL_acts_558 : decode cL_acts 558 = .ok (.istore 7, 2) := by decide +kernel
theorem dL_acts_560 : decode cL_acts 560 = .ok (.iload_n 2, 1) := by decide +kernel
theorem dL_acts_561 : decode cL_acts 561 = .ok (.iconst 4, 1) := by decide +kernel
theorem dL_acts_562 : decode cL_acts 562 = .ok (.ishr, 1) := by decide +kernel
theorem dL_acts_563 : decode cL_acts 563 = .ok (.iconst 5, 1) := by decide +kernel
theorem dL_acts_564 : decode cL_acts 564 = .ok (.invokestatic 41, 3) := by decide +kernel
theorem dL_acts_567 : decode cL_acts 567 = .ok (.istore 8, 2) := by decide +kernel
theorem dL_acts_569 : decode cL_acts 569 = .ok (.aload_n 0, 1) := by decide +kernel
theorem dL_acts_570 : decode cL_acts 570 = .ok (.iload 7, 2) := by decide +kernel
theorem dL_acts_572 : decode cL_acts 572 = .ok (.iload 8, 2) := by decide +kernel
theorem dL_acts_574 : decode cL_acts 574 = .ok (.invokevirtual 73, 3) := by decide +kernel
theorem dL_acts_577 : decode cL_acts 577 = .ok (.istore 9, 2) := by decide +kernel
theorem dL_acts_579 : decode cL_acts 579 = .ok (.iload 7, 2) := by decide +kernel
theorem dL_acts_581 : decode cL_acts 581 = .ok (.iload 4, 2) := by decide +kernel
theorem dL_acts_583 : decode cL_acts 583 = .ok (.if_icmp .lt 16, 3) := by decide +kernel
theorem dL_acts_586 : decode cL_acts 586 = .ok (.iload 7, 2) := by decide +kernel
theorem dL_acts_588 : decode cL_acts 588 = .ok (.sipush 365, 3) := by decide +kernel
theorem dL_acts_591 : decode cL_acts 591 = .ok (.if_icmp .gt 8, 3) := by decide +kernel
theorem dL_acts_594 : decode cL_acts 594 = .ok (.iload 8, 2) := by decide +kernel
theorem dL_acts_596 : decode cL_acts 596 = .ok (.ifCond .ne 17, 3) := by decide +kernel
theorem dL_acts_599 : decode cL_acts 599 = .ok (.iload 9, 2) := by decide +kernel
theorem dL_acts_601 : decode cL_acts 601 = .ok (.iconst (-1), 1) := by decide +kernel
theorem dL_acts_602 : decode cL_acts 602 = .ok (.if_icmp .ne 7, 3) := by decide +kernel
theorem dL_acts_605 : decode cL_acts 605 = .ok (.iconst 1, 1) := by decide +kernel
theorem dL_acts_606 : decode cL_acts 606 = .ok (.goto 33, 3) := by decide +kernel
theorem dL_acts_609 : decode cL_acts 609 = .ok (.iconst 0, 1) := by decide +kernel
theorem dL_acts_610 : decode cL_acts 610 = .ok (.goto 29, 3) := by decide +kernel
theorem dL_acts_613 : decode cL_acts 613 = .ok (.iload 9, 2) := by decide +kernel
theorem dL_acts_615 : decode cL_acts 615 = .ok (.iload 8, 2) := by decide +kernel
theorem dL_acts_617 : decode cL_acts 617 = .ok (.if_icmp .lt 10, 3) := by decide +kernel
theorem dL_acts_620 : decode cL_acts 620 = .ok (.iload 9, 2) := by decide +kernel
theorem dL_acts_622 : decode cL_acts 622 = .ok (.bipush 40, 2) := by decide +kernel
theorem dL_acts_624 : decode cL_acts 624 = .ok (.if_icmp .le 10, 3) := by decide +kernel
theorem dL_acts_627 : decode cL_acts 627 = .ok (.iload 9, 2) := by decide +kernel
theorem dL_acts_629 : decode cL_acts 629 = .ok (.bipush (-3), 2) := by decide +kernel
theorem dL_acts_631 : decode cL_acts 631 = .ok (.if_icmp .ne 7, 3) := by decide +kernel
theorem dL_acts_634 : decode cL_acts 634 = .ok (.iconst 1, 1) := by decide +kernel
theorem dL_acts_635 : decode cL_acts 635 = .ok (.goto 4, 3) := by decide +kernel
theorem dL_acts_638 : decode cL_acts 638 = .ok (.iconst 0, 1) := by decide +kernel
theorem dL_acts_639 : decode cL_acts 639 = .ok (.ireturn, 1) := by decide +kernel
theorem dL_acts_640 : decode cL_acts 640 = .ok (.iload_n 3, 1) := by decide +kernel
theorem dL_acts_641 : decode cL_acts 641 = .ok (.bipush 13, 2) := by decide +kernel
theorem dL_acts_643 : decode cL_acts 643 = .ok (.if_icmp .ne 91, 3) := by decide +kernel
theorem dL_acts_646 : decode cL_acts 646 = .ok (.iload 4, 2) := by decide +kernel
theorem dL_acts_648 : decode cL_acts 648 = .ok (.iload_n 2, 1) := by decide +kernel
theorem dL_acts_649 : decode cL_acts 649 = .ok (.bipush 9, 2) := by decide +kernel
theorem dL_acts_651 : decode cL_acts 651 = .ok (.invokestatic 41, 3) := by decide +kernel
theorem dL_acts_654 : decode cL_acts 654 = .ok (.iadd, 1) := by decide +kernel
theorem dL_acts_655 : decode cL_acts 655 = .ok (.iconst 1, 1) := by decide +kernel
theorem dL_acts_656 : decode cL_acts 656 = .ok (.isub, 1) := by decide +kernel
theorem dL_acts_657 : decode cL_acts 657 = .ok (.istore 7, 2) := by decide +kernel
theorem dL_acts_659 : decode cL_acts 659 = .ok (.aload_n 0, 1) := by decide +kernel
theorem dL_acts_660 : decode cL_acts 660 = .ok (.iconst 5, 1) := by decide +kernel
theorem dL_acts_661 : decode cL_acts 661 = .ok (.invokevirtual 13, 3) := by decide +kernel
theorem dL_acts_664 : decode cL_acts 664 = .ok (.istore 8, 2) := by decide +kernel
theorem dL_acts_666 : decode cL_acts 666 = .ok (.aload_n 0, 1) := by decide +kernel
theorem dL_acts_667 : decode cL_acts 667 = .ok (.iload 7, 2) := by decide +kernel
theorem dL_acts_669 : decode cL_acts 669 = .ok (.invokevirtual 76, 3) := by decide +kernel
theorem dL_acts_672 : decode cL_acts 672 = .ok (.istore 9, 2) := by decide +kernel
theorem dL_acts_674 : decode cL_acts 674 = .ok (.iload 7, 2) := by decide +kernel
theorem dL_acts_676 : decode cL_acts 676 = .ok (.iload 4, 2) := by decide +kernel
theorem dL_acts_678 : decode cL_acts 678 = .ok (.if_icmp .ge 17, 3) := by decide +kernel
theorem dL_acts_681 : decode cL_acts 681 = .ok (.iload 9, 2) := by decide +kernel
theorem dL_acts_683 : decode cL_acts 683 = .ok (.iconst (-1), 1) := by decide +kernel
theorem dL_acts_684 : decode cL_acts 684 = .ok (.if_icmp .ne 7, 3) := by decide +kernel
theorem dL_acts_687 : decode cL_acts 687 = .ok (.iconst 1, 1) := by decide +kernel
theorem dL_acts_688 : decode cL_acts 688 = .ok (.goto 45, 3) := by decide +kernel
theorem dL_acts_691 : decode cL_acts 691 = .ok (.iconst 0, 1) := by decide +kernel
theorem dL_acts_692 : decode cL_acts 692 = .ok (.goto 41, 3) := by decide +kernel
theorem dL_acts_695 : decode cL_acts 695 = .ok (.iload 9, 2) := by decide +kernel
theorem dL_acts_697 : decode cL_acts 697 = .ok (.ifCond .lt 35, 3) := by decide +kernel
theorem dL_acts_700 : decode cL_acts 700 = .ok (.iload 9, 2) := by decide +kernel
theorem dL_acts_702 : decode cL_acts 702 = .ok (.iconst 1, 1) := by decide +kernel
theorem dL_acts_703 : decode cL_acts 703 = .ok (.if_icmp .gt 29, 3) := by decide +kernel
theorem dL_acts_706 : decode cL_acts 706 = .ok (.iload 7, 2) := by decide +kernel
theorem dL_acts_708 : decode cL_acts 708 = .ok (.iload 4, 2) := by decide +kernel
theorem dL_acts_710 : decode cL_acts 710 = .ok (.if_icmp .ne 18, 3) := by decide +kernel
theorem dL_acts_713 : decode cL_acts 713 = .ok (.iload 9, 2) := by decide +kernel
theorem dL_acts_715 : decode cL_acts 715 = .ok (.iload 8, 2) := by decide +kernel
theorem dL_acts_717 : decode cL_acts 717 = .ok (.if_icmp .ne 15, 3) := by decide +kernel
theorem dL_acts_720 : decode cL_acts 720 = .ok (.aload_n 0, 1) := by decide +kernel
theorem dL_acts_721 : decode cL_acts 721 = .ok (.iconst 5, 1) := by decide +kernel
theorem dL_acts_722 : decode cL_acts 722 = .ok (.invokevirtual 13, 3) := by decide +kernel
theorem dL_acts_725 : decode cL_acts 725 = .ok (.ifCond .ne 7, 3) := by decide +kernel
theorem dL_acts_728 : decode cL_acts 728 = .ok (.iconst 1, 1) := by decide +kernel
theorem dL_acts_729 : decode cL_acts 729 = .ok (.goto 4, 3) := by decide +kernel
theorem dL_acts_732 : decode cL_acts 732 = .ok (.iconst 0, 1) := by decide +kernel
theorem dL_acts_733 : decode cL_acts 733 = .ok (.ireturn, 1) := by decide +kernel
theorem dL_acts_734 : decode cL_acts 734 = .ok (.iload_n 3, 1) := by decide +kernel
theorem dL_acts_735 : decode cL_acts 735 = .ok (.bipush 17, 2) := by decide +kernel
theorem dL_acts_737 : decode cL_acts 737 = .ok (.if_icmp .ge 135, 3) := by decide +kernel
theorem dL_acts_740 : decode cL_acts 740 = .ok (.iload_n 2, 1) := by decide +kernel
theorem dL_acts_741 : decode cL_acts 741 = .ok (.bipush 7, 2) := by decide +kernel
theorem dL_acts_743 : decode cL_acts 743 = .ok (.invokestatic 41, 3) := by decide +kernel
theorem dL_acts_746 : decode cL_acts 746 = .ok (.ifCond .ne 14, 3) := by decide +kernel
theorem dL_acts_749 : decode cL_acts 749 = .ok (.iload_n 2, 1) := by decide +kernel
theorem dL_acts_750 : decode cL_acts 750 = .ok (.iconst 3, 1) := by decide +kernel
theorem dL_acts_751 : decode cL_acts 751 = .ok (.ishr, 1) := by decide +kernel
theorem dL_acts_752 : decode cL_acts 752 = .ok (.bipush 62, 2) := by decide +kernel
theorem dL_acts_754 : decode cL_acts 754 = .ok (.invokestatic 41, 3) := by decide +kernel
theorem dL_acts_757 : decode cL_acts 757 = .ok (.goto 12, 3) := by decide +kernel
theorem dL_acts_760 : decode cL_acts 760 = .ok (.iconst 1, 1) := by decide +kernel
theorem dL_acts_761 : decode cL_acts 761 = .ok (.iload_n 2, 1) := by decide +kernel
theorem dL_acts_762 : decode cL_acts 762 = .ok (.iconst 3, 1) := by decide +kernel
theorem dL_acts_763 : decode cL_acts 763 = .ok (.ishr, 1) := by decide +kernel
theorem dL_acts_764 : decode cL_acts 764 = .ok (.iconst 3, 1) := by decide +kernel
theorem dL_acts_765 : decode cL_acts 765 = .ok (.invokestatic 41, 3) := by decide +kernel
theorem dL_acts_768 : decode cL_acts 768 = .ok (.iadd, 1) := by decide +kernel
theorem dL_acts_769 : decode cL_acts 769 = .ok (.istore 7, 2) := by decide +kernel
theorem dL_acts_771 : decode cL_acts 771 = .ok (.aload_n 0, 1) := by decide +kernel
theorem dL_acts_772 : decode cL_acts 772 = .ok (.bipush 8, 2) := by decide +kernel
theorem dL_acts_774 : decode cL_acts 774 = .ok (.invokevirtual 13, 3) := by decide +kernel
theorem dL_acts_777 : decode cL_acts 777 = .ok (.istore 8, 2) := by decide +kernel
theorem dL_acts_779 : decode cL_acts 779 = .ok (.aload_n 0, 1) := by decide +kernel
theorem dL_acts_780 : decode cL_acts 780 = .ok (.iload 7, 2) := by decide +kernel
theorem dL_acts_782 : decode cL_acts 782 = .ok (.invokevirtual 79, 3) := by decide +kernel
theorem dL_acts_785 : decode cL_acts 785 = .ok (.istore 9, 2) := by decide +kernel
theorem dL_acts_787 : decode cL_acts 787 = .ok (.iload 7, 2) := by decide +kernel
theorem dL_acts_789 : decode cL_acts 789 = .ok (.ifCond .eq 10, 3) := by decide +kernel
theorem dL_acts_792 : decode cL_acts 792 = .ok (.iload 7, 2) := by decide +kernel
theorem dL_acts_794 : decode cL_acts 794 = .ok (.bipush 61, 2) := by decide +kernel
theorem dL_acts_796 : decode cL_acts 796 = .ok (.if_icmp .ne 17, 3) := by decide +kernel
theorem dL_acts_799 : decode cL_acts 799 = .ok (.iload 9, 2) := by decide +kernel
theorem dL_acts_801 : decode cL_acts 801 = .ok (.iconst (-1), 1) := by decide +kernel
theorem dL_acts_802 : decode cL_acts 802 = .ok (.if_icmp .ne 7, 3) := by decide +kernel
theorem dL_acts_805 : decode cL_acts 805 = .ok (.iconst 1, 1) := by decide +kernel
theorem dL_acts_806 : decode cL_acts 806 = .ok (.goto 65, 3) := by decide +kernel
theorem dL_acts_809 : decode cL_acts 809 = .ok (.iconst 0, 1) := by decide +kernel
theorem dL_acts_810 : decode cL_acts 810 = .ok (.goto 61, 3) := by decide +kernel
theorem dL_acts_813 : decode cL_acts 813 = .ok (.iload 4, 2) := by decide +kernel
theorem dL_acts_815 : decode cL_acts 815 = .ok (.iload 7, 2) := by decide +kernel
theorem dL_acts_817 : decode cL_acts 817 = .ok (.iadd, 1) := by decide +kernel
theorem dL_acts_818 : decode cL_acts 818 = .ok (.sipush 365, 3) := by decide +kernel
theorem dL_acts_821 : decode cL_acts 821 = .ok (.if_icmp .le 18, 3) := by decide +kernel
theorem dL_acts_824 : decode cL_acts 824 = .ok (.iload 9, 2) := by decide +kernel
theorem dL_acts_826 : decode cL_acts 826 = .ok (.bipush (-3), 2) := by decide +kernel
theorem dL_acts_828 : decode cL_acts 828 = .ok (.if_icmp .ne 7, 3) := by decide +kernel
theorem dL_acts_831 : decode cL_acts 831 = .ok (.iconst 1, 1) := by decide +kernel
theorem dL_acts_832 : decode cL_acts 832 = .ok (.goto 39, 3) := by decide +kernel
theorem dL_acts_835 : decode cL_acts 835 = .ok (.iconst 0, 1) := by decide +kernel
theorem dL_acts_836 : decode cL_acts 836 = .ok (.goto 35, 3) := by decide +kernel
theorem dL_acts_839 : decode cL_acts 839 = .ok (.iload 9, 2) := by decide +kernel
theorem dL_acts_841 : decode cL_acts 841 = .ok (.aload_n 0, 1) := by decide +kernel
theorem dL_acts_842 : decode cL_acts 842 = .ok (.bipush 8, 2) := by decide +kernel
theorem dL_acts_844 : decode cL_acts 844 = .ok (.invokevirtual 13, 3) := by decide +kernel
theorem dL_acts_847 : decode cL_acts 847 = .ok (.iload 8, 2) := by decide +kernel
theorem dL_acts_849 : decode cL_acts 849 = .ok (.isub, 1) := by decide +kernel
theorem dL_acts_850 : decode cL_acts 850 = .ok (.if_icmp .ne 20, 3) := by decide +kernel
theorem dL_acts_853 : decode cL_acts 853 = .ok (.aload_n 0, 1) := by decide +kernel
theorem dL_acts_854 : decode cL_acts 854 = .ok (.iconst 4, 1) := by decide +kernel
theorem dL_acts_855 : decode cL_acts 855 = .ok (.invokevirtual 13, 3) := by decide +kernel
theorem dL_acts_858 : decode cL_acts 858 = .ok (.iload 4, 2) := by decide +kernel
theorem dL_acts_860 : decode cL_acts 860 = .ok (.iload 7, 2) := by decide +kernel
theorem dL_acts_862 : decode cL_acts 862 = .ok (.iadd, 1) := by decide +kernel
theorem dL_acts_863 : decode cL_acts 863 = .ok (.if_icmp .ne 7, 3) := by decide +kernel
theorem dL_acts_866 : decode cL_acts 866 = .ok (.iconst 1, 1) := by decide +kernel
theorem dL_acts_867 : decode cL_acts 867 = .ok (.goto 4, 3) := by decide +kernel
theorem dL_acts_870 : decode cL_acts 870 = .ok (.iconst 0, 1) := by decide +kernel
theorem dL_acts_871 : decode cL_acts 871 = .ok (.ireturn, 1) := by decide +kernel
theorem dL_acts_872 : decode cL_acts 872 = .ok (.iload_n 3, 1) := by decide +kernel
theorem dL_acts_873 : decode cL_acts 873 = .ok (.bipush 17, 2) := by decide +kernel
theorem dL_acts_875 : decode cL_acts 875 = .ok (.if_icmp .ne 118, 3) := by decide +kernel
theorem dL_acts_878 : decode cL_acts 878 = .ok (.iload_n 2, 1) := by decide +kernel
theorem dL_acts_879 : decode cL_acts 879 = .ok (.iconst 5, 1) := by decide +kernel
theorem dL_acts_880 : decode cL_acts 880 = .ok (.invokestatic 41, 3) := by decide +kernel
theorem dL_acts_883 : decode cL_acts 883 = .ok (.istore 7, 2) := by decide +kernel
theorem dL_acts_885 : decode cL_acts 885 = .ok (.iload_n 2, 1) := by decide +kernel
theorem dL_acts_886 : decode cL_acts 886 = .ok (.iconst 3, 1) := by decide +kernel
theorem dL_acts_887 : decode cL_acts 887 = .ok (.ishr, 1) := by decide +kernel
theorem dL_acts_888 : decode cL_acts 888 = .ok (.bipush 13, 2) := by decide +kernel
theorem dL_acts_890 : decode cL_acts 890 = .ok (.invokestatic 41, 3) := by decide +kernel
theorem dL_acts_893 : decode cL_acts 893 = .ok (.istore 8, 2) := by decide +kernel
theorem dL_acts_895 : decode cL_acts 895 = .ok (.iload 7, 2) := by decide +kernel
theorem dL_acts_897 : decode cL_acts 897 = .ok (.iconst 4, 1) := by decide +kernel
theorem dL_acts_898 : decode cL_acts 898 = .ok (.if_icmp .ne 7, 3) := by decide +kernel
theorem dL_acts_901 : decode cL_acts 901 = .ok (.iconst 0, 1) := by decide +kernel
theorem dL_acts_902 : decode cL_acts 902 = .ok (.goto 12, 3) := by decide +kernel
theorem dL_acts_905 : decode cL_acts 905 = .ok (.aload_n 0, 1) := by decide +kernel
theorem dL_acts_906 : decode cL_acts 906 = .ok (.bipush 20, 2) := by decide +kernel
theorem dL_acts_908 : decode cL_acts 908 = .ok (.iload 7, 2) := by decide +kernel
theorem dL_acts_910 : decode cL_acts 910 = .ok (.iadd, 1) := by decide +kernel
theorem dL_acts_911 : decode cL_acts 911 = .ok (.invokevirtual 13, 3) := by decide +kernel
theorem dL_acts_914 : decode cL_acts 914 = .ok (.istore 9, 2) := by decide +kernel
theorem dL_acts_916 : decode cL_acts 916 = .ok (.iload 7, 2) := by decide +kernel
theorem dL_acts_918 : decode cL_acts 918 = .ok (.iconst 4, 1) := by decide +kernel
theorem dL_acts_919 : decode cL_acts 919 = .ok (.if_icmp .eq 39, 3) := by decide +kernel
theorem dL_acts_922 : decode cL_acts 922 = .ok (.iload 8, 2) := by decide +kernel
theorem dL_acts_924 : decode cL_acts 924 = .ok (.ifCond .ne 9, 3) := by decide +kernel
theorem dL_acts_927 : decode cL_acts 927 = .ok (.iload 7, 2) := by decide +kernel
theorem dL_acts_929 : decode cL_acts 929 = .ok (.iconst 2, 1) := by decide +kernel
theorem dL_acts_930 : decode cL_acts 930 = .ok (.if_icmp .lt 28, 3) := by decide +kernel
theorem dL_acts_933 : decode cL_acts 933 = .ok (.iload 7, 2) := by decide +kernel
theorem dL_acts_935 : decode cL_acts 935 = .ok (.iconst 1, 1) := by decide +kernel
theorem dL_acts_936 : decode cL_acts 936 = .ok (.if_icmp .ne 9, 3) := by decide +kernel
theorem dL_acts_939 : decode cL_acts 939 = .ok (.iload 8, 2) := by decide +kernel
theorem dL_acts_941 : decode cL_acts 941 = .ok (.iconst 3, 1) := by decide +kernel
theorem dL_acts_942 : decode cL_acts 942 = .ok (.if_icmp .gt 16, 3) := by decide +kernel
theorem dL_acts_945 : decode cL_acts 945 = .ok (.iload 7, 2) := by decide +kernel
theorem dL_acts_947 : decode cL_acts 947 = .ok (.iconst 1, 1) := by decide +kernel
theorem dL_acts_948 : decode cL_acts 948 = .ok (.if_icmp .le 14, 3) := by decide +kernel
theorem dL_acts_951 : decode cL_acts 951 = .ok (.iload 8, 2) := by decide +kernel
theorem dL_acts_953 : decode cL_acts 953 = .ok (.bipush 9, 2) := by decide +kernel
theorem dL_acts_955 : decode cL_acts 955 = .ok (.if_icmp .le 7, 3) := by decide +kernel
theorem dL_acts_958 : decode cL_acts 958 = .ok (.iconst 1, 1) := by decide +kernel
theorem dL_acts_959 : decode cL_acts 959 = .ok (.goto 4, 3) := by decide +kernel
theorem dL_acts_962 : decode cL_acts 962 = .ok (.iconst 0, 1) := by decide +kernel
theorem dL_acts_963 : decode cL_acts 963 = .ok (.istore 10, 2) := by decide +kernel
theorem dL_acts_965 : decode cL_acts 965 = .ok (.aload_n 0, 1) := by decide +kernel
theorem dL_acts_966 : decode cL_acts 966 = .ok (.iload 7, 2) := by decide +kernel
theorem dL_acts_968 : decode cL_acts 968 = .ok (.iload 8, 2) := by decide +kernel
theorem dL_acts_970 : decode cL_acts 970 = .ok (.invokevirtual 82, 3) := by decide +kernel
theorem dL_acts_973 : decode cL_acts 973 = .ok (.iload 10, 2) := by decide +kernel
theorem dL_acts_975 : decode cL_acts 975 = .ok (.ifCond .eq 7, 3) := by decide +kernel
theorem dL_acts_978 : decode cL_acts 978 = .ok (.iconst (-1), 1) := by decide +kernel
theorem dL_acts_979 : decode cL_acts 979 = .ok (.goto 5, 3) := by decide +kernel
theorem dL_acts_982 : decode cL_acts 982 = .ok (.iload 9, 2) := by decide +kernel
theorem dL_acts_984 : decode cL_acts 984 = .ok (.if_icmp .ne 7, 3) := by decide +kernel
theorem dL_acts_987 : decode cL_acts 987 = .ok (.iconst 1, 1) := by decide +kernel
theorem dL_acts_988 : decode cL_acts 988 = .ok (.goto 4, 3) := by decide +kernel
theorem dL_acts_991 : decode cL_acts 991 = .ok (.iconst 0, 1) := by decide +kernel
theorem dL_acts_992 : decode cL_acts 992 = .ok (.ireturn, 1) := by decide +kernel
theorem dL_acts_993 : decode cL_acts 993 = .ok (.iload_n 3, 1) := by decide +kernel
theorem dL_acts_994 : decode cL_acts 994 = .ok (.bipush 18, 2) := by decide +kernel
theorem dL_acts_996 : decode cL_acts 996 = .ok (.if_icmp .ne 69, 3) := by decide +kernel
theorem dL_acts_999 : decode cL_acts 999 = .ok (.aload_n 0, 1) := by decide +kernel
theorem dL_acts_1000 : decode cL_acts 1000 = .ok (.bipush 14, 2) := by decide +kernel
theorem dL_acts_1002 : decode cL_acts 1002 = .ok (.invokevirtual 13, 3) := by decide +kernel
theorem dL_acts_1005 : decode cL_acts 1005 = .ok (.iconst 1, 1) := by decide +kernel
theorem dL_acts_1006 : decode cL_acts 1006 = .ok (.if_icmp .ne 7, 3) := by decide +kernel
theorem dL_acts_1009 : decode cL_acts 1009 = .ok (.iconst 1, 1) := by decide +kernel
theorem dL_acts_1010 : decode cL_acts 1010 = .ok (.goto 4, 3) := by decide +kernel
theorem dL_acts_1013 : decode cL_acts 1013 = .ok (.iconst 0, 1) := by decide +kernel
theorem dL_acts_1014 : decode cL_acts 1014 = .ok (.istore 7, 2) := by decide +kernel
theorem dL_acts_1016 : decode cL_acts 1016 = .ok (.iload_n 2, 1) := by decide +kernel
theorem dL_acts_1017 : decode cL_acts 1017 = .ok (.iconst 2, 1) := by decide +kernel
theorem dL_acts_1018 : decode cL_acts 1018 = .ok (.invokestatic 41, 3) := by decide +kernel
theorem dL_acts_1021 : decode cL_acts 1021 = .ok (.ifCond .ne 10, 3) := by decide +kernel
theorem dL_acts_1024 : decode cL_acts 1024 = .ok (.aload_n 0, 1) := by decide +kernel
theorem dL_acts_1025 : decode cL_acts 1025 = .ok (.invokevirtual 85, 3) := by decide +kernel
theorem dL_acts_1028 : decode cL_acts 1028 = .ok (.goto 7, 3) := by decide +kernel
theorem dL_acts_1031 : decode cL_acts 1031 = .ok (.aload_n 0, 1) := by decide +kernel
theorem dL_acts_1032 : decode cL_acts 1032 = .ok (.invokevirtual 88, 3) := by decide +kernel
theorem dL_acts_1035 : decode cL_acts 1035 = .ok (.istore 8, 2) := by decide +kernel
theorem dL_acts_1037 : decode cL_acts 1037 = .ok (.iload 8, 2) := by decide +kernel
theorem dL_acts_1039 : decode cL_acts 1039 = .ok (.aload_n 0, 1) := by decide +kernel
theorem dL_acts_1040 : decode cL_acts 1040 = .ok (.iconst 4, 1) := by decide +kernel
theorem dL_acts_1041 : decode cL_acts 1041 = .ok (.invokevirtual 13, 3) := by decide +kernel
theorem dL_acts_1044 : decode cL_acts 1044 = .ok (.if_icmp .eq 15, 3) := by decide +kernel
theorem dL_acts_1047 : decode cL_acts 1047 = .ok (.iload 7, 2) := by decide +kernel
theorem dL_acts_1049 : decode cL_acts 1049 = .ok (.ifCond .ne 14, 3) := by decide +kernel
theorem dL_acts_1052 : decode cL_acts 1052 = .ok (.iload 8, 2) := by decide +kernel
theorem dL_acts_1054 : decode cL_acts 1054 = .ok (.bipush (-2), 2) := by decide +kernel
theorem dL_acts_1056 : decode cL_acts 1056 = .ok (.if_icmp .ne 7, 3) := by decide +kernel
theorem dL_acts_1059 : decode cL_acts 1059 = .ok (.iconst 1, 1) := by decide +kernel
theorem dL_acts_1060 : decode cL_acts 1060 = .ok (.goto 4, 3) := by decide +kernel
theorem dL_acts_1063 : decode cL_acts 1063 = .ok (.iconst 0, 1) := by decide +kernel
theorem dL_acts_1064 : decode cL_acts 1064 = .ok (.ireturn, 1) := by decide +kernel
theorem dL_acts_1065 : decode cL_acts 1065 = .ok (.aload_n 0, 1) := by decide +kernel
theorem dL_acts_1066 : decode cL_acts 1066 = .ok (.iload_n 2, 1) := by decide +kernel
theorem dL_acts_1067 : decode cL_acts 1067 = .ok (.invokestatic 91, 3) := by decide +kernel
theorem dL_acts_1070 : decode cL_acts 1070 = .ok (.ifCond .eq 14, 3) := by decide +kernel
theorem dL_acts_1073 : decode cL_acts 1073 = .ok (.aload_n 0, 1) := by decide +kernel
theorem dL_acts_1074 : decode cL_acts 1074 = .ok (.invokestatic 94, 3) := by decide +kernel
theorem dL_acts_1077 : decode cL_acts 1077 = .ok (.ifCond .eq 7, 3) := by decide +kernel
theorem dL_acts_1080 : decode cL_acts 1080 = .ok (.iconst 1, 1) := by decide +kernel
theorem dL_acts_1081 : decode cL_acts 1081 = .ok (.goto 4, 3) := by decide +kernel
theorem dL_acts_1084 : decode cL_acts 1084 = .ok (.iconst 0, 1) := by decide +kernel
theorem dL_acts_1085 : decode cL_acts 1085 = .ok (.ireturn, 1) := by decide +kernel
