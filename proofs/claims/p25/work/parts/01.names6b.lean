set_option maxRecDepth 20000 in
theorem ggL_holds_X6_outOn : GoodIn wsL_holds wsX6_outOn := goodIn_r _ [191, 68, 6, 176, 177, 92, 178, 74, 75, 76, 37, 77, 78, 79, 40, 80, 81, 82, 83, 45, 39, 84, 85, 86, 87, 88, 89, 90, 91, 93, 94, 95, 96, 97, 98, 99, 100, 101, 102, 103, 104, 105, 106, 107, 108, 25, 109, 33, 110, 111, 112, 28, 113, 114, 27, 192, 193, 194, 195, 196, 197, 198, 199, 120, 121, 122, 123, 124, 125, 58, 126, 127, 35, 36, 38, 128, 129, 130, 131, 132, 30, 31, 32, 133, 134, 135, 136, 137, 138, 139, 140, 141, 142, 143, 144, 145, 146, 147, 148, 149, 150, 151, 152, 153, 154, 155, 156, 157, 158, 159, 160, 161, 162, 163, 164, 200, 201, 202, 203, 204, 205, 206, 207, 208, 209, 210, 211, 212, 213, 214, 215, 216, 224, 225, 226, 227, 228, 229, 230, 231, 232, 233, 234, 217, 218, 219, 220, 221, 222, 223] (by decide +kernel) (by decide +kernel)
set_option maxRecDepth 20000 in
theorem gL_holds_X6_outOn : GoodIn wsL_holds (wsV RL 35 RX6 yX6_outOn wsX6_outOn) := goodIn_app (goodIn_of _ (by decide +kernel)) ggL_holds_X6_outOn
theorem dL_holds_0 : decode cL_holds 0 = .ok (.iconst 0, 1) := by decide +kernel
theorem dL_holds_1 : decode cL_holds 1 = .ok (.istore_n 2, 1) := by decide +kernel
theorem dL_holds_2 : decode cL_holds 2 = .ok (.iconst 0, 1) := by decide +kernel
theorem dL_holds_3 : decode cL_holds 3 = .ok (.istore_n 3, 1) := by decide +kernel
theorem dL_holds_4 : decode cL_holds 4 = .ok (.iconst 0, 1) := by decide +kernel
theorem dL_holds_5 : decode cL_holds 5 = .ok (.istore 4, 2) := by decide +kernel
theorem dL_holds_7 : decode cL_holds 7 = .ok (.iconst 0, 1) := by decide +kernel
theorem dL_holds_8 : decode cL_holds 8 = .ok (.istore 5, 2) := by decide +kernel
theorem dL_holds_10 : decode cL_holds 10 = .ok (.iconst 0, 1) := by decide +kernel
theorem dL_holds_11 : decode cL_holds 11 = .ok (.istore 6, 2) := by decide +kernel
theorem dL_holds_13 : decode cL_holds 13 = .ok (.iload 6, 2) := by decide +kernel
theorem dL_holds_15 : decode cL_holds 15 = .ok (.aload_n 0, 1) := by decide +kernel
theorem dL_holds_16 : decode cL_holds 16 = .ok (.iconst 0, 1) := by decide +kernel
theorem dL_holds_17 : decode cL_holds 17 = .ok (.invokevirtual 13, 3) := by decide +kernel
theorem dL_holds_20 : decode cL_holds 20 = .ok (.if_icmp .ge 268, 3) := by decide +kernel
theorem dL_holds_23 : decode cL_holds 23 = .ok (.aload_n 0, 1) := by decide +kernel
theorem dL_holds_24 : decode cL_holds 24 = .ok (.iload 6, 2) := by decide +kernel
theorem dL_holds_26 : decode cL_holds 26 = .ok (.iconst 3, 1) := by decide +kernel
theorem dL_holds_27 : decode cL_holds 27 = .ok (.invokevirtual 27, 3) := by decide +kernel
theorem dL_holds_30 : decode cL_holds 30 = .ok (.istore 7, 2) := by decide +kernel
theorem dL_holds_32 : decode cL_holds 32 = .ok (.aload_n 0, 1) := by decide +kernel
theorem dL_holds_33 : decode cL_holds 33 = .ok (.iload 6, 2) := by decide +kernel
theorem dL_holds_35 : decode cL_holds 35 = .ok (.iconst 4, 1) := by decide +kernel
theorem dL_holds_36 : decode cL_holds 36 = .ok (.invokevirtual 27, 3) := by decide +kernel
theorem dL_holds_39 : decode cL_holds 39 = .ok (.istore 8, 2) := by decide +kernel
theorem dL_holds_41 : decode cL_holds 41 = .ok (.iload_n 2, 1) := by decide +kernel
theorem dL_holds_42 : decode cL_holds 42 = .ok (.iload 7, 2) := by decide +kernel
theorem dL_holds_44 : decode cL_holds 44 = .ok (.ifCond .ne 7, 3) := by decide +kernel
theorem dL_holds_47 : decode cL_holds 47 = .ok (.iconst 1, 1) := by decide +kernel
theorem dL_holds_48 : decode cL_holds 48 = .ok (.goto 4, 3) := by decide +kernel
theorem dL_holds_51 : decode cL_holds 51 = .ok (.iconst 0, 1) := by decide +kernel
theorem dL_holds_52 : decode cL_holds 52 = .ok (.iadd, 1) := by decide +kernel
theorem dL_holds_53 : decode cL_holds 53 = .ok (.istore_n 2, 1) := by decide +kernel
theorem dL_holds_54 : decode cL_holds 54 = .ok (.iload_n 3, 1) := by decide +kernel
theorem dL_holds_55 : decode cL_holds 55 = .ok (.iload 7, 2) := by decide +kernel
theorem dL_holds_57 : decode cL_holds 57 = .ok (.iconst 1, 1) := by decide +kernel
theorem dL_holds_58 : decode cL_holds 58 = .ok (.if_icmp .ne 7, 3) := by decide +kernel
theorem dL_holds_61 : decode cL_holds 61 = .ok (.iconst 1, 1) := by decide +kernel
theorem dL_holds_62 : decode cL_holds 62 = .ok (.goto 4, 3) := by decide +kernel
theorem dL_holds_65 : decode cL_holds 65 = .ok (.iconst 0, 1) := by decide +kernel
theorem dL_holds_66 : decode cL_holds 66 = .ok (.iadd, 1) := by decide +kernel
theorem dL_holds_67 : decode cL_holds 67 = .ok (.istore_n 3, 1) := by decide +kernel
theorem dL_holds_68 : decode cL_holds 68 = .ok (.iload 4, 2) := by decide +kernel
theorem dL_holds_70 : decode cL_holds 70 = .ok (.iload 7, 2) := by decide +kernel
theorem dL_holds_72 : decode cL_holds 72 = .ok (.iconst 1, 1) := by decide +kernel
theorem dL_holds_73 : decode cL_holds 73 = .ok (.if_icmp .ne 13, 3) := by decide +kernel
theorem dL_holds_76 : decode cL_holds 76 = .ok (.aload_n 0, 1) := by decide +kernel
theorem dL_holds_77 : decode cL_holds 77 = .ok (.iload 6, 2) := by decide +kernel
theorem dL_holds_79 : decode cL_holds 79 = .ok (.iconst 0, 1) := by decide +kernel
theorem dL_holds_80 : decode cL_holds 80 = .ok (.invokevirtual 27, 3) := by decide +kernel
theorem dL_holds_83 : decode cL_holds 83 = .ok (.goto 4, 3) := by decide +kernel
theorem dL_holds_86 : decode cL_holds 86 = .ok (.iconst 0, 1) := by decide +kernel
theorem dL_holds_87 : decode cL_holds 87 = .ok (.iadd, 1) := by decide +kernel
theorem dL_holds_88 : decode cL_holds 88 = .ok (.istore 4, 2) := by decide +kernel
theorem dL_holds_90 : decode cL_holds 90 = .ok (.iload 5, 2) := by decide +kernel
theorem dL_holds_92 : decode cL_holds 92 = .ok (.iload 8, 2) := by decide +kernel
theorem dL_holds_94 : decode cL_holds 94 = .ok (.aload_n 0, 1) := by decide +kernel
theorem dL_holds_95 : decode cL_holds 95 = .ok (.iload 6, 2) := by decide +kernel
theorem dL_holds_97 : decode cL_holds 97 = .ok (.iconst 0, 1) := by decide +kernel
theorem dL_holds_98 : decode cL_holds 98 = .ok (.invokevirtual 27, 3) := by decide +kernel
theorem dL_holds_101 : decode cL_holds 101 = .ok (.imul, 1) := by decide +kernel
theorem dL_holds_102 : decode cL_holds 102 = .ok (.iadd, 1) := by decide +kernel
theorem dL_holds_103 : decode cL_holds 103 = .ok (.istore 5, 2) := by decide +kernel
theorem dL_holds_105 : decode cL_holds 105 = .ok (.iload 7, 2) := by decide +kernel
theorem dL_holds_107 : decode cL_holds 107 = .ok (.ifCond .le 9, 3) := by decide +kernel
theorem dL_holds_110 : decode cL_holds 110 = .ok (.iload 7, 2) := by decide +kernel
theorem dL_holds_112 : decode cL_holds 112 = .ok (.iconst 3, 1) := by decide +kernel
theorem dL_holds_113 : decode cL_holds 113 = .ok (.if_icmp .lt 8, 3) := by decide +kernel
theorem dL_holds_116 : decode cL_holds 116 = .ok (.iload 8, 2) := by decide +kernel
theorem dL_holds_118 : decode cL_holds 118 = .ok (.ifCond .ne 7, 3) := by decide +kernel
theorem dL_holds_121 : decode cL_holds 121 = .ok (.iconst 1, 1) := by decide +kernel
theorem dL_holds_122 : decode cL_holds 122 = .ok (.goto 4, 3) := by decide +kernel
theorem dL_holds_125 : decode cL_holds 125 = .ok (.iconst 0, 1) := by decide +kernel
theorem dL_holds_126 : decode cL_holds 126 = .ok (.istore 9, 2) := by decide +kernel
theorem dL_holds_128 : decode cL_holds 128 = .ok (.iload 9, 2) := by decide +kernel
theorem dL_holds_130 : decode cL_holds 130 = .ok (.ifCond .eq 92, 3) := by decide +kernel
theorem dL_holds_133 : decode cL_holds 133 = .ok (.iload 7, 2) := by decide +kernel
theorem dL_holds_135 : decode cL_holds 135 = .ok (.iconst 2, 1) := by decide +kernel
theorem dL_holds_136 : decode cL_holds 136 = .ok (.if_icmp .ne 15, 3) := by decide +kernel
theorem dL_holds_139 : decode cL_holds 139 = .ok (.iload 8, 2) := by decide +kernel
theorem dL_holds_141 : decode cL_holds 141 = .ok (.aload_n 0, 1) := by decide +kernel
theorem dL_holds_142 : decode cL_holds 142 = .ok (.iload 6, 2) := by decide +kernel
theorem dL_holds_144 : decode cL_holds 144 = .ok (.iconst 2, 1) := by decide +kernel
theorem dL_holds_145 : decode cL_holds 145 = .ok (.invokevirtual 27, 3) := by decide +kernel
theorem dL_holds_148 : decode cL_holds 148 = .ok (.if_icmp .lt 74, 3) := by decide +kernel
theorem dL_holds_151 : decode cL_holds 151 = .ok (.aload_n 0, 1) := by decide +kernel
theorem dL_holds_152 : decode cL_holds 152 = .ok (.iload 6, 2) := by decide +kernel
theorem dL_holds_154 : decode cL_holds 154 = .ok (.bipush 6, 2) := by decide +kernel
theorem dL_holds_156 : decode cL_holds 156 = .ok (.invokevirtual 27, 3) := by decide +kernel
theorem dL_holds_159 : decode cL_holds 159 = .ok (.iload 8, 2) := by decide +kernel
theorem dL_holds_161 : decode cL_holds 161 = .ok (.aload_n 0, 1) := by decide +kernel
theorem dL_holds_162 : decode cL_holds 162 = .ok (.iload 6, 2) := by decide +kernel
theorem dL_holds_164 : decode cL_holds 164 = .ok (.iconst 2, 1) := by decide +kernel
theorem dL_holds_165 : decode cL_holds 165 = .ok (.invokevirtual 27, 3) := by decide +kernel
theorem dL_holds_168 : decode cL_holds 168 = .ok (.if_icmp .le 16, 3) := by decide +kernel
theorem dL_holds_171 : decode cL_holds 171 = .ok (.iload 8, 2) := by decide +kernel
theorem dL_holds_173 : decode cL_holds 173 = .ok (.aload_n 0, 1) := by decide +kernel
theorem dL_holds_174 : decode cL_holds 174 = .ok (.iload 6, 2) := by decide +kernel
theorem dL_holds_176 : decode cL_holds 176 = .ok (.iconst 2, 1) := by decide +kernel
theorem dL_holds_177 : decode cL_holds 177 = .ok (.invokevirtual 27, 3) := by decide +kernel
theorem dL_holds_180 : decode cL_holds 180 = .ok (.isub, 1) := by decide +kernel
theorem dL_holds_181 : decode cL_holds 181 = .ok (.goto 4, 3) := by decide +kernel
theorem dL_holds_184 : decode cL_holds 184 = .ok (.iconst 0, 1) := by decide +kernel
theorem dL_holds_185 : decode cL_holds 185 = .ok (.if_icmp .ne 37, 3) := by decide +kernel
theorem dL_holds_188 : decode cL_holds 188 = .ok (.aload_n 0, 1) := by decide +kernel
theorem dL_holds_189 : decode cL_holds 189 = .ok (.iload 6, 2) := by decide +kernel
theorem dL_holds_191 : decode cL_holds 191 = .ok (.iconst 5, 1) := by decide +kernel
theorem dL_holds_192 : decode cL_holds 192 = .ok (.invokevirtual 27, 3) := by decide +kernel
theorem dL_holds_195 : decode cL_holds 195 = .ok (.bipush (-4), 2) := by decide +kernel
theorem dL_holds_197 : decode cL_holds 197 = .ok (.if_icmp .ne 7, 3) := by decide +kernel
theorem dL_holds_200 : decode cL_holds 200 = .ok (.iconst 1, 1) := by decide +kernel
theorem dL_holds_201 : decode cL_holds 201 = .ok (.goto 4, 3) := by decide +kernel
theorem dL_holds_204 : decode cL_holds 204 = .ok (.iconst 0, 1) := by decide +kernel
theorem dL_holds_205 : decode cL_holds 205 = .ok (.iload 8, 2) := by decide +kernel
theorem dL_holds_207 : decode cL_holds 207 = .ok (.ifCond .ne 7, 3) := by decide +kernel
theorem dL_holds_210 : decode cL_holds 210 = .ok (.iconst 1, 1) := by decide +kernel
theorem dL_holds_211 : decode cL_holds 211 = .ok (.goto 4, 3) := by decide +kernel
theorem dL_holds_214 : decode cL_holds 214 = .ok (.iconst 0, 1) := by decide +kernel
theorem dL_holds_215 : decode cL_holds 215 = .ok (.if_icmp .ne 7, 3) := by decide +kernel
theorem dL_holds_218 : decode cL_holds 218 = .ok (.iconst 1, 1) := by decide +kernel
theorem dL_holds_219 : decode cL_holds 219 = .ok (.goto 4, 3) := by decide +kernel
theorem dL_holds_222 : decode cL_holds 222 = .ok (.iconst 0, 1) := by decide +kernel
theorem dL_holds_223 : decode cL_holds 223 = .ok (.istore 9, 2) := by decide +kernel
theorem dL_holds_225 : decode cL_holds 225 = .ok (.iload 9, 2) := by decide +kernel
theorem dL_holds_227 : decode cL_holds 227 = .ok (.ifCond .eq 53, 3) := by decide +kernel
theorem dL_holds_230 : decode cL_holds 230 = .ok (.aload_n 0, 1) := by decide +kernel
theorem dL_holds_231 : decode cL_holds 231 = .ok (.iload 6, 2) := by decide +kernel
theorem dL_holds_233 : decode cL_holds 233 = .ok (.invokevirtual 32, 3) := by decide +kernel
theorem dL_holds_236 : decode cL_holds 236 = .ok (.bipush (-2), 2) := by decide +kernel
theorem dL_holds_238 : decode cL_holds 238 = .ok (.if_icmp .ne 7, 3) := by decide +kernel
theorem dL_holds_241 : decode cL_holds 241 = .ok (.iconst 1, 1) := by decide +kernel
theorem dL_holds_242 : decode cL_holds 242 = .ok (.goto 4, 3) := by decide +kernel
theorem dL_holds_245 : decode cL_holds 245 = .ok (.iconst 0, 1) := by decide +kernel
theorem dL_holds_246 : decode cL_holds 246 = .ok (.iload 7, 2) := by decide +kernel
theorem dL_holds_248 : decode cL_holds 248 = .ok (.iconst 1, 1) := by decide +kernel
theorem dL_holds_249 : decode cL_holds 249 = .ok (.if_icmp .le 7, 3) := by decide +kernel
theorem dL_holds_252 : decode cL_holds 252 = .ok (.iconst 1, 1) := by decide +kernel
theorem dL_holds_253 : decode cL_holds 253 = .ok (.goto 4, 3) := by decide +kernel
theorem dL_holds_256 : decode cL_holds 256 = .ok (.iconst 0, 1) := by decide +kernel
theorem dL_holds_257 : decode cL_holds 257 = .ok (.if_icmp .ne 23, 3) := by decide +kernel
theorem dL_holds_260 : decode cL_holds 260 = .ok (.iload 7, 2) := by decide +kernel
theorem dL_holds_262 : decode cL_holds 262 = .ok (.iconst 1, 1) := by decide +kernel
theorem dL_holds_263 : decode cL_holds 263 = .ok (.if_icmp .ne 19, 3) := by decide +kernel
theorem dL_holds_266 : decode cL_holds 266 = .ok (.aload_n 0, 1) := by decide +kernel
theorem dL_holds_267 : decode cL_holds 267 = .ok (.iload 6, 2) := by decide +kernel
theorem dL_holds_269 : decode cL_holds 269 = .ok (.invokevirtual 32, 3) := by decide +kernel
theorem dL_holds_272 : decode cL_holds 272 = .ok (.aload_n 0, 1) := by decide +kernel
theorem dL_holds_273 : decode cL_holds 273 = .ok (.iconst 4, 1) := by decide +kernel
theorem dL_holds_274 : decode cL_holds 274 = .ok (.invokevirtual 13, 3) := by decide +kernel
theorem dL_holds_277 : decode cL_holds 277 = .ok (.if_icmp .ge 5, 3) := by decide +kernel
theorem dL_holds_280 : decode cL_holds 280 = .ok (.iconst 0, 1) := by decide +kernel
theorem dL_holds_281 : decode cL_holds 281 = .ok (.ireturn, 1) := by decide +kernel
theorem dL_holds_282 : decode cL_holds 282 = .ok (.iinc 6 1, 3) := by decide +kernel
theorem dL_holds_285 : decode cL_holds 285 = .ok (.goto (-272), 3) := by decide +kernel
theorem dL_holds_288 : decode cL_holds 288 = .ok (.iconst 0, 1) := by decide +kernel
theorem dL_holds_289 : decode cL_holds 289 = .ok (.istore 6, 2) := by decide +kernel
theorem dL_holds_291 : decode cL_holds 291 = .ok (.iconst 0, 1) := by decide +kernel
theorem dL_holds_292 : decode cL_holds 292 = .ok (.istore 7, 2) := by decide +kernel
theorem dL_holds_294 : decode cL_holds 294 = .ok (.iload 7, 2) := by decide +kernel
theorem dL_holds_296 : decode cL_holds 296 = .ok (.iconst 3, 1) := by decide +kernel
theorem dL_holds_297 : decode cL_holds 297 = .ok (.if_icmp .ge 87, 3) := by decide +kernel
theorem dL_holds_300 : decode cL_holds 300 = .ok (.iload 6, 2) := by decide +kernel
theorem dL_holds_302 : decode cL_holds 302 = .ok (.aload_n 0, 1) := by decide +kernel
theorem dL_holds_303 : decode cL_holds 303 = .ok (.iload 7, 2) := by decide +kernel
theorem dL_holds_305 : decode cL_holds 305 = .ok (.iconst 4, 1) := by decide +kernel
theorem dL_holds_306 : decode cL_holds 306 = .ok (.invokevirtual 19, 3) := by decide +kernel
theorem dL_holds_309 : decode cL_holds 309 = .ok (.iadd, 1) := by decide +kernel
theorem dL_holds_310 : decode cL_holds 310 = .ok (.istore 6, 2) := by decide +kernel
theorem dL_holds_312 : decode cL_holds 312 = .ok (.aload_n 0, 1) := by decide +kernel
theorem dL_holds_313 : decode cL_holds 313 = .ok (.iload 7, 2) := by decide +kernel
theorem dL_holds_315 : decode cL_holds 315 = .ok (.invokevirtual 35, 3) := by decide +kernel
theorem dL_holds_318 : decode cL_holds 318 = .ok (.istore 8, 2) := by decide +kernel
theorem dL_holds_320 : decode cL_holds 320 = .ok (.aload_n 0, 1) := by decide +kernel
theorem dL_holds_321 : decode cL_holds 321 = .ok (.iload 7, 2) := by decide +kernel
theorem dL_holds_323 : decode cL_holds 323 = .ok (.iconst 1, 1) := by decide +kernel
theorem dL_holds_324 : decode cL_holds 324 = .ok (.invokevirtual 19, 3) := by decide +kernel
theorem dL_holds_327 : decode cL_holds 327 = .ok (.aload_n 0, 1) := by decide +kernel
theorem dL_holds_328 : decode cL_holds 328 = .ok (.iload 7, 2) := by decide +kernel
theorem dL_holds_330 : decode cL_holds 330 = .ok (.iconst 0, 1) := by decide +kernel
theorem dL_holds_331 : decode cL_holds 331 = .ok (.invokevirtual 19, 3) := by decide +kernel
theorem dL_holds_334 : decode cL_holds 334 = .ok (.aload_n 0, 1) := by decide +kernel
theorem dL_holds_335 : decode cL_holds 335 = .ok (.iload 7, 2) := by decide +kernel
theorem dL_holds_337 : decode cL_holds 337 = .ok (.iconst 2, 1) := by decide +kernel
theorem dL_holds_338 : decode cL_holds 338 = .ok (.invokevirtual 19, 3) := by decide +kernel
theorem dL_holds_341 : decode cL_holds 341 = .ok (.iadd, 1) := by decide +kernel
theorem dL_holds_342 : decode cL_holds 342 = .ok (.aload_n 0, 1) := by decide +kernel
theorem dL_holds_343 : decode cL_holds 343 = .ok (.iload 7, 2) := by decide +kernel
theorem dL_holds_345 : decode cL_holds 345 = .ok (.iconst 3, 1) := by decide +kernel
theorem dL_holds_346 : decode cL_holds 346 = .ok (.invokevirtual 19, 3) := by decide +kernel
theorem dL_holds_349 : decode cL_holds 349 = .ok (.iadd, 1) := by decide +kernel
theorem dL_holds_350 : decode cL_holds 350 = .ok (.if_icmp .ne 26, 3) := by decide +kernel
theorem dL_holds_353 : decode cL_holds 353 = .ok (.iload 8, 2) := by decide +kernel
theorem dL_holds_355 : decode cL_holds 355 = .ok (.bipush (-4), 2) := by decide +kernel
theorem dL_holds_357 : decode cL_holds 357 = .ok (.if_icmp .eq 21, 3) := by decide +kernel
theorem dL_holds_360 : decode cL_holds 360 = .ok (.iload 8, 2) := by decide +kernel
theorem dL_holds_362 : decode cL_holds 362 = .ok (.aload_n 0, 1) := by decide +kernel
theorem dL_holds_363 : decode cL_holds 363 = .ok (.iconst 4, 1) := by decide +kernel
theorem dL_holds_364 : decode cL_holds 364 = .ok (.invokevirtual 13, 3) := by decide +kernel
theorem dL_holds_367 : decode cL_holds 367 = .ok (.if_icmp .lt 9, 3) := by decide +kernel
theorem dL_holds_370 : decode cL_holds 370 = .ok (.iload_n 2, 1) := by decide +kernel
theorem dL_holds_371 : decode cL_holds 371 = .ok (.iload_n 3, 1) := by decide +kernel
theorem dL_holds_372 : decode cL_holds 372 = .ok (.iadd, 1) := by decide +kernel
theorem dL_holds_373 : decode cL_holds 373 = .ok (.ifCond .ne 5, 3) := by decide +kernel
theorem dL_holds_376 : decode cL_holds 376 = .ok (.iconst 0, 1) := by decide +kernel
theorem dL_holds_377 : decode cL_holds 377 = .ok (.ireturn, 1) := by decide +kernel
theorem dL_holds_378 : decode cL_holds 378 = .ok (.iinc 7 1, 3) := by decide +kernel
theorem dL_holds_381 : decode cL_holds 381 = .ok (.goto (-87), 3) := by decide +kernel
theorem dL_holds_384 : decode cL_holds 384 = .ok (.iload_n 2, 1) := by decide +kernel
theorem dL_holds_385 : decode cL_holds 385 = .ok (.aload_n 0, 1) := by decide +kernel
theorem dL_holds_386 : decode cL_holds 386 = .ok (.iconst 1, 1) := by decide +kernel
theorem dL_holds_387 : decode cL_holds 387 = .ok (.invokevirtual 13, 3) := by decide +kernel
theorem dL_holds_390 : decode cL_holds 390 = .ok (.if_icmp .ne 55, 3) := by decide +kernel
theorem dL_holds_393 : decode cL_holds 393 = .ok (.iload_n 3, 1) := by decide +kernel
theorem dL_holds_394 : decode cL_holds 394 = .ok (.aload_n 0, 1) := by decide +kernel
theorem dL_holds_395 : decode cL_holds 395 = .ok (.iconst 2, 1) := by decide +kernel
theorem dL_holds_396 : decode cL_holds 396 = .ok (.invokevirtual 13, 3) := by decide +kernel
theorem dL_holds_399 : decode cL_holds 399 = .ok (.if_icmp .ne 46, 3) := by decide +kernel
theorem dL_holds_402 : decode cL_holds 402 = .ok (.iload 4, 2) := by decide +kernel
theorem dL_holds_404 : decode cL_holds 404 = .ok (.aload_n 0, 1) := by decide +kernel
theorem dL_holds_405 : decode cL_holds 405 = .ok (.iconst 3, 1) := by decide +kernel
theorem dL_holds_406 : decode cL_holds 406 = .ok (.invokevirtual 13, 3) := by decide +kernel
theorem dL_holds_409 : decode cL_holds 409 = .ok (.if_icmp .ne 36, 3) := by decide +kernel
theorem dL_holds_412 : decode cL_holds 412 = .ok (.iload 5, 2) := by decide +kernel
theorem dL_holds_414 : decode cL_holds 414 = .ok (.aload_n 0, 1) := by decide +kernel
theorem dL_holds_415 : decode cL_holds 415 = .ok (.bipush 10, 2) := by decide +kernel
theorem dL_holds_417 : decode cL_holds 417 = .ok (.invokevirtual 13, 3) := by decide +kernel
theorem dL_holds_420 : decode cL_holds 420 = .ok (.if_icmp .ne 25, 3) := by decide +kernel
theorem dL_holds_423 : decode cL_holds 423 = .ok (.iload 6, 2) := by decide +kernel
theorem dL_holds_425 : decode cL_holds 425 = .ok (.bipush 20, 2) := by decide +kernel
theorem dL_holds_427 : decode cL_holds 427 = .ok (.if_icmp .gt 18, 3) := by decide +kernel
theorem dL_holds_430 : decode cL_holds 430 = .ok (.aload_n 0, 1) := by decide +kernel
theorem dL_holds_431 : decode cL_holds 431 = .ok (.bipush 7, 2) := by decide +kernel
theorem dL_holds_433 : decode cL_holds 433 = .ok (.invokevirtual 13, 3) := by decide +kernel
theorem dL_holds_436 : decode cL_holds 436 = .ok (.bipush 6, 2) := by decide +kernel
theorem dL_holds_438 : decode cL_holds 438 = .ok (.if_icmp .gt 7, 3) := by decide +kernel
theorem dL_holds_441 : decode cL_holds 441 = .ok (.iconst 1, 1) := by decide +kernel
theorem dL_holds_442 : decode cL_holds 442 = .ok (.goto 4, 3) := by decide +kernel
theorem dL_holds_445 : decode cL_holds 445 = .ok (.iconst 0, 1) := by decide +kernel
theorem dL_holds_446 : decode cL_holds 446 = .ok (.ireturn, 1) := by decide +kernel
set_option maxRecDepth 20000 in
theorem ggL_digits_X6_type : GoodIn wsL_digits wsX6_type := goodIn_r _ [5, 6, 7, 8, 9, 10, 11, 12, 13, 14, 15, 16, 17, 18, 19, 20, 21, 22, 23, 24, 25, 26] (by decide +kernel) (by decide +kernel)
set_option maxRecDepth 20000 in
theorem gL_digits_X6_type : GoodIn wsL_digits (wsV RL 38 RX6 yX6_type wsX6_type) := goodIn_app (goodIn_of _ (by decide +kernel)) ggL_digits_X6_type
theorem dL_digits_0 : decode cL_digits 0 = .ok (.iload_n 1, 1) := by decide +kernel
theorem dL_digits_1 : decode cL_digits 1 = .ok (.bipush 100, 2) := by decide +kernel
theorem dL_digits_3 : decode cL_digits 3 = .ok (.if_icmp .lt 17, 3) := by decide +kernel
theorem dL_digits_6 : decode cL_digits 6 = .ok (.aload_n 0, 1) := by decide +kernel
theorem dL_digits_7 : decode cL_digits 7 = .ok (.bipush 48, 2) := by decide +kernel
theorem dL_digits_9 : decode cL_digits 9 = .ok (.iload_n 1, 1) := by decide +kernel
theorem dL_digits_10 : decode cL_digits 10 = .ok (.bipush 100, 2) := by decide +kernel
theorem dL_digits_12 : decode cL_digits 12 = .ok (.idiv, 1) := by decide +kernel
theorem dL_digits_13 : decode cL_digits 13 = .ok (.iadd, 1) := by decide +kernel
theorem dL_digits_14 : decode cL_digits 14 = .ok (.invokevirtual 38, 3) := by decide +kernel
theorem dL_digits_17 : decode cL_digits 17 = .ok (.ifCond .le 30, 3) := by decide +kernel
theorem dL_digits_20 : decode cL_digits 20 = .ok (.iload_n 1, 1) := by decide +kernel
theorem dL_digits_21 : decode cL_digits 21 = .ok (.bipush 10, 2) := by decide +kernel
theorem dL_digits_23 : decode cL_digits 23 = .ok (.if_icmp .lt 20, 3) := by decide +kernel
theorem dL_digits_26 : decode cL_digits 26 = .ok (.aload_n 0, 1) := by decide +kernel
theorem dL_digits_27 : decode cL_digits 27 = .ok (.bipush 48, 2) := by decide +kernel
theorem dL_digits_29 : decode cL_digits 29 = .ok (.iload_n 1, 1) := by decide +kernel
theorem dL_digits_30 : decode cL_digits 30 = .ok (.bipush 10, 2) := by decide +kernel
theorem dL_digits_32 : decode cL_digits 32 = .ok (.idiv, 1) := by decide +kernel
theorem dL_digits_33 : decode cL_digits 33 = .ok (.bipush 10, 2) := by decide +kernel
theorem dL_digits_35 : decode cL_digits 35 = .ok (.irem, 1) := by decide +kernel
theorem dL_digits_36 : decode cL_digits 36 = .ok (.iadd, 1) := by decide +kernel
theorem dL_digits_37 : decode cL_digits 37 = .ok (.invokevirtual 38, 3) := by decide +kernel
theorem dL_digits_40 : decode cL_digits 40 = .ok (.ifCond .le 7, 3) := by decide +kernel
theorem dL_digits_43 : decode cL_digits 43 = .ok (.iconst 1, 1) := by decide +kernel
theorem dL_digits_44 : decode cL_digits 44 = .ok (.goto 4, 3) := by decide +kernel
theorem dL_digits_47 : decode cL_digits 47 = .ok (.iconst 0, 1) := by decide +kernel
theorem dL_digits_48 : decode cL_digits 48 = .ok (.istore_n 2, 1) := by decide +kernel
theorem dL_digits_49 : decode cL_digits 49 = .ok (.iload_n 2, 1) := by decide +kernel
theorem dL_digits_50 : decode cL_digits 50 = .ok (.ifCond .eq 21, 3) := by decide +kernel
theorem dL_digits_53 : decode cL_digits 53 = .ok (.aload_n 0, 1) := by decide +kernel
theorem dL_digits_54 : decode cL_digits 54 = .ok (.bipush 48, 2) := by decide +kernel
theorem dL_digits_56 : decode cL_digits 56 = .ok (.iload_n 1, 1) := by decide +kernel
theorem dL_digits_57 : decode cL_digits 57 = .ok (.bipush 10, 2) := by decide +kernel
theorem dL_digits_59 : decode cL_digits 59 = .ok (.irem, 1) := by decide +kernel
theorem dL_digits_60 : decode cL_digits 60 = .ok (.iadd, 1) := by decide +kernel
theorem dL_digits_61 : decode cL_digits 61 = .ok (.invokevirtual 38, 3) := by decide +kernel
theorem dL_digits_64 : decode cL_digits 64 = .ok (.ifCond .le 7, 3) := by decide +kernel
theorem dL_digits_67 : decode cL_digits 67 = .ok (.iconst 1, 1) := by decide +kernel
theorem dL_digits_68 : decode cL_digits 68 = .ok (.goto 4, 3) := by decide +kernel
theorem dL_digits_71 : decode cL_digits 71 = .ok (.iconst 0, 1) := by decide +kernel
theorem dL_digits_72 : decode cL_digits 72 = .ok (.ireturn, 1) := by decide +kernel
set_option maxRecDepth 20000 in
theorem ggL_types_L_low : GoodIn wsL_types wsL_low := goodIn_r _ [4, 5] (by decide +kernel) (by decide +kernel)
set_option maxRecDepth 20000 in
theorem gL_types_L_low : GoodIn wsL_types (va_wsS RL 41 yL_low wsL_low) := goodIn_app (goodIn_of _ (by decide +kernel)) ggL_types_L_low
set_option maxRecDepth 20000 in
theorem ggL_types_X6_clearText : GoodIn wsL_types wsX6_clearText := goodIn_r _ [10, 11, 12, 69, 70, 71, 72, 73, 74, 75, 76, 77, 78, 79, 80] (by decide +kernel) (by decide +kernel)
set_option maxRecDepth 20000 in
theorem gL_types_X6_clearText : GoodIn wsL_types (wsV RL 44 RX6 yX6_clearText wsX6_clearText) := goodIn_app (goodIn_of _ (by decide +kernel)) ggL_types_X6_clearText
set_option maxRecDepth 20000 in
theorem ggL_types_X6_type : GoodIn wsL_types wsX6_type := goodIn_r _ [16, 11, 12, 17, 18, 19, 20, 21, 22, 23, 69, 70, 71, 72, 73, 74, 75, 76, 77, 78, 79, 80] (by decide +kernel) (by decide +kernel)
set_option maxRecDepth 20000 in
theorem gL_types_X6_type : GoodIn wsL_types (wsV RL 38 RX6 yX6_type wsX6_type) := goodIn_app (goodIn_of _ (by decide +kernel)) ggL_types_X6_type
set_option maxRecDepth 20000 in
theorem ggL_types_X6_count : GoodIn wsL_types wsX6_count := goodIn_r _ [27, 28, 29, 30, 31, 32, 33, 34, 35, 36, 37, 38, 39, 40, 11, 12, 41, 42, 43, 44, 45, 46, 47, 48, 49, 50, 51, 52, 53, 54, 55, 56, 57, 58, 59, 60, 61, 62, 63, 64, 65, 69, 70, 71, 72, 73, 74, 75, 81, 82, 83, 84, 85, 86, 87, 88, 89, 90, 91, 92, 93, 94, 95, 96, 97, 98, 99, 100, 101, 102, 103, 104, 105, 106, 107, 108, 109, 110, 76, 77, 78, 79, 80] (by decide +kernel) (by decide +kernel)
set_option maxRecDepth 20000 in
theorem gL_types_X6_count : GoodIn wsL_types (wsV RL 13 RX6 yX6_count wsX6_count) := goodIn_app (goodIn_of _ (by decide +kernel)) ggL_types_X6_count
set_option maxRecDepth 20000 in
theorem ggL_types_L_digits : GoodIn wsL_types wsL_digits := goodIn_r _ [68, 13, 14, 15, 9, 16, 11, 12, 17, 18, 19, 20, 21, 22, 23, 69, 70, 71, 72, 73, 74, 75, 76, 77, 78, 79, 80] (by decide +kernel) (by decide +kernel)
set_option maxRecDepth 20000 in
theorem gL_types_L_digits : GoodIn wsL_types (va_wsS RL 48 yL_digits wsL_digits) := goodIn_app (goodIn_of _ (by decide +kernel)) ggL_types_L_digits
theorem dL_types_0 : decode cL_types 0 = .ok (.iload_n 1, 1) := by decide +kernel
theorem dL_types_1 : decode cL_types 1 = .ok (.iconst 5, 1) := by decide +kernel
theorem dL_types_2 : decode cL_types 2 = .ok (.invokestatic 41, 3) := by decide +kernel
theorem dL_types_5 : decode cL_types 5 = .ok (.istore_n 2, 1) := by decide +kernel
theorem dL_types_6 : decode cL_types 6 = .ok (.aload_n 0, 1) := by decide +kernel
theorem dL_types_7 : decode cL_types 7 = .ok (.invokevirtual 44, 3) := by decide +kernel
theorem dL_types_10 : decode cL_types 10 = .ok (.ifCond .lt 7, 3) := by decide +kernel
theorem dL_types_13 : decode cL_types 13 = .ok (.iconst 1, 1) := by decide +kernel
theorem dL_types_14 : decode cL_types 14 = .ok (.goto 4, 3) := by decide +kernel
theorem dL_types_17 : decode cL_types 17 = .ok (.iconst 0, 1) := by decide +kernel
theorem dL_types_18 : decode cL_types 18 = .ok (.istore_n 3, 1) := by decide +kernel
theorem dL_types_19 : decode cL_types 19 = .ok (.iconst 0, 1) := by decide +kernel
theorem dL_types_20 : decode cL_types 20 = .ok (.istore 4, 2) := by decide +kernel
theorem dL_types_22 : decode cL_types 22 = .ok (.iload 4, 2) := by decide +kernel
theorem dL_types_24 : decode cL_types 24 = .ok (.iload_n 2, 1) := by decide +kernel
theorem dL_types_25 : decode cL_types 25 = .ok (.if_icmp .ge 385, 3) := by decide +kernel
theorem dL_types_28 : decode cL_types 28 = .ok (.iload_n 1, 1) := by decide +kernel
theorem dL_types_29 : decode cL_types 29 = .ok (.iconst 3, 1) := by decide +kernel
theorem dL_types_30 : decode cL_types 30 = .ok (.iconst 5, 1) := by decide +kernel
theorem dL_types_31 : decode cL_types 31 = .ok (.iload 4, 2) := by decide +kernel
theorem dL_types_33 : decode cL_types 33 = .ok (.imul, 1) := by decide +kernel
theorem dL_types_34 : decode cL_types 34 = .ok (.iadd, 1) := by decide +kernel
theorem dL_types_35 : decode cL_types 35 = .ok (.ishr, 1) := by decide +kernel
theorem dL_types_36 : decode cL_types 36 = .ok (.istore 5, 2) := by decide +kernel
theorem dL_types_38 : decode cL_types 38 = .ok (.iload 5, 2) := by decide +kernel
theorem dL_types_40 : decode cL_types 40 = .ok (.bipush 9, 2) := by decide +kernel
theorem dL_types_42 : decode cL_types 42 = .ok (.invokestatic 41, 3) := by decide +kernel
theorem dL_types_45 : decode cL_types 45 = .ok (.istore 6, 2) := by decide +kernel
theorem dL_types_47 : decode cL_types 47 = .ok (.iload 6, 2) := by decide +kernel
theorem dL_types_49 : decode cL_types 49 = .ok (.iconst 3, 1) := by decide +kernel
theorem dL_types_50 : decode cL_types 50 = .ok (.if_icmp .lt 16, 3) := by decide +kernel
theorem dL_types_53 : decode cL_types 53 = .ok (.iload 6, 2) := by decide +kernel
theorem dL_types_55 : decode cL_types 55 = .ok (.iconst 5, 1) := by decide +kernel
theorem dL_types_56 : decode cL_types 56 = .ok (.if_icmp .eq 10, 3) := by decide +kernel
theorem dL_types_59 : decode cL_types 59 = .ok (.iload 6, 2) := by decide +kernel
theorem dL_types_61 : decode cL_types 61 = .ok (.bipush 6, 2) := by decide +kernel
theorem dL_types_63 : decode cL_types 63 = .ok (.if_icmp .ne 7, 3) := by decide +kernel
theorem dL_types_66 : decode cL_types 66 = .ok (.iconst 3, 1) := by decide +kernel
theorem dL_types_67 : decode cL_types 67 = .ok (.goto 25, 3) := by decide +kernel
theorem dL_types_70 : decode cL_types 70 = .ok (.iload 6, 2) := by decide +kernel
theorem dL_types_72 : decode cL_types 72 = .ok (.iconst 3, 1) := by decide +kernel
theorem dL_types_73 : decode cL_types 73 = .ok (.if_icmp .ne 7, 3) := by decide +kernel
theorem dL_types_76 : decode cL_types 76 = .ok (.iconst 0, 1) := by decide +kernel
theorem dL_types_77 : decode cL_types 77 = .ok (.goto 15, 3) := by decide +kernel
theorem dL_types_80 : decode cL_types 80 = .ok (.iload 6, 2) := by decide +kernel
theorem dL_types_82 : decode cL_types 82 = .ok (.bipush 7, 2) := by decide +kernel
theorem dL_types_84 : decode cL_types 84 = .ok (.if_icmp .ne 7, 3) := by decide +kernel
theorem dL_types_87 : decode cL_types 87 = .ok (.iconst 2, 1) := by decide +kernel
theorem dL_types_88 : decode cL_types 88 = .ok (.goto 4, 3) := by decide +kernel
theorem dL_types_91 : decode cL_types 91 = .ok (.iconst 1, 1) := by decide +kernel
theorem dL_types_92 : decode cL_types 92 = .ok (.istore 7, 2) := by decide +kernel
theorem dL_types_94 : decode cL_types 94 = .ok (.iload_n 3, 1) := by decide +kernel
theorem dL_types_95 : decode cL_types 95 = .ok (.ifCond .eq 73, 3) := by decide +kernel
theorem dL_types_98 : decode cL_types 98 = .ok (.aload_n 0, 1) := by decide +kernel
theorem dL_types_99 : decode cL_types 99 = .ok (.iload 6, 2) := by decide +kernel
theorem dL_types_101 : decode cL_types 101 = .ok (.iconst 3, 1) := by decide +kernel
theorem dL_types_102 : decode cL_types 102 = .ok (.if_icmp .ge 8, 3) := by decide +kernel
theorem dL_types_105 : decode cL_types 105 = .ok (.bipush 108, 2) := by decide +kernel
theorem dL_types_107 : decode cL_types 107 = .ok (.goto 51, 3) := by decide +kernel
theorem dL_types_110 : decode cL_types 110 = .ok (.iload 6, 2) := by decide +kernel
theorem dL_types_112 : decode cL_types 112 = .ok (.iconst 3, 1) := by decide +kernel
theorem dL_types_113 : decode cL_types 113 = .ok (.if_icmp .ne 8, 3) := by decide +kernel
theorem dL_types_116 : decode cL_types 116 = .ok (.bipush 102, 2) := by decide +kernel
theorem dL_types_118 : decode cL_types 118 = .ok (.goto 40, 3) := by decide +kernel
theorem dL_types_121 : decode cL_types 121 = .ok (.iload 6, 2) := by decide +kernel
theorem dL_types_123 : decode cL_types 123 = .ok (.iconst 5, 1) := by decide +kernel
theorem dL_types_124 : decode cL_types 124 = .ok (.if_icmp .ge 8, 3) := by decide +kernel
theorem dL_types_127 : decode cL_types 127 = .ok (.bipush 110, 2) := by decide +kernel
theorem dL_types_129 : decode cL_types 129 = .ok (.goto 29, 3) := by decide +kernel
theorem dL_types_132 : decode cL_types 132 = .ok (.iload 6, 2) := by decide +kernel
theorem dL_types_134 : decode cL_types 134 = .ok (.bipush 7, 2) := by decide +kernel
theorem dL_types_136 : decode cL_types 136 = .ok (.if_icmp .ge 8, 3) := by decide +kernel
theorem dL_types_139 : decode cL_types 139 = .ok (.bipush 98, 2) := by decide +kernel
theorem dL_types_141 : decode cL_types 141 = .ok (.goto 17, 3) := by decide +kernel
theorem dL_types_144 : decode cL_types 144 = .ok (.iload 6, 2) := by decide +kernel
theorem dL_types_146 : decode cL_types 146 = .ok (.bipush 7, 2) := by decide +kernel
theorem dL_types_148 : decode cL_types 148 = .ok (.if_icmp .ne 8, 3) := by decide +kernel
theorem dL_types_151 : decode cL_types 151 = .ok (.bipush 115, 2) := by decide +kernel
theorem dL_types_153 : decode cL_types 153 = .ok (.goto 5, 3) := by decide +kernel
theorem dL_types_156 : decode cL_types 156 = .ok (.bipush 120, 2) := by decide +kernel
theorem dL_types_158 : decode cL_types 158 = .ok (.invokevirtual 38, 3) := by decide +kernel
theorem dL_types_161 : decode cL_types 161 = .ok (.ifCond .le 7, 3) := by decide +kernel
theorem dL_types_164 : decode cL_types 164 = .ok (.iconst 1, 1) := by decide +kernel
theorem dL_types_165 : decode cL_types 165 = .ok (.goto 4, 3) := by decide +kernel
theorem dL_types_168 : decode cL_types 168 = .ok (.iconst 0, 1) := by decide +kernel
theorem dL_types_169 : decode cL_types 169 = .ok (.istore_n 3, 1) := by decide +kernel
theorem dL_types_170 : decode cL_types 170 = .ok (.iconst 0, 1) := by decide +kernel
theorem dL_types_171 : decode cL_types 171 = .ok (.istore 8, 2) := by decide +kernel
theorem dL_types_173 : decode cL_types 173 = .ok (.iload 8, 2) := by decide +kernel
theorem dL_types_175 : decode cL_types 175 = .ok (.iload 7, 2) := by decide +kernel
theorem dL_types_177 : decode cL_types 177 = .ok (.if_icmp .ge 171, 3) := by decide +kernel
theorem dL_types_180 : decode cL_types 180 = .ok (.iload 6, 2) := by decide +kernel
theorem dL_types_182 : decode cL_types 182 = .ok (.iconst 3, 1) := by decide +kernel
theorem dL_types_183 : decode cL_types 183 = .ok (.if_icmp .ge 28, 3) := by decide +kernel
theorem dL_types_186 : decode cL_types 186 = .ok (.iload 8, 2) := by decide +kernel
theorem dL_types_188 : decode cL_types 188 = .ok (.ifCond .ne 7, 3) := by decide +kernel
theorem dL_types_191 : decode cL_types 191 = .ok (.iconst 4, 1) := by decide +kernel
theorem dL_types_192 : decode cL_types 192 = .ok (.goto 50, 3) := by decide +kernel
theorem dL_types_195 : decode cL_types 195 = .ok (.iload 8, 2) := by decide +kernel
theorem dL_types_197 : decode cL_types 197 = .ok (.iconst 1, 1) := by decide +kernel
theorem dL_types_198 : decode cL_types 198 = .ok (.if_icmp .ne 8, 3) := by decide +kernel
theorem dL_types_201 : decode cL_types 201 = .ok (.bipush 60, 2) := by decide +kernel
theorem dL_types_203 : decode cL_types 203 = .ok (.goto 39, 3) := by decide +kernel
theorem dL_types_206 : decode cL_types 206 = .ok (.bipush 20, 2) := by decide +kernel
theorem dL_types_208 : decode cL_types 208 = .ok (.goto 34, 3) := by decide +kernel
theorem dL_types_211 : decode cL_types 211 = .ok (.iload 6, 2) := by decide +kernel
theorem dL_types_213 : decode cL_types 213 = .ok (.iconst 4, 1) := by decide +kernel
theorem dL_types_214 : decode cL_types 214 = .ok (.if_icmp .eq 10, 3) := by decide +kernel
theorem dL_types_217 : decode cL_types 217 = .ok (.iload 6, 2) := by decide +kernel
theorem dL_types_219 : decode cL_types 219 = .ok (.bipush 8, 2) := by decide +kernel
theorem dL_types_221 : decode cL_types 221 = .ok (.if_icmp .ne 8, 3) := by decide +kernel
theorem dL_types_224 : decode cL_types 224 = .ok (.bipush 7, 2) := by decide +kernel
theorem dL_types_226 : decode cL_types 226 = .ok (.goto 16, 3) := by decide +kernel
theorem dL_types_229 : decode cL_types 229 = .ok (.iload 8, 2) := by decide +kernel
theorem dL_types_231 : decode cL_types 231 = .ok (.iconst 1, 1) := by decide +kernel
theorem dL_types_232 : decode cL_types 232 = .ok (.if_icmp .ne 8, 3) := by decide +kernel
theorem dL_types_235 : decode cL_types 235 = .ok (.bipush 12, 2) := by decide +kernel
theorem dL_types_237 : decode cL_types 237 = .ok (.goto 5, 3) := by decide +kernel
theorem dL_types_240 : decode cL_types 240 = .ok (.bipush 7, 2) := by decide +kernel
theorem dL_types_242 : decode cL_types 242 = .ok (.istore 9, 2) := by decide +kernel
theorem dL_types_244 : decode cL_types 244 = .ok (.iload 6, 2) := by decide +kernel
theorem dL_types_246 : decode cL_types 246 = .ok (.iconst 4, 1) := by decide +kernel
theorem dL_types_247 : decode cL_types 247 = .ok (.if_icmp .le 46, 3) := by decide +kernel
theorem dL_types_250 : decode cL_types 250 = .ok (.iload 6, 2) := by decide +kernel
theorem dL_types_252 : decode cL_types 252 = .ok (.bipush 8, 2) := by decide +kernel
theorem dL_types_254 : decode cL_types 254 = .ok (.if_icmp .ge 39, 3) := by decide +kernel
theorem dL_types_257 : decode cL_types 257 = .ok (.iload 8, 2) := by decide +kernel
theorem dL_types_259 : decode cL_types 259 = .ok (.iload 6, 2) := by decide +kernel
theorem dL_types_261 : decode cL_types 261 = .ok (.bipush 7, 2) := by decide +kernel
theorem dL_types_263 : decode cL_types 263 = .ok (.if_icmp .ne 7, 3) := by decide +kernel
theorem dL_types_266 : decode cL_types 266 = .ok (.iconst 0, 1) := by decide +kernel
theorem dL_types_267 : decode cL_types 267 = .ok (.goto 4, 3) := by decide +kernel
theorem dL_types_270 : decode cL_types 270 = .ok (.iconst 1, 1) := by decide +kernel
theorem dL_types_271 : decode cL_types 271 = .ok (.if_icmp .ne 22, 3) := by decide +kernel
theorem dL_types_274 : decode cL_types 274 = .ok (.aload_n 0, 1) := by decide +kernel
theorem dL_types_275 : decode cL_types 275 = .ok (.iconst 4, 1) := by decide +kernel
theorem dL_types_276 : decode cL_types 276 = .ok (.invokevirtual 13, 3) := by decide +kernel
theorem dL_types_279 : decode cL_types 279 = .ok (.sipush 350, 3) := by decide +kernel
theorem dL_types_282 : decode cL_types 282 = .ok (.if_icmp .ge 11, 3) := by decide +kernel
theorem dL_types_285 : decode cL_types 285 = .ok (.aload_n 0, 1) := by decide +kernel
theorem dL_types_286 : decode cL_types 286 = .ok (.iconst 4, 1) := by decide +kernel
theorem dL_types_287 : decode cL_types 287 = .ok (.invokevirtual 13, 3) := by decide +kernel
theorem dL_types_290 : decode cL_types 290 = .ok (.goto 4, 3) := by decide +kernel
theorem dL_types_293 : decode cL_types 293 = .ok (.iconst 0, 1) := by decide +kernel
theorem dL_types_294 : decode cL_types 294 = .ok (.istore 10, 2) := by decide +kernel
theorem dL_types_296 : decode cL_types 296 = .ok (.iload_n 3, 1) := by decide +kernel
theorem dL_types_297 : decode cL_types 297 = .ok (.ifCond .eq 43, 3) := by decide +kernel
theorem dL_types_300 : decode cL_types 300 = .ok (.iload 8, 2) := by decide +kernel
theorem dL_types_302 : decode cL_types 302 = .ok (.ifCond .eq 12, 3) := by decide +kernel
theorem dL_types_305 : decode cL_types 305 = .ok (.aload_n 0, 1) := by decide +kernel
theorem dL_types_306 : decode cL_types 306 = .ok (.bipush 44, 2) := by decide +kernel
theorem dL_types_308 : decode cL_types 308 = .ok (.invokevirtual 38, 3) := by decide +kernel
theorem dL_types_311 : decode cL_types 311 = .ok (.ifCond .le 29, 3) := by decide +kernel
theorem dL_types_314 : decode cL_types 314 = .ok (.aload_n 0, 1) := by decide +kernel
theorem dL_types_315 : decode cL_types 315 = .ok (.iload 10, 2) := by decide +kernel
theorem dL_types_317 : decode cL_types 317 = .ok (.iload 5, 2) := by decide +kernel
theorem dL_types_319 : decode cL_types 319 = .ok (.iconst 2, 1) := by decide +kernel
theorem dL_types_320 : decode cL_types 320 = .ok (.iload 8, 2) := by decide +kernel
theorem dL_types_322 : decode cL_types 322 = .ok (.iadd, 1) := by decide +kernel
theorem dL_types_323 : decode cL_types 323 = .ok (.ishr, 1) := by decide +kernel
theorem dL_types_324 : decode cL_types 324 = .ok (.iload 9, 2) := by decide +kernel
theorem dL_types_326 : decode cL_types 326 = .ok (.invokestatic 41, 3) := by decide +kernel
theorem dL_types_329 : decode cL_types 329 = .ok (.iadd, 1) := by decide +kernel
theorem dL_types_330 : decode cL_types 330 = .ok (.invokestatic 48, 3) := by decide +kernel
theorem dL_types_333 : decode cL_types 333 = .ok (.ifCond .eq 7, 3) := by decide +kernel
theorem dL_types_336 : decode cL_types 336 = .ok (.iconst 1, 1) := by decide +kernel
theorem dL_types_337 : decode cL_types 337 = .ok (.goto 4, 3) := by decide +kernel
theorem dL_types_340 : decode cL_types 340 = .ok (.iconst 0, 1) := by decide +kernel
theorem dL_types_341 : decode cL_types 341 = .ok (.istore_n 3, 1) := by decide +kernel
theorem dL_types_342 : decode cL_types 342 = .ok (.iinc 8 1, 3) := by decide +kernel
theorem dL_types_345 : decode cL_types 345 = .ok (.goto (-172), 3) := by decide +kernel
theorem dL_types_348 : decode cL_types 348 = .ok (.iload_n 3, 1) := by decide +kernel
theorem dL_types_349 : decode cL_types 349 = .ok (.ifCond .eq 53, 3) := by decide +kernel
theorem dL_types_352 : decode cL_types 352 = .ok (.iload_n 1, 1) := by decide +kernel
theorem dL_types_353 : decode cL_types 353 = .ok (.bipush 24, 2) := by decide +kernel
theorem dL_types_355 : decode cL_types 355 = .ok (.ishr, 1) := by decide +kernel
theorem dL_types_356 : decode cL_types 356 = .ok (.bipush 6, 2) := by decide +kernel
theorem dL_types_358 : decode cL_types 358 = .ok (.invokestatic 41, 3) := by decide +kernel
theorem dL_types_361 : decode cL_types 361 = .ok (.ifCond .ne 11, 3) := by decide +kernel
theorem dL_types_364 : decode cL_types 364 = .ok (.iload 4, 2) := by decide +kernel
theorem dL_types_366 : decode cL_types 366 = .ok (.iload_n 2, 1) := by decide +kernel
theorem dL_types_367 : decode cL_types 367 = .ok (.iconst 1, 1) := by decide +kernel
theorem dL_types_368 : decode cL_types 368 = .ok (.isub, 1) := by decide +kernel
theorem dL_types_369 : decode cL_types 369 = .ok (.if_icmp .eq 29, 3) := by decide +kernel
theorem dL_types_372 : decode cL_types 372 = .ok (.aload_n 0, 1) := by decide +kernel
theorem dL_types_373 : decode cL_types 373 = .ok (.iload_n 1, 1) := by decide +kernel
theorem dL_types_374 : decode cL_types 374 = .ok (.bipush 20, 2) := by decide +kernel
theorem dL_types_376 : decode cL_types 376 = .ok (.ishr, 1) := by decide +kernel
theorem dL_types_377 : decode cL_types 377 = .ok (.bipush 11, 2) := by decide +kernel
theorem dL_types_379 : decode cL_types 379 = .ok (.invokestatic 41, 3) := by decide +kernel
theorem dL_types_382 : decode cL_types 382 = .ok (.ifCond .ne 8, 3) := by decide +kernel
theorem dL_types_385 : decode cL_types 385 = .ok (.bipush 46, 2) := by decide +kernel
theorem dL_types_387 : decode cL_types 387 = .ok (.goto 5, 3) := by decide +kernel
theorem dL_types_390 : decode cL_types 390 = .ok (.bipush 59, 2) := by decide +kernel
theorem dL_types_392 : decode cL_types 392 = .ok (.invokevirtual 38, 3) := by decide +kernel
theorem dL_types_395 : decode cL_types 395 = .ok (.ifCond .le 7, 3) := by decide +kernel
theorem dL_types_398 : decode cL_types 398 = .ok (.iconst 1, 1) := by decide +kernel
theorem dL_types_399 : decode cL_types 399 = .ok (.goto 4, 3) := by decide +kernel
theorem dL_types_402 : decode cL_types 402 = .ok (.iconst 0, 1) := by decide +kernel
theorem dL_types_403 : decode cL_types 403 = .ok (.istore_n 3, 1) := by decide +kernel
theorem dL_types_404 : decode cL_types 404 = .ok (.iinc 4 1, 3) := by decide +kernel
theorem dL_types_407 : decode cL_types 407 = .ok (.goto (-385), 3) := by decide +kernel
theorem dL_types_410 : decode cL_types 410 = .ok (.iload_n 3, 1) := by decide +kernel
theorem dL_types_411 : decode cL_types 411 = .ok (.ireturn, 1) := by decide +kernel
set_option maxRecDepth 20000 in
theorem ggL_reads_X6_fault : GoodIn wsL_reads wsX6_fault := goodIn_r _ [5, 6, 7, 8, 9, 10, 11, 12, 13, 14, 15, 16, 17, 18, 19, 20, 21, 22, 23, 24, 25, 26, 27, 28, 29, 30, 31, 32, 33, 34, 35, 36, 37, 38, 39, 40, 41, 42, 43, 44, 45, 46, 47, 48, 49, 50, 51, 52, 53, 54, 55, 56, 57, 58, 59, 60, 61, 62, 63, 64, 65, 66, 67, 68, 69, 70, 71, 72, 73, 74, 75, 76, 77, 78, 79, 80, 81, 82, 83, 84, 85, 86, 87, 88, 89, 90, 91, 92, 93, 94, 95, 96, 97, 98, 99, 100, 101, 102, 103, 104, 105, 106, 107, 108, 109, 110, 111, 112, 113, 114, 115, 116, 117, 118, 119, 120, 121, 122, 123, 124, 125, 126, 127, 128, 129, 130, 131, 132, 133, 134, 135, 136, 137, 138, 139, 140, 141, 142, 143, 144, 145, 146, 147, 148, 149, 150, 151, 152, 153, 154, 155, 156, 157, 158, 159, 160, 161, 162, 163, 164, 165, 166, 167, 168, 169, 170, 171, 172, 173, 174, 175, 176, 177, 178, 179, 180, 181, 182, 183, 184, 185, 186, 187, 188, 189, 190, 191, 192, 193, 194, 195, 196, 197, 198, 199, 200, 201, 202, 203, 204, 205, 206, 207, 208, 209, 210, 211, 212, 213, 214, 215, 216, 217, 218, 219, 220, 221, 222, 223, 224, 225, 226, 227, 228, 229, 278, 279, 280, 281, 282, 283, 284, 285, 286, 287, 288, 289, 290, 291, 292, 293, 294, 295, 296, 297, 298, 299, 300, 301, 302, 303, 304, 305, 306, 307, 308, 309, 310, 311, 312, 313, 314, 315, 316, 317, 318, 319, 320, 321, 322, 323] (by decide +kernel) (by decide +kernel)
set_option maxRecDepth 20000 in
theorem gL_reads_X6_fault : GoodIn wsL_reads (wsV RL 52 RX6 yX6_fault wsX6_fault) := goodIn_app (goodIn_of _ (by decide +kernel)) ggL_reads_X6_fault
set_option maxRecDepth 20000 in
theorem ggL_reads_X6_count : GoodIn wsL_reads wsX6_count := goodIn_r _ [233, 8, 234, 235, 236, 237, 238, 239, 240, 241, 242, 243, 244, 245, 7, 246, 247, 248, 219, 220, 65, 221, 74, 71, 249, 174, 175, 176, 67, 250, 128, 129, 29, 130, 39, 33, 251, 252, 253, 254, 38, 278, 279, 280, 281, 282, 283, 284, 296, 297, 298, 299, 300, 301, 302, 303, 304, 305, 317, 318, 319, 320, 321, 322, 323, 306, 307, 308, 309, 310, 311, 312, 313, 314, 315, 316, 324, 325, 291, 292, 293, 294, 295] (by decide +kernel) (by decide +kernel)
set_option maxRecDepth 20000 in
theorem gL_reads_X6_count : GoodIn wsL_reads (wsV RL 13 RX6 yX6_count wsX6_count) := goodIn_app (goodIn_of _ (by decide +kernel)) ggL_reads_X6_count
set_option maxRecDepth 20000 in
theorem ggL_reads_X6_play : GoodIn wsL_reads wsX6_play := goodIn_r _ [258, 6, 7, 8, 9, 244, 259, 260, 12, 13, 14, 15, 16, 17, 18, 19, 20, 21, 22, 23, 24, 25, 26, 27, 28, 29, 30, 31, 32, 33, 34, 35, 36, 37, 38, 39, 40, 41, 42, 43, 44, 45, 46, 47, 48, 49, 50, 51, 52, 53, 54, 55, 56, 57, 58, 59, 60, 61, 62, 63, 64, 65, 66, 67, 68, 69, 70, 71, 72, 73, 74, 75, 76, 77, 78, 79, 80, 81, 82, 83, 84, 85, 86, 87, 88, 89, 90, 91, 92, 93, 94, 95, 96, 97, 98, 99, 100, 101, 102, 103, 104, 105, 106, 107, 108, 109, 110, 111, 112, 113, 114, 115, 116, 117, 118, 119, 120, 121, 122, 123, 124, 125, 126, 127, 128, 129, 130, 131, 132, 133, 134, 135, 136, 137, 138, 139, 140, 141, 142, 143, 144, 145, 146, 147, 148, 149, 150, 151, 152, 153, 154, 155, 156, 157, 158, 159, 160, 161, 162, 163, 164, 165, 166, 167, 168, 169, 170, 171, 172, 173, 174, 175, 176, 177, 178, 179, 180, 181, 182, 183, 184, 185, 186, 187, 188, 189, 190, 191, 192, 193, 194, 195, 196, 197, 198, 199, 200, 201, 202, 203, 204, 205, 206, 207, 208, 209, 210, 211, 212, 213, 214, 215, 216, 217, 218, 219, 220, 221, 222, 223, 224, 225, 226, 227, 228, 229, 261, 262, 263, 264, 265, 266, 267, 268, 269, 270, 271, 272, 4, 273, 274, 275, 276, 277, 278, 279, 280, 281, 282, 283, 284, 285, 286, 287, 288, 289, 290, 291, 292, 293, 294, 295, 296, 297, 298, 299, 300, 301, 302, 303, 304, 305, 306, 307, 308, 309, 310, 311, 312, 313, 314, 315, 316, 317, 318, 319, 320, 321, 322, 323, 324, 325] (by decide +kernel) (by decide +kernel)
set_option maxRecDepth 20000 in
theorem gL_reads_X6_play : GoodIn wsL_reads (wsV RL 55 RX6 yX6_play wsX6_play) := goodIn_app (goodIn_of _ (by decide +kernel)) ggL_reads_X6_play
theorem dL_reads_0 : decode cL_reads 0 = .ok (.aload_n 0, 1) := by decide +kernel
theorem dL_reads_1 : decode cL_reads 1 = .ok (.iconst 0, 1) := by decide +kernel
theorem dL_reads_2 : decode cL_reads 2 = .ok (.invokevirtual 52, 3) := by decide +kernel
theorem dL_reads_5 : decode cL_reads 5 = .ok (.istore_n 1, 1) := by decide +kernel
theorem dL_reads_6 : decode cL_reads 6 = .ok (.aload_n 0, 1) := by decide +kernel
theorem dL_reads_7 : decode cL_reads 7 = .ok (.iconst 1, 1) := by decide +kernel
theorem dL_reads_8 : decode cL_reads 8 = .ok (.invokevirtual 52, 3) := by decide +kernel
theorem dL_reads_11 : decode cL_reads 11 = .ok (.istore_n 2, 1) := by decide +kernel
theorem dL_reads_12 : decode cL_reads 12 = .ok (.aload_n 0, 1) := by decide +kernel
theorem dL_reads_13 : decode cL_reads 13 = .ok (.iconst 2, 1) := by decide +kernel
theorem dL_reads_14 : decode cL_reads 14 = .ok (.invokevirtual 52, 3) := by decide +kernel
theorem dL_reads_17 : decode cL_reads 17 = .ok (.istore_n 3, 1) := by decide +kernel
theorem dL_reads_18 : decode cL_reads 18 = .ok (.aload_n 0, 1) := by decide +kernel
theorem dL_reads_19 : decode cL_reads 19 = .ok (.bipush 13, 2) := by decide +kernel
theorem dL_reads_21 : decode cL_reads 21 = .ok (.invokevirtual 13, 3) := by decide +kernel
theorem dL_reads_24 : decode cL_reads 24 = .ok (.istore 4, 2) := by decide +kernel
theorem dL_reads_26 : decode cL_reads 26 = .ok (.aload_n 0, 1) := by decide +kernel
theorem dL_reads_27 : decode cL_reads 27 = .ok (.invokevirtual 55, 3) := by decide +kernel
theorem dL_reads_30 : decode cL_reads 30 = .ok (.istore 5, 2) := by decide +kernel
theorem dL_reads_32 : decode cL_reads 32 = .ok (.iload_n 1, 1) := by decide +kernel
theorem dL_reads_33 : decode cL_reads 33 = .ok (.bipush (-4), 2) := by decide +kernel
theorem dL_reads_35 : decode cL_reads 35 = .ok (.if_icmp .ne 33, 3) := by decide +kernel
theorem dL_reads_38 : decode cL_reads 38 = .ok (.iload_n 2, 1) := by decide +kernel
theorem dL_reads_39 : decode cL_reads 39 = .ok (.bipush (-4), 2) := by decide +kernel
theorem dL_reads_41 : decode cL_reads 41 = .ok (.if_icmp .ne 27, 3) := by decide +kernel
theorem dL_reads_44 : decode cL_reads 44 = .ok (.iload_n 3, 1) := by decide +kernel
theorem dL_reads_45 : decode cL_reads 45 = .ok (.bipush (-4), 2) := by decide +kernel
theorem dL_reads_47 : decode cL_reads 47 = .ok (.if_icmp .ne 21, 3) := by decide +kernel
theorem dL_reads_50 : decode cL_reads 50 = .ok (.iload 5, 2) := by decide +kernel
theorem dL_reads_52 : decode cL_reads 52 = .ok (.ifCond .lt 16, 3) := by decide +kernel
theorem dL_reads_55 : decode cL_reads 55 = .ok (.iconst 2, 1) := by decide +kernel
theorem dL_reads_56 : decode cL_reads 56 = .ok (.iload 5, 2) := by decide +kernel
theorem dL_reads_58 : decode cL_reads 58 = .ok (.imul, 1) := by decide +kernel
theorem dL_reads_59 : decode cL_reads 59 = .ok (.iload 4, 2) := by decide +kernel
theorem dL_reads_61 : decode cL_reads 61 = .ok (.if_icmp .gt 7, 3) := by decide +kernel
theorem dL_reads_64 : decode cL_reads 64 = .ok (.iconst 1, 1) := by decide +kernel
theorem dL_reads_65 : decode cL_reads 65 = .ok (.goto 4, 3) := by decide +kernel
theorem dL_reads_68 : decode cL_reads 68 = .ok (.iconst 0, 1) := by decide +kernel
theorem dL_reads_69 : decode cL_reads 69 = .ok (.istore 6, 2) := by decide +kernel
theorem dL_reads_71 : decode cL_reads 71 = .ok (.iload_n 1, 1) := by decide +kernel
theorem dL_reads_72 : decode cL_reads 72 = .ok (.ifCond .lt 46, 3) := by decide +kernel
theorem dL_reads_75 : decode cL_reads 75 = .ok (.iload_n 1, 1) := by decide +kernel
theorem dL_reads_76 : decode cL_reads 76 = .ok (.iload 4, 2) := by decide +kernel
theorem dL_reads_78 : decode cL_reads 78 = .ok (.if_icmp .ge 40, 3) := by decide +kernel
theorem dL_reads_81 : decode cL_reads 81 = .ok (.iload 5, 2) := by decide +kernel
theorem dL_reads_83 : decode cL_reads 83 = .ok (.bipush (-2), 2) := by decide +kernel
theorem dL_reads_85 : decode cL_reads 85 = .ok (.if_icmp .ne 33, 3) := by decide +kernel
theorem dL_reads_88 : decode cL_reads 88 = .ok (.iload_n 2, 1) := by decide +kernel
theorem dL_reads_89 : decode cL_reads 89 = .ok (.iconst 1, 1) := by decide +kernel
theorem dL_reads_90 : decode cL_reads 90 = .ok (.if_icmp .ne 9, 3) := by decide +kernel
theorem dL_reads_93 : decode cL_reads 93 = .ok (.iload_n 3, 1) := by decide +kernel
theorem dL_reads_94 : decode cL_reads 94 = .ok (.bipush (-4), 2) := by decide +kernel
theorem dL_reads_96 : decode cL_reads 96 = .ok (.if_icmp .eq 18, 3) := by decide +kernel
theorem dL_reads_99 : decode cL_reads 99 = .ok (.iload_n 2, 1) := by decide +kernel
theorem dL_reads_100 : decode cL_reads 100 = .ok (.iconst 2, 1) := by decide +kernel
theorem dL_reads_101 : decode cL_reads 101 = .ok (.if_icmp .ne 17, 3) := by decide +kernel
theorem dL_reads_104 : decode cL_reads 104 = .ok (.iload_n 3, 1) := by decide +kernel
theorem dL_reads_105 : decode cL_reads 105 = .ok (.ifCond .ge 13, 3) := by decide +kernel
theorem dL_reads_108 : decode cL_reads 108 = .ok (.iload_n 3, 1) := by decide +kernel
theorem dL_reads_109 : decode cL_reads 109 = .ok (.bipush (-4), 2) := by decide +kernel
theorem dL_reads_111 : decode cL_reads 111 = .ok (.if_icmp .le 7, 3) := by decide +kernel
theorem dL_reads_114 : decode cL_reads 114 = .ok (.iconst 1, 1) := by decide +kernel
theorem dL_reads_115 : decode cL_reads 115 = .ok (.goto 4, 3) := by decide +kernel
theorem dL_reads_118 : decode cL_reads 118 = .ok (.iconst 0, 1) := by decide +kernel
theorem dL_reads_119 : decode cL_reads 119 = .ok (.istore 7, 2) := by decide +kernel
theorem dL_reads_121 : decode cL_reads 121 = .ok (.iload 6, 2) := by decide +kernel
theorem dL_reads_123 : decode cL_reads 123 = .ok (.ifCond .ne 8, 3) := by decide +kernel
theorem dL_reads_126 : decode cL_reads 126 = .ok (.iload 7, 2) := by decide +kernel
theorem dL_reads_128 : decode cL_reads 128 = .ok (.ifCond .eq 18, 3) := by decide +kernel
theorem dL_reads_131 : decode cL_reads 131 = .ok (.aload_n 0, 1) := by decide +kernel
theorem dL_reads_132 : decode cL_reads 132 = .ok (.bipush 13, 2) := by decide +kernel
theorem dL_reads_134 : decode cL_reads 134 = .ok (.invokevirtual 13, 3) := by decide +kernel
theorem dL_reads_137 : decode cL_reads 137 = .ok (.iload 4, 2) := by decide +kernel
theorem dL_reads_139 : decode cL_reads 139 = .ok (.if_icmp .ne 7, 3) := by decide +kernel
theorem dL_reads_142 : decode cL_reads 142 = .ok (.iconst 1, 1) := by decide +kernel
theorem dL_reads_143 : decode cL_reads 143 = .ok (.goto 4, 3) := by decide +kernel
theorem dL_reads_146 : decode cL_reads 146 = .ok (.iconst 0, 1) := by decide +kernel
theorem dL_reads_147 : decode cL_reads 147 = .ok (.ireturn, 1) := by decide +kernel
set_option maxRecDepth 20000 in
theorem ggL_acts_L_low : GoodIn wsL_acts wsL_low := goodIn_r _ [4, 5] (by decide +kernel) (by decide +kernel)
set_option maxRecDepth 20000 in
theorem gL_acts_L_low : GoodIn wsL_acts (va_wsS RL 41 yL_low wsL_low) := goodIn_app (goodIn_of _ (by decide +kernel)) ggL_acts_L_low
set_option maxRecDepth 20000 in
theorem ggL_acts_X6_count : GoodIn wsL_acts wsX6_count := goodIn_r _ [10, 11, 12, 13, 14, 15, 16, 17, 18, 19, 20, 21, 22, 23, 24, 25, 26, 27, 28, 29, 30, 31, 32, 33, 34, 35, 36, 37, 38, 39, 40, 41, 42, 43, 44, 45, 46, 47, 48, 49, 50, 397, 398, 399, 400, 401, 402, 403, 404, 405, 406, 407, 408, 409, 410, 411, 412, 413, 414, 415, 416, 417, 418, 419, 420, 421, 422, 423, 424, 425, 426, 427, 428, 429, 430, 431, 432, 433, 434, 435, 436, 437, 438] (by decide +kernel) (by decide +kernel)
set_option maxRecDepth 20000 in
theorem gL_acts_X6_count : GoodIn wsL_acts (wsV RL 13 RX6 yX6_count wsX6_count) := goodIn_app (goodIn_of _ (by decide +kernel)) ggL_acts_X6_count
set_option maxRecDepth 20000 in
theorem ggL_acts_X6_load : GoodIn wsL_acts wsX6_load := goodIn_r _ [54, 22, 11, 55, 56, 57, 58, 59, 60, 61, 62, 63, 64, 42, 65, 66, 67, 45, 68, 69, 70, 71, 50, 44, 72, 73, 74, 75, 76, 77, 78, 79, 80, 81, 82, 83, 84, 85, 86, 87, 88, 89, 90, 91, 92, 93, 94, 95, 96, 30, 97, 38, 98, 99, 100, 33, 101, 102, 32, 103, 104, 105, 106, 107, 108, 109, 110, 111, 112, 113, 114, 115, 116, 117, 9, 118, 119, 120, 121, 122, 397, 398, 399, 400, 401, 402, 403, 432, 433, 404, 405, 406, 407, 408, 409, 410, 411, 412, 413, 421, 422, 423, 424, 425, 426, 427, 428, 429, 430, 431, 414, 415, 416, 417, 418, 419, 420] (by decide +kernel) (by decide +kernel)
set_option maxRecDepth 20000 in
theorem gL_acts_X6_load : GoodIn wsL_acts (wsV RL 58 RX6 yX6_load wsX6_load) := goodIn_app (goodIn_of _ (by decide +kernel)) ggL_acts_X6_load
set_option maxRecDepth 20000 in
theorem ggL_acts_X6_storeOf : GoodIn wsL_acts wsX6_storeOf := goodIn_r _ [126, 11, 16, 127, 128, 129, 130, 109, 80, 110, 131, 132, 133, 134, 92, 82, 84, 135, 136, 137, 138, 139, 140, 141, 142, 93, 86, 87, 397, 398, 399, 400, 401, 402, 403, 404, 405, 406, 407, 408, 409, 410, 411, 412, 413, 421, 422, 423, 424, 425, 426, 427, 428, 429, 430, 431] (by decide +kernel) (by decide +kernel)
set_option maxRecDepth 20000 in
theorem gL_acts_X6_storeOf : GoodIn wsL_acts (wsV RL 19 RX6 yX6_storeOf wsX6_storeOf) := goodIn_app (goodIn_of _ (by decide +kernel)) ggL_acts_X6_storeOf
