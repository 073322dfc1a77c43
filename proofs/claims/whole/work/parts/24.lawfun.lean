def sL_law_rec1 (xs : Nat → Int32) (L : Nat) (rec1 : Int32 → Int32 → Int32 → (Nat → Nat) → (Nat → Int32) → Int32 → (Nat → Int32) → Int32 → Int32 → Int32 → Int32 → Int32 → Int32 → HutS → HutS → HutS → HutS → HutS → HutS → HutS → HutS → HutS → (Nat → Int32) → (Nat → Int32) → (Nat → Int32) → Int32 → (Nat → Int32) → Int32 → (Nat → Int32) → Int32 → (Nat → Int32) → Int32 → Int32 → Int32 → Int32 → (Nat → Int32) → Option (Int32)) (v2 : Int32) (ke3 : Int32) (lnn4 : Int32) (pm5 : Nat → Nat) (ch6 : Nat → Int32) (tl7 : Int32) (nu8 : Nat → Int32) (le9 : Int32) (nx10 : Int32) (cmd11 : Int32) (pos12 : Int32) (rea13 : Int32) (cau14 : Int32) (xn15 : HutS) (xt16 : HutS) (xp17 : HutS) (xr18 : HutS) (h19 : HutS) (h20 : HutS) (h21 : HutS) (h22 : HutS) (h23 : HutS) (ss24 : Nat → Int32) (bg25 : Nat → Int32) (kp26 : Nat → Int32) (ik27 : Int32) (pt28 : Nat → Int32) (st29 : Int32) (tx30 : Nat → Int32) (ln31 : Int32) (asd32 : Nat → Int32) (att33 : Int32) (dn34 : Int32) (td35 : Int32) (fo36 : Int32) (nb37 : Nat → Int32) : Option (Int32) :=
  if ((Int32.ofNat L) - (4 : Int32)) < v2 then
    some (1 : Int32)
  else
    gd (inB v2 L) <|
    if ((xs (v2).toNatClampNeg) &&& (31 : Int32)) = (0 : Int32) then
      gd (inB (v2 + (1 : Int32)) L) <|
      gd (inB (v2 + (2 : Int32)) L) <|
      gd (inB (v2 + (3 : Int32)) L) <|
      bd9 (fX6_load lnn4 pm5 xn15 h19 h20 h21 h22 h23 (xs ((v2 + (1 : Int32))).toNatClampNeg) (xs ((v2 + (2 : Int32))).toNatClampNeg) (xs ((v2 + (3 : Int32))).toNatClampNeg)) fun r65 lnn_67 pm_69 xn_71 h0_73 h1_75 h2_77 h3_79 h4_81 =>
      bd5 (fX7_load ss24 bg25 pt28 st29 (xs ((v2 + (1 : Int32))).toNatClampNeg) (xs ((v2 + (2 : Int32))).toNatClampNeg) (xs ((v2 + (3 : Int32))).toNatClampNeg)) fun r83 ss84 bg85 pt86 st87 =>
      if r65 = r83 then
        jl (v2 + (4 : Int32)) fun v90 =>
        rec1 v90 ke3 lnn_67 pm_69 ch6 tl7 nu8 le9 nx10 cmd11 pos12 rea13 cau14 xn_71 xt16 xp17 xr18 h0_73 h1_75 h2_77 h3_79 h4_81 ss84 bg85 kp26 ik27 pt86 st87 tx30 ln31 asd32 att33 dn34 td35 fo36 nb37
      else
        some (0 : Int32)
    else
    if ((xs (v2).toNatClampNeg) &&& (31 : Int32)) = (1 : Int32) then
      bd9 (fX6_fly lnn4 pm5 xn15 h19 h20 h21 h22 h23) fun r91 lnn_93 pm_95 xn_97 h0_99 h1_101 h2_103 h3_105 h4_107 =>
      bd5 (fX7_fly ss24 bg25 pt28 st29) fun r109 ss110 bg111 pt112 st113 =>
      if r91 = r109 then
        jl (v2 + (4 : Int32)) fun v116 =>
        rec1 v116 ke3 lnn_93 pm_95 ch6 tl7 nu8 le9 nx10 cmd11 pos12 rea13 cau14 xn_97 xt16 xp17 xr18 h0_99 h1_101 h2_103 h3_105 h4_107 ss110 bg111 kp26 ik27 pt112 st113 tx30 ln31 asd32 att33 dn34 td35 fo36 nb37
      else
        some (0 : Int32)
    else
    if ((xs (v2).toNatClampNeg) &&& (31 : Int32)) = (2 : Int32) then
      gd (inB (v2 + (1 : Int32)) L) <|
      gd (inB (v2 + (2 : Int32)) L) <|
      gd (inB (v2 + (3 : Int32)) L) <|
      bd10 (fX6_book lnn4 pm5 xn15 xt16 h19 h20 h21 h22 h23 (xs ((v2 + (1 : Int32))).toNatClampNeg) (xs ((v2 + (2 : Int32))).toNatClampNeg) (xs ((v2 + (3 : Int32))).toNatClampNeg)) fun r120 lnn_122 pm_124 xn_126 xt_128 h0_130 h1_132 h2_134 h3_136 h4_138 =>
      bd6 (fX7_book ss24 bg25 pt28 st29 asd32 (xs ((v2 + (1 : Int32))).toNatClampNeg) (xs ((v2 + (2 : Int32))).toNatClampNeg) (xs ((v2 + (3 : Int32))).toNatClampNeg)) fun r140 ss141 bg142 pt143 st144 asd145 =>
      if r120 = r140 then
        jl (v2 + (4 : Int32)) fun v148 =>
        rec1 v148 ke3 lnn_122 pm_124 ch6 tl7 nu8 le9 nx10 cmd11 pos12 rea13 cau14 xn_126 xt_128 xp17 xr18 h0_130 h1_132 h2_134 h3_136 h4_138 ss141 bg142 kp26 ik27 pt143 st144 tx30 ln31 asd145 att33 dn34 td35 fo36 nb37
      else
        some (0 : Int32)
    else
    if ((xs (v2).toNatClampNeg) &&& (31 : Int32)) = (3 : Int32) then
      gd (inB (v2 + (1 : Int32)) L) <|
      bd9 (fX6_cancel lnn4 pm5 xn15 h19 h20 h21 h22 h23 (xs ((v2 + (1 : Int32))).toNatClampNeg)) fun r150 lnn_152 pm_154 xn_156 h0_158 h1_160 h2_162 h3_164 h4_166 =>
      bd5 (fX7_cancel ss24 bg25 pt28 st29 (xs ((v2 + (1 : Int32))).toNatClampNeg)) fun r168 ss169 bg170 pt171 st172 =>
      if r150 = r168 then
        jl (v2 + (4 : Int32)) fun v175 =>
        rec1 v175 ke3 lnn_152 pm_154 ch6 tl7 nu8 le9 nx10 cmd11 pos12 rea13 cau14 xn_156 xt16 xp17 xr18 h0_158 h1_160 h2_162 h3_164 h4_166 ss169 bg170 kp26 ik27 pt171 st172 tx30 ln31 asd32 att33 dn34 td35 fo36 nb37
      else
        some (0 : Int32)
    else
    if ((xs (v2).toNatClampNeg) &&& (31 : Int32)) = (4 : Int32) then
      gd (inB (v2 + (1 : Int32)) L) <|
      gd (inB (v2 + (2 : Int32)) L) <|
      bd9 (fX6_storm lnn4 pm5 xn15 h19 h20 h21 h22 h23 (xs ((v2 + (1 : Int32))).toNatClampNeg) (xs ((v2 + (2 : Int32))).toNatClampNeg)) fun r178 lnn_180 pm_182 xn_184 h0_186 h1_188 h2_190 h3_192 h4_194 =>
      bd5 (fX7_storm ss24 bg25 pt28 st29 (xs ((v2 + (1 : Int32))).toNatClampNeg) (xs ((v2 + (2 : Int32))).toNatClampNeg)) fun r196 ss197 bg198 pt199 st200 =>
      if r178 = r196 then
        jl (v2 + (4 : Int32)) fun v203 =>
        rec1 v203 ke3 lnn_180 pm_182 ch6 tl7 nu8 le9 nx10 cmd11 pos12 rea13 cau14 xn_184 xt16 xp17 xr18 h0_186 h1_188 h2_190 h3_192 h4_194 ss197 bg198 kp26 ik27 pt199 st200 tx30 ln31 asd32 att33 dn34 td35 fo36 nb37
      else
        some (0 : Int32)
    else
    if ((xs (v2).toNatClampNeg) &&& (31 : Int32)) = (5 : Int32) then
      gd (inB (v2 + (1 : Int32)) L) <|
      bd9 (fX6_clear lnn4 pm5 xn15 h19 h20 h21 h22 h23 (xs ((v2 + (1 : Int32))).toNatClampNeg)) fun r205 lnn_207 pm_209 xn_211 h0_213 h1_215 h2_217 h3_219 h4_221 =>
      bd5 (fX7_clear ss24 bg25 pt28 st29 (xs ((v2 + (1 : Int32))).toNatClampNeg)) fun r223 ss224 bg225 pt226 st227 =>
      if r205 = r223 then
        jl (v2 + (4 : Int32)) fun v230 =>
        rec1 v230 ke3 lnn_207 pm_209 ch6 tl7 nu8 le9 nx10 cmd11 pos12 rea13 cau14 xn_211 xt16 xp17 xr18 h0_213 h1_215 h2_217 h3_219 h4_221 ss224 bg225 kp26 ik27 pt226 st227 tx30 ln31 asd32 att33 dn34 td35 fo36 nb37
      else
        some (0 : Int32)
    else
    if ((xs (v2).toNatClampNeg) &&& (31 : Int32)) = (6 : Int32) then
      gd (inB (v2 + (1 : Int32)) L) <|
      bd9 (fX6_sleep lnn4 pm5 xn15 h19 h20 h21 h22 h23 (xs ((v2 + (1 : Int32))).toNatClampNeg)) fun r232 lnn_234 pm_236 xn_238 h0_240 h1_242 h2_244 h3_246 h4_248 =>
      bd5 (fX7_sleep ss24 bg25 pt28 st29 (xs ((v2 + (1 : Int32))).toNatClampNeg)) fun r250 ss251 bg252 pt253 st254 =>
      if r232 = r250 then
        jl (v2 + (4 : Int32)) fun v257 =>
        rec1 v257 ke3 lnn_234 pm_236 ch6 tl7 nu8 le9 nx10 cmd11 pos12 rea13 cau14 xn_238 xt16 xp17 xr18 h0_240 h1_242 h2_244 h3_246 h4_248 ss251 bg252 kp26 ik27 pt253 st254 tx30 ln31 asd32 att33 dn34 td35 fo36 nb37
      else
        some (0 : Int32)
    else
    if ((xs (v2).toNatClampNeg) &&& (31 : Int32)) = (7 : Int32) then
      gd (inB (v2 + (1 : Int32)) L) <|
      gd (inB (v2 + (2 : Int32)) L) <|
      bd9 (fX6_set lnn4 pm5 xn15 h19 h20 h21 h22 h23 (xs ((v2 + (1 : Int32))).toNatClampNeg) (xs ((v2 + (2 : Int32))).toNatClampNeg)) fun r260 lnn_262 pm_264 xn_266 h0_268 h1_270 h2_272 h3_274 h4_276 =>
      bd5 (fX7_set ss24 bg25 pt28 st29 (xs ((v2 + (1 : Int32))).toNatClampNeg) (xs ((v2 + (2 : Int32))).toNatClampNeg)) fun r278 ss279 bg280 pt281 st282 =>
      if r260 = r278 then
        jl (v2 + (4 : Int32)) fun v285 =>
        rec1 v285 ke3 lnn_262 pm_264 ch6 tl7 nu8 le9 nx10 cmd11 pos12 rea13 cau14 xn_266 xt16 xp17 xr18 h0_268 h1_270 h2_272 h3_274 h4_276 ss279 bg280 kp26 ik27 pt281 st282 tx30 ln31 asd32 att33 dn34 td35 fo36 nb37
      else
        some (0 : Int32)
    else
    if ((xs (v2).toNatClampNeg) &&& (31 : Int32)) = (8 : Int32) then
      gd (inB (v2 + (1 : Int32)) L) <|
      gd (inB (v2 + (2 : Int32)) L) <|
      gd (inB (v2 + (3 : Int32)) L) <|
      bd1 (fX6_lotOf xn15 (xs ((v2 + (1 : Int32))).toNatClampNeg) (xs ((v2 + (2 : Int32))).toNatClampNeg) (xs ((v2 + (3 : Int32))).toNatClampNeg)) fun r289 =>
      bd1 (fX7_lotOf ss24 (xs ((v2 + (1 : Int32))).toNatClampNeg) (xs ((v2 + (2 : Int32))).toNatClampNeg) (xs ((v2 + (3 : Int32))).toNatClampNeg)) fun r291 =>
      if r289 = r291 then
        jl (v2 + (4 : Int32)) fun v294 =>
        rec1 v294 ke3 lnn4 pm5 ch6 tl7 nu8 le9 nx10 cmd11 pos12 rea13 cau14 xn15 xt16 xp17 xr18 h19 h20 h21 h22 h23 ss24 bg25 kp26 ik27 pt28 st29 tx30 ln31 asd32 att33 dn34 td35 fo36 nb37
      else
        some (0 : Int32)
    else
    if ((xs (v2).toNatClampNeg) &&& (31 : Int32)) = (9 : Int32) then
      gd (inB (v2 + (1 : Int32)) L) <|
      gd (inB (v2 + (2 : Int32)) L) <|
      bd1 (fX6_storeOf xn15 (xs ((v2 + (1 : Int32))).toNatClampNeg) (xs ((v2 + (2 : Int32))).toNatClampNeg)) fun r297 =>
      bd1 (fX7_storeOf ss24 (xs ((v2 + (1 : Int32))).toNatClampNeg) (xs ((v2 + (2 : Int32))).toNatClampNeg)) fun r299 =>
      if r297 = r299 then
        jl (v2 + (4 : Int32)) fun v302 =>
        rec1 v302 ke3 lnn4 pm5 ch6 tl7 nu8 le9 nx10 cmd11 pos12 rea13 cau14 xn15 xt16 xp17 xr18 h19 h20 h21 h22 h23 ss24 bg25 kp26 ik27 pt28 st29 tx30 ln31 asd32 att33 dn34 td35 fo36 nb37
      else
        some (0 : Int32)
    else
    if ((xs (v2).toNatClampNeg) &&& (31 : Int32)) = (10 : Int32) then
      gd (inB (v2 + (1 : Int32)) L) <|
      gd (inB (v2 + (2 : Int32)) L) <|
      bd1 (fX6_partyOf xn15 (xs ((v2 + (1 : Int32))).toNatClampNeg) (xs ((v2 + (2 : Int32))).toNatClampNeg)) fun r305 =>
      bd1 (fX7_partyOf ss24 (xs ((v2 + (1 : Int32))).toNatClampNeg) (xs ((v2 + (2 : Int32))).toNatClampNeg)) fun r307 =>
      if r305 = r307 then
        jl (v2 + (4 : Int32)) fun v310 =>
        rec1 v310 ke3 lnn4 pm5 ch6 tl7 nu8 le9 nx10 cmd11 pos12 rea13 cau14 xn15 xt16 xp17 xr18 h19 h20 h21 h22 h23 ss24 bg25 kp26 ik27 pt28 st29 tx30 ln31 asd32 att33 dn34 td35 fo36 nb37
      else
        some (0 : Int32)
    else
    if ((xs (v2).toNatClampNeg) &&& (31 : Int32)) = (11 : Int32) then
      gd (inB (v2 + (1 : Int32)) L) <|
      bd1 (fX6_count ke3 lnn4 tl7 xn15 (xs ((v2 + (1 : Int32))).toNatClampNeg)) fun r312 =>
      bd1 (fX7_count ss24 ik27 st29 ln31 (xs ((v2 + (1 : Int32))).toNatClampNeg)) fun r314 =>
      if r312 = r314 then
        jl (v2 + (4 : Int32)) fun v317 =>
        rec1 v317 ke3 lnn4 pm5 ch6 tl7 nu8 le9 nx10 cmd11 pos12 rea13 cau14 xn15 xt16 xp17 xr18 h19 h20 h21 h22 h23 ss24 bg25 kp26 ik27 pt28 st29 tx30 ln31 asd32 att33 dn34 td35 fo36 nb37
      else
        some (0 : Int32)
    else
    if ((xs (v2).toNatClampNeg) &&& (31 : Int32)) = (12 : Int32) then
      gd (inB (v2 + (1 : Int32)) L) <|
      bd2 (fX6_goneOn xn15 xt16 (xs ((v2 + (1 : Int32))).toNatClampNeg)) fun r319 xt_321 =>
      bd3 (fX7_goneOn ss24 bg25 (xs ((v2 + (1 : Int32))).toNatClampNeg)) fun r323 ss324 bg325 =>
      if r319 = r323 then
        jl (v2 + (4 : Int32)) fun v328 =>
        rec1 v328 ke3 lnn4 pm5 ch6 tl7 nu8 le9 nx10 cmd11 pos12 rea13 cau14 xn15 xt_321 xp17 xr18 h19 h20 h21 h22 h23 ss324 bg325 kp26 ik27 pt28 st29 tx30 ln31 asd32 att33 dn34 td35 fo36 nb37
      else
        some (0 : Int32)
    else
    if ((xs (v2).toNatClampNeg) &&& (31 : Int32)) = (13 : Int32) then
      gd (inB (v2 + (1 : Int32)) L) <|
      bd2 (fX6_outOn xn15 xt16 (xs ((v2 + (1 : Int32))).toNatClampNeg)) fun r330 xt_332 =>
      bd3 (fX7_outOn ss24 bg25 (xs ((v2 + (1 : Int32))).toNatClampNeg)) fun r334 ss335 bg336 =>
      if r330 = r334 then
        jl (v2 + (4 : Int32)) fun v339 =>
        rec1 v339 ke3 lnn4 pm5 ch6 tl7 nu8 le9 nx10 cmd11 pos12 rea13 cau14 xn15 xt_332 xp17 xr18 h19 h20 h21 h22 h23 ss335 bg336 kp26 ik27 pt28 st29 tx30 ln31 asd32 att33 dn34 td35 fo36 nb37
      else
        some (0 : Int32)
    else
    if ((xs (v2).toNatClampNeg) &&& (31 : Int32)) = (14 : Int32) then
      gd (inB (v2 + (1 : Int32)) L) <|
      gd (inB (v2 + (2 : Int32)) L) <|
      bd2 (fX6_most xn15 xt16 (xs ((v2 + (1 : Int32))).toNatClampNeg) (xs ((v2 + (2 : Int32))).toNatClampNeg)) fun r342 xt_344 =>
      bd3 (fX7_most ss24 asd32 (xs ((v2 + (1 : Int32))).toNatClampNeg) (xs ((v2 + (2 : Int32))).toNatClampNeg)) fun r346 ss347 asd348 =>
      if r342 = r346 then
        jl (v2 + (4 : Int32)) fun v351 =>
        rec1 v351 ke3 lnn4 pm5 ch6 tl7 nu8 le9 nx10 cmd11 pos12 rea13 cau14 xn15 xt_344 xp17 xr18 h19 h20 h21 h22 h23 ss347 bg25 kp26 ik27 pt28 st29 tx30 ln31 asd348 att33 dn34 td35 fo36 nb37
      else
        some (0 : Int32)
    else
    if ((xs (v2).toNatClampNeg) &&& (31 : Int32)) = (15 : Int32) then
      bd3 (fX6_keep xn15 xp17) fun r352 ke_354 xp_356 =>
      bd3 (fX7_keep ss24 kp26) fun r358 kp359 ik360 =>
      if r352 = r358 then
        jl (v2 + (4 : Int32)) fun v363 =>
        rec1 v363 ke_354 lnn4 pm5 ch6 tl7 nu8 le9 nx10 cmd11 pos12 rea13 cau14 xn15 xt16 xp_356 xr18 h19 h20 h21 h22 h23 ss24 bg25 kp359 ik360 pt28 st29 tx30 ln31 asd32 att33 dn34 td35 fo36 nb37
      else
        some (0 : Int32)
    else
    if ((xs (v2).toNatClampNeg) &&& (31 : Int32)) = (16 : Int32) then
      bd9 (fX6_restore ke3 lnn4 pm5 xn15 xp17 h19 h20 h21 h22 h23) fun r364 lnn_366 pm_368 xn_370 h0_372 h1_374 h2_376 h3_378 h4_380 =>
      bd5 (fX7_restore ss24 bg25 kp26 ik27 pt28 st29) fun r382 ss383 bg384 pt385 st386 =>
      if r364 = r382 then
        jl (v2 + (4 : Int32)) fun v389 =>
        rec1 v389 ke3 lnn_366 pm_368 ch6 tl7 nu8 le9 nx10 cmd11 pos12 rea13 cau14 xn_370 xt16 xp17 xr18 h0_372 h1_374 h2_376 h3_378 h4_380 ss383 bg384 kp26 ik27 pt385 st386 tx30 ln31 asd32 att33 dn34 td35 fo36 nb37
      else
        some (0 : Int32)
    else
    if ((xs (v2).toNatClampNeg) &&& (31 : Int32)) = (17 : Int32) then
      bd3 (fX6_undo lnn4 pm5 xn15 h19 h20 h21 h22 h23) fun r390 lnn_392 xn_394 =>
      bd3 (fX7_undo ss24 pt28 st29) fun r396 ss397 st398 =>
      if r390 = r396 then
        jl (v2 + (4 : Int32)) fun v401 =>
        rec1 v401 ke3 lnn_392 pm5 ch6 tl7 nu8 le9 nx10 cmd11 pos12 rea13 cau14 xn_394 xt16 xp17 xr18 h19 h20 h21 h22 h23 ss397 bg25 kp26 ik27 pt28 st398 tx30 ln31 asd32 att33 dn34 td35 fo36 nb37
      else
        some (0 : Int32)
    else
    if ((xs (v2).toNatClampNeg) &&& (31 : Int32)) = (18 : Int32) then
      gd (inB (v2 + (1 : Int32)) L) <|
      bd3 (fX6_type ch6 tl7 (xs ((v2 + (1 : Int32))).toNatClampNeg)) fun r403 ch_405 tl_407 =>
      bd3 (fX7_type tx30 ln31 (xs ((v2 + (1 : Int32))).toNatClampNeg)) fun r409 tx410 ln411 =>
      if r403 = r409 then
        jl (v2 + (4 : Int32)) fun v414 =>
        rec1 v414 ke3 lnn4 pm5 ch_405 tl_407 nu8 le9 nx10 cmd11 pos12 rea13 cau14 xn15 xt16 xp17 xr18 h19 h20 h21 h22 h23 ss24 bg25 kp26 ik27 pt28 st29 tx410 ln411 asd32 att33 dn34 td35 fo36 nb37
      else
        some (0 : Int32)
    else
    if ((xs (v2).toNatClampNeg) &&& (31 : Int32)) = (19 : Int32) then
      bd2 (fX6_clearText tl7) fun r415 tl_417 =>
      bd2 (fX7_clearText ln31) fun r419 ln420 =>
      if r415 = r419 then
        jl (v2 + (4 : Int32)) fun v423 =>
        rec1 v423 ke3 lnn4 pm5 ch6 tl_417 nu8 le9 nx10 cmd11 pos12 rea13 cau14 xn15 xt16 xp17 xr18 h19 h20 h21 h22 h23 ss24 bg25 kp26 ik27 pt28 st29 tx30 ln420 asd32 att33 dn34 td35 fo36 nb37
      else
        some (0 : Int32)
    else
    if ((xs (v2).toNatClampNeg) &&& (31 : Int32)) = (20 : Int32) then
      gd (inB (v2 + (1 : Int32)) L) <|
      bd10 (fX6_fault ch6 tl7 nu8 le9 nx10 cmd11 pos12 rea13 cau14 xn15 xt16 xr18 (xs ((v2 + (1 : Int32))).toNatClampNeg)) fun r425 nu_427 le_429 nx_431 cmd_433 pos_435 rea_437 cau_439 xt_441 xr_443 =>
      bd9 (fX7_fault ss24 bg25 tx30 ln31 asd32 att33 dn34 td35 fo36 nb37 (xs ((v2 + (1 : Int32))).toNatClampNeg)) fun r445 ss446 bg447 asd448 att449 dn450 td451 fo452 nb453 =>
      if r425 = r445 then
        jl (v2 + (4 : Int32)) fun v456 =>
        rec1 v456 ke3 lnn4 pm5 ch6 tl7 nu_427 le_429 nx_431 cmd_433 pos_435 rea_437 cau_439 xn15 xt_441 xp17 xr_443 h19 h20 h21 h22 h23 ss446 bg447 kp26 ik27 pt28 st29 tx30 ln31 asd448 att449 dn450 td451 fo452 nb453
      else
        some (0 : Int32)
    else
    if ((xs (v2).toNatClampNeg) &&& (31 : Int32)) = (21 : Int32) then
      bd18 (fX6_play lnn4 pm5 ch6 tl7 nu8 le9 nx10 xn15 xt16 xr18 h19 h20 h21 h22 h23) fun r457 lnn_459 pm_461 nu_463 le_465 nx_467 cmd_469 pos_471 rea_473 cau_475 xn_477 xt_479 xr_481 h0_483 h1_485 h2_487 h3_489 h4_491 =>
      bd11 (fX7_play ss24 bg25 pt28 st29 tx30 ln31 asd32 td35 fo36 nb37) fun r493 ss494 bg495 pt496 st497 asd498 att499 dn500 td501 fo502 nb503 =>
      if r457 = r493 then
        jl (v2 + (4 : Int32)) fun v506 =>
        rec1 v506 ke3 lnn_459 pm_461 ch6 tl7 nu_463 le_465 nx_467 cmd_469 pos_471 rea_473 cau_475 xn_477 xt_479 xp17 xr_481 h0_483 h1_485 h2_487 h3_489 h4_491 ss494 bg495 kp26 ik27 pt496 st497 tx30 ln31 asd498 att499 dn500 td501 fo502 nb503
      else
        some (0 : Int32)
    else
      jl (v2 + (4 : Int32)) fun v507 =>
      rec1 v507 ke3 lnn4 pm5 ch6 tl7 nu8 le9 nx10 cmd11 pos12 rea13 cau14 xn15 xt16 xp17 xr18 h19 h20 h21 h22 h23 ss24 bg25 kp26 ik27 pt28 st29 tx30 ln31 asd32 att33 dn34 td35 fo36 nb37
def fL_law (xs : Nat → Int32) (L : Nat) (ke : Int32) (lnn : Int32) (pm : Nat → Nat) (ch : Nat → Int32) (tl : Int32) (nu : Nat → Int32) (le : Int32) (nx : Int32) (cmd : Int32) (pos : Int32) (rea : Int32) (cau : Int32) (xn : HutS) (xt : HutS) (xp : HutS) (xr : HutS) (h0 : HutS) (h1 : HutS) (h2 : HutS) (h3 : HutS) (h4 : HutS) (ss : Nat → Int32) (bg : Nat → Int32) (kp : Nat → Int32) (ik : Int32) (pt : Nat → Int32) (st : Int32) (tx : Nat → Int32) (ln : Int32) (asd : Nat → Int32) (att : Int32) (dn : Int32) (td : Int32) (fo : Int32) (nb : Nat → Int32) : Option Int32 :=
  gl36 (sL_law_rec1 xs L) gFU (0 : Int32) ke lnn pm ch tl nu le nx cmd pos rea cau xn xt xp xr h0 h1 h2 h3 h4 ss bg kp ik pt st tx ln asd att dn td fo nb
