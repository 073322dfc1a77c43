def sL_law_rec1 (xs : Nat → Int32) (L : Nat) (rec1 : Int32 → Int32 → Int32 → (Nat → Nat) → (Nat → Int32) → Int32 → (Nat → Int32) → Int32 → Int32 → Int32 → Int32 → Int32 → Int32 → HutS → HutS → HutS → HutS → HutS → HutS → HutS → HutS → HutS → HutS → (Nat → Int32) → (Nat → Int32) → (Nat → Int32) → Int32 → (Nat → Int32) → Int32 → (Nat → Int32) → Int32 → (Nat → Int32) → Int32 → Int32 → Int32 → Int32 → (Nat → Int32) → Option (Int32)) (v2 : Int32) (ke3 : Int32) (lnn4 : Int32) (pm5 : Nat → Nat) (ch6 : Nat → Int32) (tl7 : Int32) (nu8 : Nat → Int32) (le9 : Int32) (nx10 : Int32) (cmd11 : Int32) (pos12 : Int32) (rea13 : Int32) (cau14 : Int32) (xn15 : HutS) (xt16 : HutS) (xp17 : HutS) (xr18 : HutS) (xw19 : HutS) (h20 : HutS) (h21 : HutS) (h22 : HutS) (h23 : HutS) (h24 : HutS) (ss25 : Nat → Int32) (bg26 : Nat → Int32) (kp27 : Nat → Int32) (ik28 : Int32) (pt29 : Nat → Int32) (st30 : Int32) (tx31 : Nat → Int32) (ln32 : Int32) (asd33 : Nat → Int32) (att34 : Int32) (dn35 : Int32) (td36 : Int32) (fo37 : Int32) (nb38 : Nat → Int32) : Option (Int32) :=
  if ((Int32.ofNat L) - (4 : Int32)) < v2 then
    some (1 : Int32)
  else
    gd (inB v2 L) <|
    if ((xs (v2).toNatClampNeg) &&& (31 : Int32)) = (0 : Int32) then
      gd (inB (v2 + (1 : Int32)) L) <|
      gd (inB (v2 + (2 : Int32)) L) <|
      gd (inB (v2 + (3 : Int32)) L) <|
      bd9 (fX6_load lnn4 pm5 xn15 h20 h21 h22 h23 h24 (xs ((v2 + (1 : Int32))).toNatClampNeg) (xs ((v2 + (2 : Int32))).toNatClampNeg) (xs ((v2 + (3 : Int32))).toNatClampNeg)) fun r66 lnn_68 pm_70 xn_72 h0_74 h1_76 h2_78 h3_80 h4_82 =>
      bd5 (fX7_load ss25 bg26 pt29 st30 (xs ((v2 + (1 : Int32))).toNatClampNeg) (xs ((v2 + (2 : Int32))).toNatClampNeg) (xs ((v2 + (3 : Int32))).toNatClampNeg)) fun r84 ss85 bg86 pt87 st88 =>
      if r66 = r84 then
        jl (v2 + (4 : Int32)) fun v91 =>
        rec1 v91 ke3 lnn_68 pm_70 ch6 tl7 nu8 le9 nx10 cmd11 pos12 rea13 cau14 xn_72 xt16 xp17 xr18 xw19 h0_74 h1_76 h2_78 h3_80 h4_82 ss85 bg86 kp27 ik28 pt87 st88 tx31 ln32 asd33 att34 dn35 td36 fo37 nb38
      else
        some (0 : Int32)
    else
    if ((xs (v2).toNatClampNeg) &&& (31 : Int32)) = (1 : Int32) then
      bd9 (fX6_fly lnn4 pm5 xn15 h20 h21 h22 h23 h24) fun r92 lnn_94 pm_96 xn_98 h0_100 h1_102 h2_104 h3_106 h4_108 =>
      bd5 (fX7_fly ss25 bg26 pt29 st30) fun r110 ss111 bg112 pt113 st114 =>
      if r92 = r110 then
        jl (v2 + (4 : Int32)) fun v117 =>
        rec1 v117 ke3 lnn_94 pm_96 ch6 tl7 nu8 le9 nx10 cmd11 pos12 rea13 cau14 xn_98 xt16 xp17 xr18 xw19 h0_100 h1_102 h2_104 h3_106 h4_108 ss111 bg112 kp27 ik28 pt113 st114 tx31 ln32 asd33 att34 dn35 td36 fo37 nb38
      else
        some (0 : Int32)
    else
    if ((xs (v2).toNatClampNeg) &&& (31 : Int32)) = (2 : Int32) then
      gd (inB (v2 + (1 : Int32)) L) <|
      gd (inB (v2 + (2 : Int32)) L) <|
      gd (inB (v2 + (3 : Int32)) L) <|
      bd10 (fX6_book lnn4 pm5 xn15 xt16 h20 h21 h22 h23 h24 (xs ((v2 + (1 : Int32))).toNatClampNeg) (xs ((v2 + (2 : Int32))).toNatClampNeg) (xs ((v2 + (3 : Int32))).toNatClampNeg)) fun r121 lnn_123 pm_125 xn_127 xt_129 h0_131 h1_133 h2_135 h3_137 h4_139 =>
      bd6 (fX7_book ss25 bg26 pt29 st30 asd33 (xs ((v2 + (1 : Int32))).toNatClampNeg) (xs ((v2 + (2 : Int32))).toNatClampNeg) (xs ((v2 + (3 : Int32))).toNatClampNeg)) fun r141 ss142 bg143 pt144 st145 asd146 =>
      if r121 = r141 then
        jl (v2 + (4 : Int32)) fun v149 =>
        rec1 v149 ke3 lnn_123 pm_125 ch6 tl7 nu8 le9 nx10 cmd11 pos12 rea13 cau14 xn_127 xt_129 xp17 xr18 xw19 h0_131 h1_133 h2_135 h3_137 h4_139 ss142 bg143 kp27 ik28 pt144 st145 tx31 ln32 asd146 att34 dn35 td36 fo37 nb38
      else
        some (0 : Int32)
    else
    if ((xs (v2).toNatClampNeg) &&& (31 : Int32)) = (3 : Int32) then
      gd (inB (v2 + (1 : Int32)) L) <|
      bd9 (fX6_cancel lnn4 pm5 xn15 h20 h21 h22 h23 h24 (xs ((v2 + (1 : Int32))).toNatClampNeg)) fun r151 lnn_153 pm_155 xn_157 h0_159 h1_161 h2_163 h3_165 h4_167 =>
      bd5 (fX7_cancel ss25 bg26 pt29 st30 (xs ((v2 + (1 : Int32))).toNatClampNeg)) fun r169 ss170 bg171 pt172 st173 =>
      if r151 = r169 then
        jl (v2 + (4 : Int32)) fun v176 =>
        rec1 v176 ke3 lnn_153 pm_155 ch6 tl7 nu8 le9 nx10 cmd11 pos12 rea13 cau14 xn_157 xt16 xp17 xr18 xw19 h0_159 h1_161 h2_163 h3_165 h4_167 ss170 bg171 kp27 ik28 pt172 st173 tx31 ln32 asd33 att34 dn35 td36 fo37 nb38
      else
        some (0 : Int32)
    else
    if ((xs (v2).toNatClampNeg) &&& (31 : Int32)) = (4 : Int32) then
      gd (inB (v2 + (1 : Int32)) L) <|
      gd (inB (v2 + (2 : Int32)) L) <|
      bd9 (fX6_storm lnn4 pm5 xn15 h20 h21 h22 h23 h24 (xs ((v2 + (1 : Int32))).toNatClampNeg) (xs ((v2 + (2 : Int32))).toNatClampNeg)) fun r179 lnn_181 pm_183 xn_185 h0_187 h1_189 h2_191 h3_193 h4_195 =>
      bd5 (fX7_storm ss25 bg26 pt29 st30 (xs ((v2 + (1 : Int32))).toNatClampNeg) (xs ((v2 + (2 : Int32))).toNatClampNeg)) fun r197 ss198 bg199 pt200 st201 =>
      if r179 = r197 then
        jl (v2 + (4 : Int32)) fun v204 =>
        rec1 v204 ke3 lnn_181 pm_183 ch6 tl7 nu8 le9 nx10 cmd11 pos12 rea13 cau14 xn_185 xt16 xp17 xr18 xw19 h0_187 h1_189 h2_191 h3_193 h4_195 ss198 bg199 kp27 ik28 pt200 st201 tx31 ln32 asd33 att34 dn35 td36 fo37 nb38
      else
        some (0 : Int32)
    else
    if ((xs (v2).toNatClampNeg) &&& (31 : Int32)) = (5 : Int32) then
      gd (inB (v2 + (1 : Int32)) L) <|
      bd9 (fX6_clear lnn4 pm5 xn15 h20 h21 h22 h23 h24 (xs ((v2 + (1 : Int32))).toNatClampNeg)) fun r206 lnn_208 pm_210 xn_212 h0_214 h1_216 h2_218 h3_220 h4_222 =>
      bd5 (fX7_clear ss25 bg26 pt29 st30 (xs ((v2 + (1 : Int32))).toNatClampNeg)) fun r224 ss225 bg226 pt227 st228 =>
      if r206 = r224 then
        jl (v2 + (4 : Int32)) fun v231 =>
        rec1 v231 ke3 lnn_208 pm_210 ch6 tl7 nu8 le9 nx10 cmd11 pos12 rea13 cau14 xn_212 xt16 xp17 xr18 xw19 h0_214 h1_216 h2_218 h3_220 h4_222 ss225 bg226 kp27 ik28 pt227 st228 tx31 ln32 asd33 att34 dn35 td36 fo37 nb38
      else
        some (0 : Int32)
    else
    if ((xs (v2).toNatClampNeg) &&& (31 : Int32)) = (6 : Int32) then
      gd (inB (v2 + (1 : Int32)) L) <|
      bd9 (fX6_sleep lnn4 pm5 xn15 h20 h21 h22 h23 h24 (xs ((v2 + (1 : Int32))).toNatClampNeg)) fun r233 lnn_235 pm_237 xn_239 h0_241 h1_243 h2_245 h3_247 h4_249 =>
      bd5 (fX7_sleep ss25 bg26 pt29 st30 (xs ((v2 + (1 : Int32))).toNatClampNeg)) fun r251 ss252 bg253 pt254 st255 =>
      if r233 = r251 then
        jl (v2 + (4 : Int32)) fun v258 =>
        rec1 v258 ke3 lnn_235 pm_237 ch6 tl7 nu8 le9 nx10 cmd11 pos12 rea13 cau14 xn_239 xt16 xp17 xr18 xw19 h0_241 h1_243 h2_245 h3_247 h4_249 ss252 bg253 kp27 ik28 pt254 st255 tx31 ln32 asd33 att34 dn35 td36 fo37 nb38
      else
        some (0 : Int32)
    else
    if ((xs (v2).toNatClampNeg) &&& (31 : Int32)) = (7 : Int32) then
      gd (inB (v2 + (1 : Int32)) L) <|
      gd (inB (v2 + (2 : Int32)) L) <|
      bd9 (fX6_set lnn4 pm5 xn15 h20 h21 h22 h23 h24 (xs ((v2 + (1 : Int32))).toNatClampNeg) (xs ((v2 + (2 : Int32))).toNatClampNeg)) fun r261 lnn_263 pm_265 xn_267 h0_269 h1_271 h2_273 h3_275 h4_277 =>
      bd5 (fX7_set ss25 bg26 pt29 st30 (xs ((v2 + (1 : Int32))).toNatClampNeg) (xs ((v2 + (2 : Int32))).toNatClampNeg)) fun r279 ss280 bg281 pt282 st283 =>
      if r261 = r279 then
        jl (v2 + (4 : Int32)) fun v286 =>
        rec1 v286 ke3 lnn_263 pm_265 ch6 tl7 nu8 le9 nx10 cmd11 pos12 rea13 cau14 xn_267 xt16 xp17 xr18 xw19 h0_269 h1_271 h2_273 h3_275 h4_277 ss280 bg281 kp27 ik28 pt282 st283 tx31 ln32 asd33 att34 dn35 td36 fo37 nb38
      else
        some (0 : Int32)
    else
    if ((xs (v2).toNatClampNeg) &&& (31 : Int32)) = (8 : Int32) then
      gd (inB (v2 + (1 : Int32)) L) <|
      gd (inB (v2 + (2 : Int32)) L) <|
      gd (inB (v2 + (3 : Int32)) L) <|
      bd1 (fX6_lotOf xn15 (xs ((v2 + (1 : Int32))).toNatClampNeg) (xs ((v2 + (2 : Int32))).toNatClampNeg) (xs ((v2 + (3 : Int32))).toNatClampNeg)) fun r290 =>
      bd1 (fX7_lotOf ss25 (xs ((v2 + (1 : Int32))).toNatClampNeg) (xs ((v2 + (2 : Int32))).toNatClampNeg) (xs ((v2 + (3 : Int32))).toNatClampNeg)) fun r292 =>
      if r290 = r292 then
        jl (v2 + (4 : Int32)) fun v295 =>
        rec1 v295 ke3 lnn4 pm5 ch6 tl7 nu8 le9 nx10 cmd11 pos12 rea13 cau14 xn15 xt16 xp17 xr18 xw19 h20 h21 h22 h23 h24 ss25 bg26 kp27 ik28 pt29 st30 tx31 ln32 asd33 att34 dn35 td36 fo37 nb38
      else
        some (0 : Int32)
    else
    if ((xs (v2).toNatClampNeg) &&& (31 : Int32)) = (9 : Int32) then
      gd (inB (v2 + (1 : Int32)) L) <|
      gd (inB (v2 + (2 : Int32)) L) <|
      bd1 (fX6_storeOf xn15 (xs ((v2 + (1 : Int32))).toNatClampNeg) (xs ((v2 + (2 : Int32))).toNatClampNeg)) fun r298 =>
      bd1 (fX7_storeOf ss25 (xs ((v2 + (1 : Int32))).toNatClampNeg) (xs ((v2 + (2 : Int32))).toNatClampNeg)) fun r300 =>
      if r298 = r300 then
        jl (v2 + (4 : Int32)) fun v303 =>
        rec1 v303 ke3 lnn4 pm5 ch6 tl7 nu8 le9 nx10 cmd11 pos12 rea13 cau14 xn15 xt16 xp17 xr18 xw19 h20 h21 h22 h23 h24 ss25 bg26 kp27 ik28 pt29 st30 tx31 ln32 asd33 att34 dn35 td36 fo37 nb38
      else
        some (0 : Int32)
    else
    if ((xs (v2).toNatClampNeg) &&& (31 : Int32)) = (10 : Int32) then
      gd (inB (v2 + (1 : Int32)) L) <|
      gd (inB (v2 + (2 : Int32)) L) <|
      bd1 (fX6_partyOf xn15 (xs ((v2 + (1 : Int32))).toNatClampNeg) (xs ((v2 + (2 : Int32))).toNatClampNeg)) fun r306 =>
      bd1 (fX7_partyOf ss25 (xs ((v2 + (1 : Int32))).toNatClampNeg) (xs ((v2 + (2 : Int32))).toNatClampNeg)) fun r308 =>
      if r306 = r308 then
        jl (v2 + (4 : Int32)) fun v311 =>
        rec1 v311 ke3 lnn4 pm5 ch6 tl7 nu8 le9 nx10 cmd11 pos12 rea13 cau14 xn15 xt16 xp17 xr18 xw19 h20 h21 h22 h23 h24 ss25 bg26 kp27 ik28 pt29 st30 tx31 ln32 asd33 att34 dn35 td36 fo37 nb38
      else
        some (0 : Int32)
    else
    if ((xs (v2).toNatClampNeg) &&& (31 : Int32)) = (11 : Int32) then
      gd (inB (v2 + (1 : Int32)) L) <|
      bd1 (fX6_count ke3 lnn4 tl7 xn15 (xs ((v2 + (1 : Int32))).toNatClampNeg)) fun r313 =>
      bd1 (fX7_count ss25 ik28 st30 ln32 (xs ((v2 + (1 : Int32))).toNatClampNeg)) fun r315 =>
      if r313 = r315 then
        jl (v2 + (4 : Int32)) fun v318 =>
        rec1 v318 ke3 lnn4 pm5 ch6 tl7 nu8 le9 nx10 cmd11 pos12 rea13 cau14 xn15 xt16 xp17 xr18 xw19 h20 h21 h22 h23 h24 ss25 bg26 kp27 ik28 pt29 st30 tx31 ln32 asd33 att34 dn35 td36 fo37 nb38
      else
        some (0 : Int32)
    else
    if ((xs (v2).toNatClampNeg) &&& (31 : Int32)) = (12 : Int32) then
      gd (inB (v2 + (1 : Int32)) L) <|
      bd2 (fX6_goneOn xn15 xt16 (xs ((v2 + (1 : Int32))).toNatClampNeg)) fun r320 xt_322 =>
      bd3 (fX7_goneOn ss25 bg26 (xs ((v2 + (1 : Int32))).toNatClampNeg)) fun r324 ss325 bg326 =>
      if r320 = r324 then
        jl (v2 + (4 : Int32)) fun v329 =>
        rec1 v329 ke3 lnn4 pm5 ch6 tl7 nu8 le9 nx10 cmd11 pos12 rea13 cau14 xn15 xt_322 xp17 xr18 xw19 h20 h21 h22 h23 h24 ss325 bg326 kp27 ik28 pt29 st30 tx31 ln32 asd33 att34 dn35 td36 fo37 nb38
      else
        some (0 : Int32)
    else
    if ((xs (v2).toNatClampNeg) &&& (31 : Int32)) = (13 : Int32) then
      gd (inB (v2 + (1 : Int32)) L) <|
      bd2 (fX6_outOn xn15 xt16 (xs ((v2 + (1 : Int32))).toNatClampNeg)) fun r331 xt_333 =>
      bd3 (fX7_outOn ss25 bg26 (xs ((v2 + (1 : Int32))).toNatClampNeg)) fun r335 ss336 bg337 =>
      if r331 = r335 then
        jl (v2 + (4 : Int32)) fun v340 =>
        rec1 v340 ke3 lnn4 pm5 ch6 tl7 nu8 le9 nx10 cmd11 pos12 rea13 cau14 xn15 xt_333 xp17 xr18 xw19 h20 h21 h22 h23 h24 ss336 bg337 kp27 ik28 pt29 st30 tx31 ln32 asd33 att34 dn35 td36 fo37 nb38
      else
        some (0 : Int32)
    else
    if ((xs (v2).toNatClampNeg) &&& (31 : Int32)) = (14 : Int32) then
      gd (inB (v2 + (1 : Int32)) L) <|
      gd (inB (v2 + (2 : Int32)) L) <|
      bd2 (fX6_most xn15 xt16 (xs ((v2 + (1 : Int32))).toNatClampNeg) (xs ((v2 + (2 : Int32))).toNatClampNeg)) fun r343 xt_345 =>
      bd3 (fX7_most ss25 asd33 (xs ((v2 + (1 : Int32))).toNatClampNeg) (xs ((v2 + (2 : Int32))).toNatClampNeg)) fun r347 ss348 asd349 =>
      if r343 = r347 then
        jl (v2 + (4 : Int32)) fun v352 =>
        rec1 v352 ke3 lnn4 pm5 ch6 tl7 nu8 le9 nx10 cmd11 pos12 rea13 cau14 xn15 xt_345 xp17 xr18 xw19 h20 h21 h22 h23 h24 ss348 bg26 kp27 ik28 pt29 st30 tx31 ln32 asd349 att34 dn35 td36 fo37 nb38
      else
        some (0 : Int32)
    else
    if ((xs (v2).toNatClampNeg) &&& (31 : Int32)) = (15 : Int32) then
      bd3 (fX6_keep xn15 xp17) fun r353 ke_355 xp_357 =>
      bd3 (fX7_keep ss25 kp27) fun r359 kp360 ik361 =>
      if r353 = r359 then
        jl (v2 + (4 : Int32)) fun v364 =>
        rec1 v364 ke_355 lnn4 pm5 ch6 tl7 nu8 le9 nx10 cmd11 pos12 rea13 cau14 xn15 xt16 xp_357 xr18 xw19 h20 h21 h22 h23 h24 ss25 bg26 kp360 ik361 pt29 st30 tx31 ln32 asd33 att34 dn35 td36 fo37 nb38
      else
        some (0 : Int32)
    else
    if ((xs (v2).toNatClampNeg) &&& (31 : Int32)) = (16 : Int32) then
      bd9 (fX6_restore ke3 lnn4 pm5 xn15 xp17 h20 h21 h22 h23 h24) fun r365 lnn_367 pm_369 xn_371 h0_373 h1_375 h2_377 h3_379 h4_381 =>
      bd5 (fX7_restore ss25 bg26 kp27 ik28 pt29 st30) fun r383 ss384 bg385 pt386 st387 =>
      if r365 = r383 then
        jl (v2 + (4 : Int32)) fun v390 =>
        rec1 v390 ke3 lnn_367 pm_369 ch6 tl7 nu8 le9 nx10 cmd11 pos12 rea13 cau14 xn_371 xt16 xp17 xr18 xw19 h0_373 h1_375 h2_377 h3_379 h4_381 ss384 bg385 kp27 ik28 pt386 st387 tx31 ln32 asd33 att34 dn35 td36 fo37 nb38
      else
        some (0 : Int32)
    else
    if ((xs (v2).toNatClampNeg) &&& (31 : Int32)) = (17 : Int32) then
      bd3 (fX6_undo lnn4 pm5 xn15 h20 h21 h22 h23 h24) fun r391 lnn_393 xn_395 =>
      bd3 (fX7_undo ss25 pt29 st30) fun r397 ss398 st399 =>
      if r391 = r397 then
        jl (v2 + (4 : Int32)) fun v402 =>
        rec1 v402 ke3 lnn_393 pm5 ch6 tl7 nu8 le9 nx10 cmd11 pos12 rea13 cau14 xn_395 xt16 xp17 xr18 xw19 h20 h21 h22 h23 h24 ss398 bg26 kp27 ik28 pt29 st399 tx31 ln32 asd33 att34 dn35 td36 fo37 nb38
      else
        some (0 : Int32)
    else
    if ((xs (v2).toNatClampNeg) &&& (31 : Int32)) = (18 : Int32) then
      gd (inB (v2 + (1 : Int32)) L) <|
      bd3 (fX6_type ch6 tl7 (xs ((v2 + (1 : Int32))).toNatClampNeg)) fun r404 ch_406 tl_408 =>
      bd3 (fX7_type tx31 ln32 (xs ((v2 + (1 : Int32))).toNatClampNeg)) fun r410 tx411 ln412 =>
      if r404 = r410 then
        jl (v2 + (4 : Int32)) fun v415 =>
        rec1 v415 ke3 lnn4 pm5 ch_406 tl_408 nu8 le9 nx10 cmd11 pos12 rea13 cau14 xn15 xt16 xp17 xr18 xw19 h20 h21 h22 h23 h24 ss25 bg26 kp27 ik28 pt29 st30 tx411 ln412 asd33 att34 dn35 td36 fo37 nb38
      else
        some (0 : Int32)
    else
    if ((xs (v2).toNatClampNeg) &&& (31 : Int32)) = (19 : Int32) then
      bd2 (fX6_clearText tl7) fun r416 tl_418 =>
      bd2 (fX7_clearText ln32) fun r420 ln421 =>
      if r416 = r420 then
        jl (v2 + (4 : Int32)) fun v424 =>
        rec1 v424 ke3 lnn4 pm5 ch6 tl_418 nu8 le9 nx10 cmd11 pos12 rea13 cau14 xn15 xt16 xp17 xr18 xw19 h20 h21 h22 h23 h24 ss25 bg26 kp27 ik28 pt29 st30 tx31 ln421 asd33 att34 dn35 td36 fo37 nb38
      else
        some (0 : Int32)
    else
    if ((xs (v2).toNatClampNeg) &&& (31 : Int32)) = (20 : Int32) then
      gd (inB (v2 + (1 : Int32)) L) <|
      bd10 (fX6_fault ch6 tl7 nu8 le9 nx10 cmd11 pos12 rea13 cau14 xn15 xr18 xw19 (xs ((v2 + (1 : Int32))).toNatClampNeg)) fun r426 nu_428 le_430 nx_432 cmd_434 pos_436 rea_438 cau_440 xr_442 xw_444 =>
      bd9 (fX7_fault ss25 bg26 tx31 ln32 asd33 att34 dn35 td36 fo37 nb38 (xs ((v2 + (1 : Int32))).toNatClampNeg)) fun r446 ss447 bg448 asd449 att450 dn451 td452 fo453 nb454 =>
      if r426 = r446 then
        jl (v2 + (4 : Int32)) fun v457 =>
        rec1 v457 ke3 lnn4 pm5 ch6 tl7 nu_428 le_430 nx_432 cmd_434 pos_436 rea_438 cau_440 xn15 xt16 xp17 xr_442 xw_444 h20 h21 h22 h23 h24 ss447 bg448 kp27 ik28 pt29 st30 tx31 ln32 asd449 att450 dn451 td452 fo453 nb454
      else
        some (0 : Int32)
    else
    if ((xs (v2).toNatClampNeg) &&& (31 : Int32)) = (21 : Int32) then
      bd18 (fX6_play lnn4 pm5 ch6 tl7 nu8 le9 nx10 xn15 xr18 xw19 h20 h21 h22 h23 h24) fun r458 lnn_460 pm_462 nu_464 le_466 nx_468 cmd_470 pos_472 rea_474 cau_476 xn_478 xr_480 xw_482 h0_484 h1_486 h2_488 h3_490 h4_492 =>
      bd11 (fX7_play ss25 bg26 pt29 st30 tx31 ln32 asd33 td36 fo37 nb38) fun r494 ss495 bg496 pt497 st498 asd499 att500 dn501 td502 fo503 nb504 =>
      if r458 = r494 then
        jl (v2 + (4 : Int32)) fun v507 =>
        rec1 v507 ke3 lnn_460 pm_462 ch6 tl7 nu_464 le_466 nx_468 cmd_470 pos_472 rea_474 cau_476 xn_478 xt16 xp17 xr_480 xw_482 h0_484 h1_486 h2_488 h3_490 h4_492 ss495 bg496 kp27 ik28 pt497 st498 tx31 ln32 asd499 att500 dn501 td502 fo503 nb504
      else
        some (0 : Int32)
    else
      jl (v2 + (4 : Int32)) fun v508 =>
      rec1 v508 ke3 lnn4 pm5 ch6 tl7 nu8 le9 nx10 cmd11 pos12 rea13 cau14 xn15 xt16 xp17 xr18 xw19 h20 h21 h22 h23 h24 ss25 bg26 kp27 ik28 pt29 st30 tx31 ln32 asd33 att34 dn35 td36 fo37 nb38
def fL_law (xs : Nat → Int32) (L : Nat) (ke : Int32) (lnn : Int32) (pm : Nat → Nat) (ch : Nat → Int32) (tl : Int32) (nu : Nat → Int32) (le : Int32) (nx : Int32) (cmd : Int32) (pos : Int32) (rea : Int32) (cau : Int32) (xn : HutS) (xt : HutS) (xp : HutS) (xr : HutS) (xw : HutS) (h0 : HutS) (h1 : HutS) (h2 : HutS) (h3 : HutS) (h4 : HutS) (ss : Nat → Int32) (bg : Nat → Int32) (kp : Nat → Int32) (ik : Int32) (pt : Nat → Int32) (st : Int32) (tx : Nat → Int32) (ln : Int32) (asd : Nat → Int32) (att : Int32) (dn : Int32) (td : Int32) (fo : Int32) (nb : Nat → Int32) : Option Int32 :=
  gl37 (sL_law_rec1 xs L) gFU (0 : Int32) ke lnn pm ch tl nu le nx cmd pos rea cau xn xt xp xr xw h0 h1 h2 h3 h4 ss bg kp ik pt st tx ln asd att dn td fo nb
