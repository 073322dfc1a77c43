def fL_lot (xs : Nat → Int32) (L : Nat) (p2 : Int32) : Option Int32 :=
  if (Int32.ofNat L) ≤ p2 then
    some ((((-472914581 : Int32) * (p2 + (3041 : Int32)))) + (2801 : Int32))
  else
    gd (inB p2 L) <|
    some (xs (p2).toNatClampNeg)
def fL_low  (p1 : Int32) (p2 : Int32) : Option (Int32) :=
  gd (dzB p2) <|
  some ((p1 &&& (2147483647 : Int32)) - (p1 &&& (2147483647 : Int32)) / p2 * p2)
def sL_digest_rec13 (ke : Int32) (lnn : Int32) (tl : Int32) (xn : HutS) (rec13 : Int32 → Int64 → Option (Int64)) (v14 : Int32) (v15 : Int64) : Option (Int64) :=
  bd1 (fX6_count ke lnn tl xn (0 : Int32)) fun r16 =>
  if (r16 * (7 : Int32)) ≤ v14 then
    some v15
  else
    bd1 (fX6_partyOf xn (v14 / (7 : Int32)) (v14 - v14 / (7 : Int32) * (7 : Int32))) fun r19 =>
    jl (((31 : Int64) * v15) + (r19).toInt64) fun v21 =>
    jl (v14 + (1 : Int32)) fun v22 =>
    rec13 v22 v21
def sL_digest_rec9 (ke : Int32) (lnn : Int32) (tl : Int32) (xn : HutS) (rec9 : Int32 → Int64 → Option (Int64)) (v10 : Int32) (v11 : Int64) : Option (Int64) :=
  if (120 : Int32) ≤ v10 then
    gl2 (sL_digest_rec13 ke lnn tl xn) gFU (0 : Int32) v11
  else
    bd1 (fX6_lotOf xn (v10 / (40 : Int32)) ((v10 / (2 : Int32)) - (v10 / (2 : Int32)) / (20 : Int32) * (20 : Int32)) (v10 - v10 / (2 : Int32) * (2 : Int32))) fun r23 =>
    jl (((31 : Int64) * v11) + (r23).toInt64) fun v25 =>
    jl (v10 + (1 : Int32)) fun v26 =>
    rec9 v26 v25
def sL_digest_rec5 (ke : Int32) (lnn : Int32) (tl : Int32) (xn : HutS) (rec5 : Int32 → Int64 → Option (Int64)) (v6 : Int32) (v7 : Int64) : Option (Int64) :=
  if (18 : Int32) ≤ v6 then
    gl2 (sL_digest_rec9 ke lnn tl xn) gFU (0 : Int32) v7
  else
    bd1 (fX6_storeOf xn (v6 / (6 : Int32)) (v6 - v6 / (6 : Int32) * (6 : Int32))) fun r27 =>
    jl (((31 : Int64) * v7) + (r27).toInt64) fun v29 =>
    jl (v6 + (1 : Int32)) fun v30 =>
    rec5 v30 v29
def sL_digest_rec1 (ke : Int32) (lnn : Int32) (tl : Int32) (xn : HutS) (rec1 : Int32 → Int64 → Option (Int64)) (v2 : Int32) (v3 : Int64) : Option (Int64) :=
  if (24 : Int32) ≤ v2 then
    gl2 (sL_digest_rec5 ke lnn tl xn) gFU (0 : Int32) v3
  else
    mrg (fun (_ : Unit) =>
      bd1 (fX6_count ke lnn tl xn v2) fun r36 =>
      jl (((31 : Int64) * v3) + (r36).toInt64) fun v38 =>
      jl (v2 + (1 : Int32)) fun v39 =>
      rec1 v39 v38
    ) fun J32 =>
      if v2 ≤ (11 : Int32) then
        J32 ()
      else
        if (15 : Int32) ≤ v2 then
          J32 ()
        else
          jl (((31 : Int64) * v3) + ((0 : Int32)).toInt64) fun v34 =>
          jl (v2 + (1 : Int32)) fun v35 =>
          rec1 v35 v34
def fL_digest (ke : Int32) (lnn : Int32) (tl : Int32) (xn : HutS)  : Option (Int64) :=
  gl2 (sL_digest_rec1 ke lnn tl xn) gFU (0 : Int32) (73 : Int64)
def sL_holds_rec11 (ke : Int32) (lnn : Int32) (tl : Int32) (xn : HutS) (v3 : Int32) (v4 : Int32) (v5 : Int32) (v6 : Int32) (rec11 : Int32 → Int32 → HutS → Option (Int32 × HutS)) (v12 : Int32) (v13 : Int32) (xt14 : HutS) : Option (Int32 × HutS) :=
  if (3 : Int32) ≤ v12 then
    bd1 (fX6_count ke lnn tl xn (1 : Int32)) fun r16 =>
    if v6 = r16 then
      bd1 (fX6_count ke lnn tl xn (2 : Int32)) fun r19 =>
      if v5 = r19 then
        bd1 (fX6_count ke lnn tl xn (3 : Int32)) fun r22 =>
        if v4 = r22 then
          bd1 (fX6_count ke lnn tl xn (10 : Int32)) fun r25 =>
          if v3 = r25 then
            if (20 : Int32) < v13 then
              none
            else
              bd1 (fX6_count ke lnn tl xn (7 : Int32)) fun r29 =>
              if (6 : Int32) < r29 then
                none
              else
                some ((1 : Int32), xt14)
          else
            none
        else
          none
      else
        none
    else
      none
  else
    bd1 (fX6_storeOf xn v12 (4 : Int32)) fun r32 =>
    jl (v13 + r32) fun v34 =>
    bd2 (fX6_outOn xn xt14 v12) fun r35 xt_37 =>
    bd1 (fX6_storeOf xn v12 (1 : Int32)) fun r39 =>
    bd1 (fX6_storeOf xn v12 (0 : Int32)) fun r41 =>
    bd1 (fX6_storeOf xn v12 (2 : Int32)) fun r43 =>
    bd1 (fX6_storeOf xn v12 (3 : Int32)) fun r45 =>
    if r39 = ((r41 + r43) + r45) then
      if r35 = (-4 : Int32) then
        jl (v12 + (1 : Int32)) fun v49 =>
        rec11 v49 v34 xt_37
      else
        bd1 (fX6_count ke lnn tl xn (4 : Int32)) fun r50 =>
        if r35 < r50 then
          none
        else
          if (v6 + v5) = 0 then
            none
          else
            jl (v12 + (1 : Int32)) fun v54 =>
            rec11 v54 v34 xt_37
    else
      none
def sL_holds_rec1 (ke : Int32) (lnn : Int32) (tl : Int32) (xn : HutS) (rec1 : Int32 → Int32 → Int32 → Int32 → Int32 → HutS → Option (Int32 × HutS)) (v2 : Int32) (v3 : Int32) (v4 : Int32) (v5 : Int32) (v6 : Int32) (xt7 : HutS) : Option (Int32 × HutS) :=
  bd1 (fX6_count ke lnn tl xn (0 : Int32)) fun r8 =>
  if r8 ≤ v2 then
    gl3 (sL_holds_rec11 ke lnn tl xn v3 v4 v5 v6) gFU (0 : Int32) (0 : Int32) xt7
  else
    bd1 (fX6_partyOf xn v2 (3 : Int32)) fun r55 =>
    bd1 (fX6_partyOf xn v2 (4 : Int32)) fun r57 =>
    mrg (fun (v61 : Int32) =>
      jl (v6 + v61) fun v62 =>
      mrg (fun (v65 : Int32) =>
        jl (v5 + v65) fun v66 =>
        mrg (fun (v71 : Int32) =>
          jl (v4 + v71) fun v72 =>
          bd1 (fX6_partyOf xn v2 (0 : Int32)) fun r73 =>
          jl (v3 + (r57 * r73)) fun v75 =>
          mrg (fun (_ : Unit) =>
            mrg (fun (_ : Unit) =>
              bd1 (fX6_partyOf xn v2 (6 : Int32)) fun r86 =>
              bd1 (fX6_partyOf xn v2 (2 : Int32)) fun r88 =>
              mrg (fun (v94 : Int32) =>
                if r86 = v94 then
                  bd1 (fX6_partyOf xn v2 (5 : Int32)) fun r96 =>
                  mrg (fun (v100 : Int32) =>
                    mrg (fun (v103 : Int32) =>
                      if v100 = v103 then
                        bd2 (fX6_goneOn xn xt7 v2) fun r105 xt_107 =>
                        mrg (fun (v111 : Int32) =>
                          mrg (fun (v114 : Int32) =>
                            if v111 = v114 then
                              if r55 = (1 : Int32) then
                                bd2 (fX6_goneOn xn xt_107 v2) fun r118 xt_120 =>
                                bd1 (fX6_count ke lnn tl xn (4 : Int32)) fun r122 =>
                                if r122 ≤ r118 then
                                  jl (v2 + (1 : Int32)) fun v125 =>
                                  rec1 v125 v75 v72 v66 v62 xt_120
                                else
                                  none
                              else
                                jl (v2 + (1 : Int32)) fun v117 =>
                                rec1 v117 v75 v72 v66 v62 xt_107
                            else
                              none
                          ) fun J113 =>
                            if r55 ≤ (1 : Int32) then
                              J113 (0 : Int32)
                            else
                              J113 (1 : Int32)
                        ) fun J110 =>
                          if r105 = (-2 : Int32) then
                            J110 (1 : Int32)
                          else
                            J110 (0 : Int32)
                      else
                        none
                    ) fun J102 =>
                      if r57 = 0 then
                        J102 (1 : Int32)
                      else
                        J102 (0 : Int32)
                  ) fun J99 =>
                    if r96 = (-4 : Int32) then
                      J99 (1 : Int32)
                    else
                      J99 (0 : Int32)
                else
                  none
              ) fun J91 =>
                if r57 ≤ r88 then
                  J91 (0 : Int32)
                else
                  bd1 (fX6_partyOf xn v2 (2 : Int32)) fun r92 =>
                  J91 (r57 - r92)
            ) fun J82 =>
              if r55 = (2 : Int32) then
                bd1 (fX6_partyOf xn v2 (2 : Int32)) fun r83 =>
                if r57 < r83 then
                  none
                else
                  J82 ()
              else
                J82 ()
          ) fun J78 =>
            mrg (fun (_ : Unit) =>
              if r57 = 0 then
                J78 ()
              else
                none
            ) fun J77 =>
              if r55 ≤ 0 then
                J77 ()
              else
                if r55 < (3 : Int32) then
                  J78 ()
                else
                  J77 ()
        ) fun J68 =>
          if r55 = (1 : Int32) then
            bd1 (fX6_partyOf xn v2 (0 : Int32)) fun r69 =>
            J68 r69
          else
            J68 (0 : Int32)
      ) fun J64 =>
        if r55 = (1 : Int32) then
          J64 (1 : Int32)
        else
          J64 (0 : Int32)
    ) fun J60 =>
      if r55 = 0 then
        J60 (1 : Int32)
      else
        J60 (0 : Int32)
def fL_holds (ke : Int32) (lnn : Int32) (tl : Int32) (xn : HutS) (xt : HutS) (p2 : Int32) : Option (Int32 × HutS) :=
  gl6 (sL_holds_rec1 ke lnn tl xn) gFU (0 : Int32) (0 : Int32) (0 : Int32) (0 : Int32) (0 : Int32) xt
def fL_digits (ch : Nat → Int32) (tl : Int32) (p2 : Int32) : Option (Int32 × (Nat → Int32) × Int32) :=
  mrg (fun (ch10 : Nat → Int32) (tl11 : Int32) =>
    mrg (fun (ch21 : Nat → Int32) (tl22 : Int32) =>
      bd3 (fX6_type ch21 tl22 ((48 : Int32) + (p2 - p2 / (10 : Int32) * (10 : Int32)))) fun r23 ch_25 tl_27 =>
      if r23 ≤ 0 then
        none
      else
        some ((1 : Int32), ch_25, tl_27)
    ) fun J13 =>
      if p2 < (10 : Int32) then
        J13 ch10 tl11
      else
        bd3 (fX6_type ch10 tl11 ((48 : Int32) + ((p2 / (10 : Int32)) - (p2 / (10 : Int32)) / (10 : Int32) * (10 : Int32)))) fun r14 ch_16 tl_18 =>
        if r14 ≤ 0 then
          none
        else
          J13 ch_16 tl_18
  ) fun J2 =>
    if p2 < (100 : Int32) then
      J2 ch tl
    else
      bd3 (fX6_type ch tl ((48 : Int32) + (p2 / (100 : Int32)))) fun r3 ch_5 tl_7 =>
      if r3 ≤ 0 then
        none
      else
        J2 ch_5 tl_7
def sL_types_rec37 (ke : Int32) (lnn : Int32) (xn : HutS) (p2 : Int32) (r1 : Int32) (rec8 : Int32 → (Nat → Int32) → Int32 → Option (Int32 × (Nat → Int32) × Int32)) (v9 : Int32) (v13 : Int32) (r14 : Int32) (v22 : Int32) (rec37 : Int32 → (Nat → Int32) → Int32 → Option (Int32 × (Nat → Int32) × Int32)) (v38 : Int32) (ch39 : Nat → Int32) (tl40 : Int32) : Option (Int32 × (Nat → Int32) × Int32) :=
  if v22 ≤ v38 then
    bd1 (fL_low (p2 >>> ((24 : Int32) &&& 31)) (6 : Int32)) fun r42 =>
    mrg (fun (_ : Unit) =>
      bd1 (fL_low (p2 >>> ((20 : Int32) &&& 31)) (11 : Int32)) fun r48 =>
      mrg (fun (v52 : Int32) =>
        bd3 (fX6_type ch39 tl40 v52) fun r53 ch_55 tl_57 =>
        if r53 ≤ 0 then
          none
        else
          jl (v9 + (1 : Int32)) fun v60 =>
          rec8 v60 ch_55 tl_57
      ) fun J51 =>
        if r48 = 0 then
          J51 (46 : Int32)
        else
          J51 (59 : Int32)
    ) fun J45 =>
      if r42 = 0 then
        if v9 = (r1 - (1 : Int32)) then
          jl (v9 + (1 : Int32)) fun v47 =>
          rec8 v47 ch39 tl40
        else
          J45 ()
      else
        J45 ()
  else
    mrg (fun (v68 : Int32) =>
      mrg (fun (v81 : Int32) =>
        mrg (fun (ch91 : Nat → Int32) (tl92 : Int32) =>
          bd1 (fL_low (v13 >>> (((2 : Int32) + v38) &&& 31)) v68) fun r93 =>
          bd3 (fL_digits ch91 tl92 (v81 + r93)) fun r95 ch_96 tl_97 =>
          if r95 = 0 then
            none
          else
            jl (v38 + (1 : Int32)) fun v100 =>
            rec37 v100 ch_96 tl_97
        ) fun J83 =>
          if v38 = 0 then
            J83 ch39 tl40
          else
            bd3 (fX6_type ch39 tl40 (44 : Int32)) fun r84 ch_86 tl_88 =>
            if r84 ≤ 0 then
              none
            else
              J83 ch_86 tl_88
      ) fun J70 =>
        if r14 ≤ (4 : Int32) then
          J70 (0 : Int32)
        else
          if (8 : Int32) ≤ r14 then
            J70 (0 : Int32)
          else
            mrg (fun (v74 : Int32) =>
              if v38 = v74 then
                bd1 (fX6_count ke lnn tl40 xn (4 : Int32)) fun r76 =>
                if (350 : Int32) ≤ r76 then
                  J70 (0 : Int32)
                else
                  bd1 (fX6_count ke lnn tl40 xn (4 : Int32)) fun r79 =>
                  J70 r79
              else
                J70 (0 : Int32)
            ) fun J73 =>
              if r14 = (7 : Int32) then
                J73 (0 : Int32)
              else
                J73 (1 : Int32)
    ) fun J62 =>
      if (3 : Int32) ≤ r14 then
        if r14 = (4 : Int32) then
          J62 (7 : Int32)
        else
          if r14 = (8 : Int32) then
            J62 (7 : Int32)
          else
            if v38 = (1 : Int32) then
              J62 (12 : Int32)
            else
              J62 (7 : Int32)
      else
        if v38 = 0 then
          J62 (4 : Int32)
        else
          if v38 = (1 : Int32) then
            J62 (60 : Int32)
          else
            J62 (20 : Int32)
def sL_types_rec8 (ke : Int32) (lnn : Int32) (xn : HutS) (p2 : Int32) (r1 : Int32) (rec8 : Int32 → (Nat → Int32) → Int32 → Option (Int32 × (Nat → Int32) × Int32)) (v9 : Int32) (ch10 : Nat → Int32) (tl11 : Int32) : Option (Int32 × (Nat → Int32) × Int32) :=
  if r1 ≤ v9 then
    some ((1 : Int32), ch10, tl11)
  else
    jl (p2 >>> (((3 : Int32) + ((5 : Int32) * v9)) &&& 31)) fun v13 =>
    bd1 (fL_low v13 (9 : Int32)) fun r14 =>
    mrg (fun (v22 : Int32) =>
      mrg (fun (v29 : Int32) =>
        bd3 (fX6_type ch10 tl11 v29) fun r30 ch_32 tl_34 =>
        if r30 ≤ 0 then
          none
        else
          gl3 (sL_types_rec37 ke lnn xn p2 r1 rec8 v9 v13 r14 v22) gFU (0 : Int32) ch_32 tl_34
      ) fun J24 =>
        if (3 : Int32) ≤ r14 then
          if r14 = (3 : Int32) then
            J24 (102 : Int32)
          else
            if (5 : Int32) ≤ r14 then
              if (7 : Int32) ≤ r14 then
                if r14 = (7 : Int32) then
                  J24 (115 : Int32)
                else
                  J24 (120 : Int32)
              else
                J24 (98 : Int32)
            else
              J24 (110 : Int32)
        else
          J24 (108 : Int32)
    ) fun J17 =>
      if r14 < (3 : Int32) then
        J17 (3 : Int32)
      else
        if r14 = (5 : Int32) then
          J17 (3 : Int32)
        else
          if r14 = (6 : Int32) then
            J17 (3 : Int32)
          else
            if r14 = (3 : Int32) then
              J17 (0 : Int32)
            else
              if r14 = (7 : Int32) then
                J17 (2 : Int32)
              else
                J17 (1 : Int32)
def fL_types (ke : Int32) (lnn : Int32) (ch : Nat → Int32) (tl : Int32) (xn : HutS) (p2 : Int32) : Option (Int32 × (Nat → Int32) × Int32) :=
  bd1 (fL_low p2 (5 : Int32)) fun r1 =>
  bd2 (fX6_clearText tl) fun r3 tl_5 =>
  if r3 < 0 then
    none
  else
    gl3 (sL_types_rec8 ke lnn xn p2 r1) gFU (0 : Int32) ch tl_5
def fL_reads (ke : Int32) (lnn : Int32) (pm : Nat → Nat) (ch : Nat → Int32) (tl : Int32) (nu : Nat → Int32) (le : Int32) (nx : Int32) (cmd : Int32) (pos : Int32) (rea : Int32) (cau : Int32) (xn : HutS) (xr : HutS) (xw : HutS) (h0 : HutS) (h1 : HutS) (h2 : HutS) (h3 : HutS) (h4 : HutS)  : Option (Int32 × Int32 × (Nat → Nat) × (Nat → Int32) × Int32 × Int32 × Int32 × Int32 × Int32 × Int32 × HutS × HutS × HutS × HutS × HutS × HutS × HutS × HutS) :=
  bd10 (fX6_fault ch tl nu le nx cmd pos rea cau xn xr xw (0 : Int32)) fun r1 nu_3 le_5 nx_7 cmd_9 pos_11 rea_13 cau_15 xr_17 xw_19 =>
  bd10 (fX6_fault ch tl nu_3 le_5 nx_7 cmd_9 pos_11 rea_13 cau_15 xn xr_17 xw_19 (1 : Int32)) fun r21 nu_23 le_25 nx_27 cmd_29 pos_31 rea_33 cau_35 xr_37 xw_39 =>
  bd10 (fX6_fault ch tl nu_23 le_25 nx_27 cmd_29 pos_31 rea_33 cau_35 xn xr_37 xw_39 (2 : Int32)) fun r41 nu_43 le_45 nx_47 cmd_49 pos_51 rea_53 cau_55 xr_57 xw_59 =>
  bd1 (fX6_count ke lnn tl xn (13 : Int32)) fun r61 =>
  bd18 (fX6_play lnn pm ch tl nu_43 le_45 nx_47 xn xr_57 xw_59 h0 h1 h2 h3 h4) fun r63 lnn_65 pm_67 nu_69 le_71 nx_73 cmd_75 pos_77 rea_79 cau_81 xn_83 xr_85 xw_87 h0_89 h1_91 h2_93 h3_95 h4_97 =>
  mrg (fun (v105 : Int32) =>
    mrg (fun (v116 : Int32) =>
      mrg (fun (_ : Unit) =>
        bd1 (fX6_count ke lnn_65 tl xn_83 (13 : Int32)) fun r120 =>
        if r120 = r61 then
          some ((1 : Int32), lnn_65, pm_67, nu_69, le_71, nx_73, cmd_75, pos_77, rea_79, cau_81, xn_83, xr_85, xw_87, h0_89, h1_91, h2_93, h3_95, h4_97)
        else
          none
      ) fun J118 =>
        if v105 = 0 then
          if v116 = 0 then
            none
          else
            J118 ()
        else
          J118 ()
    ) fun J107 =>
      if r1 < 0 then
        J107 (0 : Int32)
      else
        if r61 ≤ r1 then
          J107 (0 : Int32)
        else
          if r63 = (-2 : Int32) then
            mrg (fun (_ : Unit) =>
              if r21 = (2 : Int32) then
                if 0 ≤ r41 then
                  J107 (0 : Int32)
                else
                  if r41 ≤ (-4 : Int32) then
                    J107 (0 : Int32)
                  else
                    J107 (1 : Int32)
              else
                J107 (0 : Int32)
            ) fun J111 =>
              if r21 = (1 : Int32) then
                if r41 = (-4 : Int32) then
                  J107 (1 : Int32)
                else
                  J111 ()
              else
                J111 ()
          else
            J107 (0 : Int32)
  ) fun J100 =>
    if r1 = (-4 : Int32) then
      if r21 = (-4 : Int32) then
        if r41 = (-4 : Int32) then
          if r63 < 0 then
            J100 (0 : Int32)
          else
            if r61 < ((2 : Int32) * r63) then
              J100 (0 : Int32)
            else
              J100 (1 : Int32)
        else
          J100 (0 : Int32)
      else
        J100 (0 : Int32)
    else
      J100 (0 : Int32)
def fL_acts (ke : Int32) (lnn : Int32) (pm : Nat → Nat) (ch : Nat → Int32) (tl : Int32) (nu : Nat → Int32) (le : Int32) (nx : Int32) (cmd : Int32) (pos : Int32) (rea : Int32) (cau : Int32) (xn : HutS) (xt : HutS) (xp : HutS) (xr : HutS) (xw : HutS) (h0 : HutS) (h1 : HutS) (h2 : HutS) (h3 : HutS) (h4 : HutS) (p2 : Int32) (p3 : Int32) : Option (Int32 × Int32 × Int32 × (Nat → Nat) × (Nat → Int32) × Int32 × (Nat → Int32) × Int32 × Int32 × Int32 × Int32 × Int32 × Int32 × HutS × HutS × HutS × HutS × HutS × HutS × HutS × HutS × HutS × HutS) :=
  bd1 (fL_low p2 (20 : Int32)) fun r1 =>
  bd1 (fX6_count ke lnn tl xn (4 : Int32)) fun r3 =>
  bd1 (fX6_count ke lnn tl xn (0 : Int32)) fun r5 =>
  bd1 (fL_low (p2 >>> ((5 : Int32) &&& 31)) (r5 + (1 : Int32))) fun r7 =>
  if (4 : Int32) ≤ r1 then
    if (7 : Int32) ≤ r1 then
      if (11 : Int32) ≤ r1 then
        if r1 = (11 : Int32) then
          bd1 (fX6_count ke lnn tl xn (1 : Int32)) fun r239 =>
          mrg (fun (v245 : Int32) =>
            bd9 (fX6_cancel lnn pm xn h0 h1 h2 h3 h4 r7) fun r246 lnn_248 pm_250 xn_252 h0_254 h1_256 h2_258 h3_260 h4_262 =>
            mrg (fun (v267 : Int32) =>
              if r246 = v267 then
                some ((1 : Int32), ke, lnn_248, pm_250, ch, tl, nu, le, nx, cmd, pos, rea, cau, xn_252, xt, xp, xr, xw, h0_254, h1_256, h2_258, h3_260, h4_262)
              else
                none
            ) fun J265 =>
              if r7 = r5 then
                J265 (-1 : Int32)
              else
                if v245 ≤ 0 then
                  J265 (r239 - (1 : Int32))
                else
                  J265 (-2 : Int32)
          ) fun J242 =>
            if r5 ≤ r7 then
              J242 (0 : Int32)
            else
              bd1 (fX6_partyOf xn r7 (3 : Int32)) fun r243 =>
              J242 r243
        else
          if r1 = (12 : Int32) then
            bd1 (fL_low p3 (12 : Int32)) fun r207 =>
            jl ((r3 + r207) - (1 : Int32)) fun v209 =>
            bd1 (fL_low (p3 >>> ((4 : Int32) &&& 31)) (5 : Int32)) fun r210 =>
            bd9 (fX6_storm lnn pm xn h0 h1 h2 h3 h4 v209 r210) fun r212 lnn_214 pm_216 xn_218 h0_220 h1_222 h2_224 h3_226 h4_228 =>
            mrg (fun (_ : Unit) =>
              if r212 = (-1 : Int32) then
                some ((1 : Int32), ke, lnn_214, pm_216, ch, tl, nu, le, nx, cmd, pos, rea, cau, xn_218, xt, xp, xr, xw, h0_220, h1_222, h2_224, h3_226, h4_228)
              else
                none
            ) fun J231 =>
              if v209 < r3 then
                J231 ()
              else
                if (365 : Int32) < v209 then
                  J231 ()
                else
                  if r210 = 0 then
                    J231 ()
                  else
                    mrg (fun (_ : Unit) =>
                      if r212 = (-3 : Int32) then
                        some ((1 : Int32), ke, lnn_214, pm_216, ch, tl, nu, le, nx, cmd, pos, rea, cau, xn_218, xt, xp, xr, xw, h0_220, h1_222, h2_224, h3_226, h4_228)
                      else
                        none
                    ) fun J235 =>
                      if r212 < r210 then
                        J235 ()
                      else
                        if r212 ≤ (40 : Int32) then
                          some ((1 : Int32), ke, lnn_214, pm_216, ch, tl, nu, le, nx, cmd, pos, rea, cau, xn_218, xt, xp, xr, xw, h0_220, h1_222, h2_224, h3_226, h4_228)
                        else
                          J235 ()
          else
            if r1 = (13 : Int32) then
              bd1 (fL_low p3 (9 : Int32)) fun r175 =>
              jl ((r3 + r175) - (1 : Int32)) fun v177 =>
              bd1 (fX6_count ke lnn tl xn (5 : Int32)) fun r178 =>
              bd9 (fX6_clear lnn pm xn h0 h1 h2 h3 h4 v177) fun r180 lnn_182 pm_184 xn_186 h0_188 h1_190 h2_192 h3_194 h4_196 =>
              if r3 ≤ v177 then
                if r180 < 0 then
                  none
                else
                  if (1 : Int32) < r180 then
                    none
                  else
                    if v177 = r3 then
                      if r180 = r178 then
                        bd1 (fX6_count ke lnn_182 tl xn_186 (5 : Int32)) fun r203 =>
                        if r203 = 0 then
                          some ((1 : Int32), ke, lnn_182, pm_184, ch, tl, nu, le, nx, cmd, pos, rea, cau, xn_186, xt, xp, xr, xw, h0_188, h1_190, h2_192, h3_194, h4_196)
                        else
                          none
                      else
                        none
                    else
                      some ((1 : Int32), ke, lnn_182, pm_184, ch, tl, nu, le, nx, cmd, pos, rea, cau, xn_186, xt, xp, xr, xw, h0_188, h1_190, h2_192, h3_194, h4_196)
              else
                if r180 = (-1 : Int32) then
                  some ((1 : Int32), ke, lnn_182, pm_184, ch, tl, nu, le, nx, cmd, pos, rea, cau, xn_186, xt, xp, xr, xw, h0_188, h1_190, h2_192, h3_194, h4_196)
                else
                  none
            else
              if (17 : Int32) ≤ r1 then
                if r1 = (17 : Int32) then
                  bd1 (fL_low p3 (5 : Int32)) fun r92 =>
                  bd1 (fL_low (p3 >>> ((3 : Int32) &&& 31)) (13 : Int32)) fun r94 =>
                  mrg (fun (v100 : Int32) =>
                    mrg (fun (v111 : Int32) =>
                      bd9 (fX6_set lnn pm xn h0 h1 h2 h3 h4 r92 r94) fun r112 lnn_114 pm_116 xn_118 h0_120 h1_122 h2_124 h3_126 h4_128 =>
                      mrg (fun (v132 : Int32) =>
                        if r112 = v132 then
                          some ((1 : Int32), ke, lnn_114, pm_116, ch, tl, nu, le, nx, cmd, pos, rea, cau, xn_118, xt, xp, xr, xw, h0_120, h1_122, h2_124, h3_126, h4_128)
                        else
                          none
                      ) fun J131 =>
                        if v111 = 0 then
                          J131 v100
                        else
                          J131 (-1 : Int32)
                    ) fun J102 =>
                      if r92 = (4 : Int32) then
                        J102 (1 : Int32)
                      else
                        mrg (fun (_ : Unit) =>
                          mrg (fun (_ : Unit) =>
                            if r92 ≤ (1 : Int32) then
                              J102 (0 : Int32)
                            else
                              if r94 ≤ (9 : Int32) then
                                J102 (0 : Int32)
                              else
                                J102 (1 : Int32)
                          ) fun J107 =>
                            if r92 = (1 : Int32) then
                              if (3 : Int32) < r94 then
                                J102 (1 : Int32)
                              else
                                J107 ()
                            else
                              J107 ()
                        ) fun J104 =>
                          if r94 = 0 then
                            if r92 < (2 : Int32) then
                              J102 (1 : Int32)
                            else
                              J104 ()
                          else
                            J104 ()
                  ) fun J97 =>
                    if r92 = (4 : Int32) then
                      J97 (0 : Int32)
                    else
                      bd1 (fX6_count ke lnn tl xn ((20 : Int32) + r92)) fun r98 =>
                      J97 r98
                else
                  if r1 = (18 : Int32) then
                    bd1 (fX6_count ke lnn tl xn (14 : Int32)) fun r43 =>
                    mrg (fun (v47 : Int32) =>
                      bd1 (fL_low p3 (2 : Int32)) fun r48 =>
                      mrg (fun (ke76 : Int32) (lnn77 : Int32) (pm78 : Nat → Nat) (xn79 : HutS) (xp80 : HutS) (h81 : HutS) (h82 : HutS) (h83 : HutS) (h84 : HutS) (h85 : HutS) (v86 : Int32) =>
                        bd1 (fX6_count ke76 lnn77 tl xn79 (4 : Int32)) fun r87 =>
                        if v86 = r87 then
                          some ((1 : Int32), ke76, lnn77, pm78, ch, tl, nu, le, nx, cmd, pos, rea, cau, xn79, xt, xp80, xr, xw, h81, h82, h83, h84, h85)
                        else
                          if v47 = 0 then
                            if v86 = (-2 : Int32) then
                              some ((1 : Int32), ke76, lnn77, pm78, ch, tl, nu, le, nx, cmd, pos, rea, cau, xn79, xt, xp80, xr, xw, h81, h82, h83, h84, h85)
                            else
                              none
                          else
                            none
                      ) fun J51 =>
                        if r48 = 0 then
                          bd3 (fX6_keep xn xp) fun r70 ke_72 xp_74 =>
                          J51 ke_72 lnn pm xn xp_74 h0 h1 h2 h3 h4 r70
                        else
                          bd9 (fX6_restore ke lnn pm xn xp h0 h1 h2 h3 h4) fun r52 lnn_54 pm_56 xn_58 h0_60 h1_62 h2_64 h3_66 h4_68 =>
                          J51 ke lnn_54 pm_56 xn_58 xp h0_60 h1_62 h2_64 h3_66 h4_68 r52
                    ) fun J46 =>
                      if r43 = (1 : Int32) then
                        J46 (1 : Int32)
                      else
                        J46 (0 : Int32)
                  else
                    bd3 (fL_types ke lnn ch tl xn p3) fun r18 ch_19 tl_20 =>
                    if r18 = 0 then
                      none
                    else
                      bd18 (fL_reads ke lnn pm ch_19 tl_20 nu le nx cmd pos rea cau xn xr xw h0 h1 h2 h3 h4) fun r23 lnn_24 pm_25 nu_26 le_27 nx_28 cmd_29 pos_30 rea_31 cau_32 xn_33 xr_34 xw_35 h0_36 h1_37 h2_38 h3_39 h4_40 =>
                      if r23 = 0 then
                        none
                      else
                        some ((1 : Int32), ke, lnn_24, pm_25, ch_19, tl_20, nu_26, le_27, nx_28, cmd_29, pos_30, rea_31, cau_32, xn_33, xt, xp, xr_34, xw_35, h0_36, h1_37, h2_38, h3_39, h4_40)
              else
                bd1 (fL_low p3 (7 : Int32)) fun r134 =>
                mrg (fun (v142 : Int32) =>
                  bd1 (fX6_count ke lnn tl xn (8 : Int32)) fun r143 =>
                  bd9 (fX6_sleep lnn pm xn h0 h1 h2 h3 h4 v142) fun r145 lnn_147 pm_149 xn_151 h0_153 h1_155 h2_157 h3_159 h4_161 =>
                  mrg (fun (_ : Unit) =>
                    if r145 = (-1 : Int32) then
                      some ((1 : Int32), ke, lnn_147, pm_149, ch, tl, nu, le, nx, cmd, pos, rea, cau, xn_151, xt, xp, xr, xw, h0_153, h1_155, h2_157, h3_159, h4_161)
                    else
                      none
                  ) fun J164 =>
                    if v142 = 0 then
                      J164 ()
                    else
                      if v142 = (61 : Int32) then
                        J164 ()
                      else
                        if (r3 + v142) ≤ (365 : Int32) then
                          bd1 (fX6_count ke lnn_147 tl xn_151 (8 : Int32)) fun r167 =>
                          if r145 = (r167 - r143) then
                            bd1 (fX6_count ke lnn_147 tl xn_151 (4 : Int32)) fun r170 =>
                            if r170 = (r3 + v142) then
                              some ((1 : Int32), ke, lnn_147, pm_149, ch, tl, nu, le, nx, cmd, pos, rea, cau, xn_151, xt, xp, xr, xw, h0_153, h1_155, h2_157, h3_159, h4_161)
                            else
                              none
                          else
                            none
                        else
                          if r145 = (-3 : Int32) then
                            some ((1 : Int32), ke, lnn_147, pm_149, ch, tl, nu, le, nx, cmd, pos, rea, cau, xn_151, xt, xp, xr, xw, h0_153, h1_155, h2_157, h3_159, h4_161)
                          else
                            none
                ) fun J137 =>
                  if r134 = 0 then
                    bd1 (fL_low (p3 >>> ((3 : Int32) &&& 31)) (62 : Int32)) fun r140 =>
                    J137 r140
                  else
                    bd1 (fL_low (p3 >>> ((3 : Int32) &&& 31)) (3 : Int32)) fun r138 =>
                    J137 ((1 : Int32) + r138)
      else
        bd1 (fL_low p3 (8 : Int32)) fun r269 =>
        bd1 (fL_low (p3 >>> ((3 : Int32) &&& 31)) (9 : Int32)) fun r271 =>
        jl (r3 + r271) fun v273 =>
        bd1 (fL_low (p3 >>> ((7 : Int32) &&& 31)) (7 : Int32)) fun r274 =>
        mrg (fun (v281 : Int32) =>
          bd2 (fX6_most xn xt v273 r274) fun r282 xt_284 =>
          bd10 (fX6_book lnn pm xn xt_284 h0 h1 h2 h3 h4 r269 v273 r274) fun r286 lnn_288 pm_290 xn_292 xt_294 h0_296 h1_298 h2_300 h3_302 h4_304 =>
          mrg (fun (v315 : Int32) =>
            if v315 = 0 then
              none
            else
              if v281 = 0 then
                if r5 = (16 : Int32) then
                  if r286 = (-2 : Int32) then
                    some ((1 : Int32), ke, lnn_288, pm_290, ch, tl, nu, le, nx, cmd, pos, rea, cau, xn_292, xt_294, xp, xr, xw, h0_296, h1_298, h2_300, h3_302, h4_304)
                  else
                    if r286 = (-3 : Int32) then
                      some ((1 : Int32), ke, lnn_288, pm_290, ch, tl, nu, le, nx, cmd, pos, rea, cau, xn_292, xt_294, xp, xr, xw, h0_296, h1_298, h2_300, h3_302, h4_304)
                    else
                      none
                else
                  if r286 = (-2 : Int32) then
                    if r282 = r269 then
                      none
                    else
                      some ((1 : Int32), ke, lnn_288, pm_290, ch, tl, nu, le, nx, cmd, pos, rea, cau, xn_292, xt_294, xp, xr, xw, h0_296, h1_298, h2_300, h3_302, h4_304)
                  else
                    if r286 = r5 then
                      if r282 < r269 then
                        none
                      else
                        some ((1 : Int32), ke, lnn_288, pm_290, ch, tl, nu, le, nx, cmd, pos, rea, cau, xn_292, xt_294, xp, xr, xw, h0_296, h1_298, h2_300, h3_302, h4_304)
                    else
                      none
              else
                if r286 = (-1 : Int32) then
                  some ((1 : Int32), ke, lnn_288, pm_290, ch, tl, nu, le, nx, cmd, pos, rea, cau, xn_292, xt_294, xp, xr, xw, h0_296, h1_298, h2_300, h3_302, h4_304)
                else
                  none
          ) fun J308 =>
            mrg (fun (_ : Unit) =>
              if r282 = (-1 : Int32) then
                J308 (1 : Int32)
              else
                none
            ) fun J307 =>
              if (365 : Int32) < v273 then
                J307 ()
              else
                if r274 = 0 then
                  J307 ()
                else
                  if r5 = (16 : Int32) then
                    if r282 = (-3 : Int32) then
                      J308 (1 : Int32)
                    else
                      none
                  else
                    if r282 < 0 then
                      none
                    else
                      if (6 : Int32) < r282 then
                        none
                      else
                        J308 (1 : Int32)
        ) fun J277 =>
          if r269 = 0 then
            J277 (1 : Int32)
          else
            if r269 = (7 : Int32) then
              J277 (1 : Int32)
            else
              if r274 = 0 then
                J277 (1 : Int32)
              else
                if v273 ≤ (365 : Int32) then
                  J277 (0 : Int32)
                else
                  J277 (1 : Int32)
    else
      bd1 (fX6_count ke lnn tl xn (7 : Int32)) fun r326 =>
      bd1 (fX6_storeOf xn (0 : Int32) (4 : Int32)) fun r328 =>
      bd1 (fX6_storeOf xn (1 : Int32) (4 : Int32)) fun r330 =>
      bd1 (fX6_storeOf xn (2 : Int32) (4 : Int32)) fun r332 =>
      jl ((r328 + r330) + r332) fun v334 =>
      mrg (fun (v346 : Int32) =>
        bd9 (fX6_fly lnn pm xn h0 h1 h2 h3 h4) fun r347 lnn_349 pm_351 xn_353 h0_355 h1_357 h2_359 h3_361 h4_363 =>
        if r347 = v346 then
          some ((1 : Int32), ke, lnn_349, pm_351, ch, tl, nu, le, nx, cmd, pos, rea, cau, xn_353, xt, xp, xr, xw, h0_355, h1_357, h2_359, h3_361, h4_363)
        else
          none
      ) fun J336 =>
        if r326 = 0 then
          J336 (-2 : Int32)
        else
          bd1 (fX6_count ke lnn tl xn (5 : Int32)) fun r337 =>
          if r337 = (1 : Int32) then
            J336 (-2 : Int32)
          else
            bd1 (fX6_count ke lnn tl xn (6 : Int32)) fun r340 =>
            bd1 (fX6_count ke lnn tl xn (23 : Int32)) fun r342 =>
            if r340 < r342 then
              if (v334 + r326) ≤ (20 : Int32) then
                J336 r326
              else
                J336 (-3 : Int32)
            else
              J336 (-2 : Int32)
  else
    bd1 (fL_low p3 (4 : Int32)) fun r366 =>
    bd1 (fL_low (p3 >>> ((2 : Int32) &&& 31)) (80 : Int32)) fun r368 =>
    bd1 (fL_low (p3 >>> ((9 : Int32) &&& 31)) (30 : Int32)) fun r370 =>
    bd1 (fX6_count ke lnn tl xn (7 : Int32)) fun r372 =>
    bd9 (fX6_load lnn pm xn h0 h1 h2 h3 h4 r366 r368 r370) fun r374 lnn_376 pm_378 xn_380 h0_382 h1_384 h2_386 h3_388 h4_390 =>
    mrg (fun (v396 : Int32) =>
      if r374 = v396 then
        some ((1 : Int32), ke, lnn_376, pm_378, ch, tl, nu, le, nx, cmd, pos, rea, cau, xn_380, xt, xp, xr, xw, h0_382, h1_384, h2_386, h3_388, h4_390)
      else
        none
    ) fun J393 =>
      if r366 = (3 : Int32) then
        J393 (-1 : Int32)
      else
        if r368 = 0 then
          J393 (-1 : Int32)
        else
          if r372 = (6 : Int32) then
            J393 (-3 : Int32)
          else
            J393 (r372 + (1 : Int32))
def sL_law_rec88 (xs : Nat → Int32) (L : Nat) (rec88 : Int32 → Int32 → Int32 → (Nat → Nat) → (Nat → Int32) → Int32 → (Nat → Int32) → Int32 → Int32 → Int32 → Int32 → Int32 → Int32 → HutS → HutS → HutS → HutS → HutS → HutS → HutS → HutS → HutS → HutS → Option (Int32)) (v89 : Int32) (ke90 : Int32) (lnn91 : Int32) (pm92 : Nat → Nat) (ch93 : Nat → Int32) (tl94 : Int32) (nu95 : Nat → Int32) (le96 : Int32) (nx97 : Int32) (cmd98 : Int32) (pos99 : Int32) (rea100 : Int32) (cau101 : Int32) (xn102 : HutS) (xt103 : HutS) (xp104 : HutS) (xr105 : HutS) (xw106 : HutS) (h107 : HutS) (h108 : HutS) (h109 : HutS) (h110 : HutS) (h111 : HutS) : Option (Int32) :=
  if (32 : Int32) ≤ v89 then
    some (1 : Int32)
  else
    bd1 (fL_lot xs L ((2 : Int32) * v89)) fun r113 =>
    bd1 (fL_lot xs L (((2 : Int32) * v89) + (1 : Int32))) fun r115 =>
    bd1 (fL_digest ke90 lnn91 tl94 xn102) fun r117 =>
    bd1 (fX6_count ke90 lnn91 tl94 xn102 (12 : Int32)) fun r119 =>
    bd23 (fL_acts ke90 lnn91 pm92 ch93 tl94 nu95 le96 nx97 cmd98 pos99 rea100 cau101 xn102 xt103 xp104 xr105 xw106 h107 h108 h109 h110 h111 r113 r115) fun r121 ke_122 lnn_123 pm_124 ch_125 tl_126 nu_127 le_128 nx_129 cmd_130 pos_131 rea_132 cau_133 xn_134 xt_135 xp_136 xr_137 xw_138 h0_139 h1_140 h2_141 h3_142 h4_143 =>
    if r121 = 0 then
      none
    else
      bd2 (fL_holds ke_122 lnn_123 tl_126 xn_134 xt_135 r115) fun r146 xt_147 =>
      if r146 = 0 then
        none
      else
        bd1 (fX6_count ke_122 lnn_123 tl_126 xn_134 (12 : Int32)) fun r150 =>
        mrg (fun (_ : Unit) =>
          if r150 = (r119 + (1 : Int32)) then
            bd1 (fL_low (r115 >>> ((8 : Int32) &&& 31)) (3 : Int32)) fun r176 =>
            if r176 = 0 then
              bd3 (fX6_undo lnn_123 pm_124 xn_134 h0_139 h1_140 h2_141 h3_142 h4_143) fun r194 lnn_196 xn_198 =>
              if r194 = r119 then
                bd1 (fL_digest ke_122 lnn_196 tl_126 xn_198) fun r201 =>
                if (lg_cmp r201 r117) = 0 then
                  if (v89 - v89 / (5 : Int32) * (5 : Int32)) = (4 : Int32) then
                    bd1 (fX6_count ke_122 lnn_196 tl_126 xn_198 (12 : Int32)) fun r206 =>
                    bd3 (fX6_undo lnn_196 pm_124 xn_198 h0_139 h1_140 h2_141 h3_142 h4_143) fun r208 lnn_210 xn_212 =>
                    mrg (fun (v216 : Int32) =>
                      if r208 = v216 then
                        jl (v89 + (1 : Int32)) fun v218 =>
                        rec88 v218 ke_122 lnn_210 pm_124 ch_125 tl_126 nu_127 le_128 nx_129 cmd_130 pos_131 rea_132 cau_133 xn_212 xt_147 xp_136 xr_137 xw_138 h0_139 h1_140 h2_141 h3_142 h4_143
                      else
                        none
                    ) fun J215 =>
                      if r206 = 0 then
                        J215 (-2 : Int32)
                      else
                        J215 (r206 - (1 : Int32))
                  else
                    jl (v89 + (1 : Int32)) fun v205 =>
                    rec88 v205 ke_122 lnn_196 pm_124 ch_125 tl_126 nu_127 le_128 nx_129 cmd_130 pos_131 rea_132 cau_133 xn_198 xt_147 xp_136 xr_137 xw_138 h0_139 h1_140 h2_141 h3_142 h4_143
                else
                  none
              else
                none
            else
              if (v89 - v89 / (5 : Int32) * (5 : Int32)) = (4 : Int32) then
                bd1 (fX6_count ke_122 lnn_123 tl_126 xn_134 (12 : Int32)) fun r181 =>
                bd3 (fX6_undo lnn_123 pm_124 xn_134 h0_139 h1_140 h2_141 h3_142 h4_143) fun r183 lnn_185 xn_187 =>
                mrg (fun (v191 : Int32) =>
                  if r183 = v191 then
                    jl (v89 + (1 : Int32)) fun v193 =>
                    rec88 v193 ke_122 lnn_185 pm_124 ch_125 tl_126 nu_127 le_128 nx_129 cmd_130 pos_131 rea_132 cau_133 xn_187 xt_147 xp_136 xr_137 xw_138 h0_139 h1_140 h2_141 h3_142 h4_143
                  else
                    none
                ) fun J190 =>
                  if r181 = 0 then
                    J190 (-2 : Int32)
                  else
                    J190 (r181 - (1 : Int32))
              else
                jl (v89 + (1 : Int32)) fun v180 =>
                rec88 v180 ke_122 lnn_123 pm_124 ch_125 tl_126 nu_127 le_128 nx_129 cmd_130 pos_131 rea_132 cau_133 xn_134 xt_147 xp_136 xr_137 xw_138 h0_139 h1_140 h2_141 h3_142 h4_143
          else
            if (v89 - v89 / (5 : Int32) * (5 : Int32)) = (4 : Int32) then
              bd1 (fX6_count ke_122 lnn_123 tl_126 xn_134 (12 : Int32)) fun r163 =>
              bd3 (fX6_undo lnn_123 pm_124 xn_134 h0_139 h1_140 h2_141 h3_142 h4_143) fun r165 lnn_167 xn_169 =>
              mrg (fun (v173 : Int32) =>
                if r165 = v173 then
                  jl (v89 + (1 : Int32)) fun v175 =>
                  rec88 v175 ke_122 lnn_167 pm_124 ch_125 tl_126 nu_127 le_128 nx_129 cmd_130 pos_131 rea_132 cau_133 xn_169 xt_147 xp_136 xr_137 xw_138 h0_139 h1_140 h2_141 h3_142 h4_143
                else
                  none
              ) fun J172 =>
                if r163 = 0 then
                  J172 (-2 : Int32)
                else
                  J172 (r163 - (1 : Int32))
            else
              jl (v89 + (1 : Int32)) fun v162 =>
              rec88 v162 ke_122 lnn_123 pm_124 ch_125 tl_126 nu_127 le_128 nx_129 cmd_130 pos_131 rea_132 cau_133 xn_134 xt_147 xp_136 xr_137 xw_138 h0_139 h1_140 h2_141 h3_142 h4_143
        ) fun J154 =>
          mrg (fun (_ : Unit) =>
            if r150 = (r119 + (1 : Int32)) then
              J154 ()
            else
              none
          ) fun J153 =>
            if r150 = r119 then
              if r119 = (4 : Int32) then
                J154 ()
              else
                bd1 (fL_digest ke_122 lnn_123 tl_126 xn_134) fun r156 =>
                if (lg_cmp r156 r117) = 0 then
                  J154 ()
                else
                  J153 ()
            else
              J153 ()
def fL_law (xs : Nat → Int32) (L : Nat) (ke : Int32) (lnn : Int32) (pm : Nat → Nat) (ch : Nat → Int32) (tl : Int32) (nu : Nat → Int32) (le : Int32) (nx : Int32) (cmd : Int32) (pos : Int32) (rea : Int32) (cau : Int32) (xn : HutS) (xt : HutS) (xp : HutS) (xr : HutS) (xw : HutS) (h0 : HutS) (h1 : HutS) (h2 : HutS) (h3 : HutS) (h4 : HutS) : Option Int32 :=
  bd2 (fL_holds ke lnn tl xn xt (0 : Int32)) fun r1 xt_2 =>
  if r1 = 0 then
    none
  else
    bd3 (fX6_undo lnn pm xn h0 h1 h2 h3 h4) fun r5 lnn_7 xn_9 =>
    if r5 = (-2 : Int32) then
      bd9 (fX6_set lnn_7 pm xn_9 h0 h1 h2 h3 h4 (3 : Int32) (9 : Int32)) fun r12 lnn_14 pm_16 xn_18 h0_20 h1_22 h2_24 h3_26 h4_28 =>
      if r12 = (1 : Int32) then
        bd9 (fX6_load lnn_14 pm_16 xn_18 h0_20 h1_22 h2_24 h3_26 h4_28 (0 : Int32) (90 : Int32) (30 : Int32)) fun r31 lnn_33 pm_35 xn_37 h0_39 h1_41 h2_43 h3_45 h4_47 =>
        if r31 = (1 : Int32) then
          bd9 (fX6_load lnn_33 pm_35 xn_37 h0_39 h1_41 h2_43 h3_45 h4_47 (2 : Int32) (40 : Int32) (40 : Int32)) fun r50 lnn_52 pm_54 xn_56 h0_58 h1_60 h2_62 h3_64 h4_66 =>
          if r50 = (2 : Int32) then
            bd9 (fX6_fly lnn_52 pm_54 xn_56 h0_58 h1_60 h2_62 h3_64 h4_66) fun r69 lnn_71 pm_73 xn_75 h0_77 h1_79 h2_81 h3_83 h4_85 =>
            if r69 = (2 : Int32) then
              gl23 (sL_law_rec88 xs L) gFU (0 : Int32) ke lnn_71 pm_73 ch tl nu le nx cmd pos rea cau xn_75 xt_2 xp xr xw h0_77 h1_79 h2_81 h3_83 h4_85
            else
              none
          else
            none
        else
          none
      else
        none
    else
      none
