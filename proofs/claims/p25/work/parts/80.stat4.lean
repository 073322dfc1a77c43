set_option maxHeartbeats 4000000 in
set_option maxRecDepth 100000 in
theorem kL_acts (E : gE) (l : Launch) (g0 q0 q1 x0 x1 x2 r0 : Nat) (an au ap ar aw : Nat → Nat) (ba : Nat → Nat → Nat) (ke : Int32) (lnn : Int32) (pm : Nat → Nat) (ch : Nat → Int32) (tl : Int32) (nu : Nat → Int32) (le : Int32) (nx : Int32) (cmd : Int32) (pos : Int32) (rea : Int32) (cau : Int32) (xn : HutS) (xt : HutS) (xp : HutS) (xr : HutS) (xw : HutS) (h0 : HutS) (h1 : HutS) (h2 : HutS) (h3 : HutS) (h4 : HutS) (p2 : Int32) (p3 : Int32) (res : Int32 × Int32 × Int32 × (Nat → Nat) × (Nat → Int32) × Int32 × (Nat → Int32) × Int32 × Int32 × Int32 × Int32 × Int32 × Int32 × HutS × HutS × HutS × HutS × HutS × HutS × HutS × HutS × HutS × HutS) (h : fL_acts ke lnn pm ch tl nu le nx cmd pos rea cau xn xt xp xr xw h0 h1 h2 h3 h4 p2 p3 = some res) : gMI E l yL_acts wsL_acts ({ frames := 8, cells := 0, slots := 0, locals := 196 } : Room) [.ref g0, .int p2, .int p3] (List.flatten [[(g0, .inr (6, [.ref (an 0), .ref (au 0), .ref (ap 0), .ref q0, .ref x0, .ref r0, .int ke]))], [(q0, .inr (0, [.ref q1, .int lnn]))], wHa E q1 ba pm, wTx E x0 x1 x2 ch tl nu le nx, [(r0, .inr (3, [.ref (ar 0), .ref (aw 0), .int cmd, .int pos, .int rea, .int cau]))], wHuT E an xn, wHuT E au xt, wHuT E ap xp, wHuT E ar xr, wHuT E aw xw, wHuT E (ba 0) h0, wHuT E (ba 1) h1, wHuT E (ba 2) h2, wHuT E (ba 3) h3, wHuT E (ba 4) h4]) (fun res : Int32 × Int32 × Int32 × (Nat → Nat) × (Nat → Int32) × Int32 × (Nat → Int32) × Int32 × Int32 × Int32 × Int32 × Int32 × Int32 × HutS × HutS × HutS × HutS × HutS × HutS × HutS × HutS × HutS × HutS => (List.flatten [[(g0, .inr (6, [.ref (an 0), .ref (au 0), .ref (ap 0), .ref q0, .ref x0, .ref r0, .int res.2.1]))], [(q0, .inr (0, [.ref q1, .int res.2.2.1]))], wHa E q1 ba res.2.2.2.1, wTx E x0 x1 x2 res.2.2.2.2.1 res.2.2.2.2.2.1 res.2.2.2.2.2.2.1 res.2.2.2.2.2.2.2.1 res.2.2.2.2.2.2.2.2.1, [(r0, .inr (3, [.ref (ar 0), .ref (aw 0), .int res.2.2.2.2.2.2.2.2.2.1, .int res.2.2.2.2.2.2.2.2.2.2.1, .int res.2.2.2.2.2.2.2.2.2.2.2.1, .int res.2.2.2.2.2.2.2.2.2.2.2.2.1]))], wHuT E an res.2.2.2.2.2.2.2.2.2.2.2.2.2.1, wHuT E au res.2.2.2.2.2.2.2.2.2.2.2.2.2.2.1, wHuT E ap res.2.2.2.2.2.2.2.2.2.2.2.2.2.2.2.1, wHuT E ar res.2.2.2.2.2.2.2.2.2.2.2.2.2.2.2.2.1, wHuT E aw res.2.2.2.2.2.2.2.2.2.2.2.2.2.2.2.2.2.1, wHuT E (ba 0) res.2.2.2.2.2.2.2.2.2.2.2.2.2.2.2.2.2.2.1, wHuT E (ba 1) res.2.2.2.2.2.2.2.2.2.2.2.2.2.2.2.2.2.2.2.1, wHuT E (ba 2) res.2.2.2.2.2.2.2.2.2.2.2.2.2.2.2.2.2.2.2.2.1, wHuT E (ba 3) res.2.2.2.2.2.2.2.2.2.2.2.2.2.2.2.2.2.2.2.2.2.1, wHuT E (ba 4) res.2.2.2.2.2.2.2.2.2.2.2.2.2.2.2.2.2.2.2.2.2.2])) (fun res => res.1) res := by
  refine g_entZ (cc := cL_acts) (maxL := 14) (by decide) rfl (Nat.le_of_ble_eq_true rfl) ?_
  intro p e s m args below meth c A Q ls hx hb hml hown hts hK hP hD hS hA hG hret hl
  unfold fL_acts at h
  replace hl : lv_has ls 14 [(0, .ref g0), (1, .int p2), (2, .int p3)] := hl
  refine lv_iload_n hx hb dL_acts_0 rfl (lv_at hl 1 rfl) ?_
  refine lv_bipush (v := (20 : Int32)) hx hb dL_acts_1 (by decide) ?_
  obtain ⟨r1, hc2, h⟩ := bd1_s h
  refine g_callSBi (As := [.int p2, .int (20 : Int32)]) (rest := []) (r := r1) (bs1 := [[(g0, .inr (6, [.ref (an 0), .ref (au 0), .ref (ap 0), .ref q0, .ref x0, .ref r0, .int ke]))], [(q0, .inr (0, [.ref q1, .int lnn]))], wHa E q1 ba pm, wTx E x0 x1 x2 ch tl nu le nx, [(r0, .inr (3, [.ref (ar 0), .ref (aw 0), .int cmd, .int pos, .int rea, .int cau]))], wHuT E an xn, wHuT E au xt, wHuT E ap xp, wHuT E ar xr, wHuT E aw xw, wHuT E (ba 0) h0, wHuT E (ba 1) h1, wHuT E (ba 2) h2, wHuT E (ba 3) h3, wHuT E (ba 4) h4]) ⟨hx, hb, hml, hown, hts⟩ (kL_low E l p2 (20 : Int32) r1 hc2) (va_cwS 2 hts gL_acts_L_low rfl rfl rfl (by decide +kernel) ⟨Nat.le_of_ble_eq_true rfl, Nat.le_of_ble_eq_true rfl⟩) hK hP hD hS hA hG hl [] (by decide) rfl rfl rfl rfl rfl rfl rfl (Nat.le_of_ble_eq_true rfl) dL_acts_3 (Nat.zero_le _) (Nat.zero_le _) (fun H locs hP hD hS => ?_)
  refine lv_istore_n (lv' := [(3, .int r1), (0, .ref g0), (1, .int p2), (2, .int p3)]) hx hb dL_acts_6 rfl hl (by decide) rfl (fun ls hl => ?_)
  refine lv_aload_n hx hb dL_acts_7 rfl (lv_at hl 1 rfl) ?_
  refine lv_iconst (v := (4 : Int32)) hx hb dL_acts_8 (by decide) ?_
  obtain ⟨r3, hc4, h⟩ := bd1_s h
  refine g_callBi (As := [.int (4 : Int32)]) (rest := []) (r := r3) (bs1 := [[(g0, .inr (6, [.ref (an 0), .ref (au 0), .ref (ap 0), .ref q0, .ref x0, .ref r0, .int ke]))], [(q0, .inr (0, [.ref q1, .int lnn]))], wHa E q1 ba pm, wTx E x0 x1 x2 ch tl nu le nx, [(r0, .inr (3, [.ref (ar 0), .ref (aw 0), .int cmd, .int pos, .int rea, .int cau]))], wHuT E an xn, wHuT E au xt, wHuT E ap xp, wHuT E ar xr, wHuT E aw xw, wHuT E (ba 0) h0, wHuT E (ba 1) h1, wHuT E (ba 2) h2, wHuT E (ba 3) h3, wHuT E (ba 4) h4]) ⟨hx, hb, hml, hown, hts⟩ (kX6_count E l g0 q0 q1 x0 x1 x2 r0 an au ap ar aw ba ke lnn pm ch tl nu le nx cmd pos rea cau xn xt xp xr xw h0 h1 h2 h3 h4 (4 : Int32) r3 hc4) (cwV 1 hts gL_acts_X6_count rfl rfl rfl (by decide +kernel) ⟨Nat.le_of_ble_eq_true rfl, Nat.le_of_ble_eq_true rfl⟩) hK hP hD hS hA hG hl [0, 1, 2, 3, 4, 5, 6, 7, 8, 9, 10, 11, 12, 13, 14] 0 0 (by decide) rfl (ci := 6) rfl rfl rfl rfl rfl rfl rfl rfl rfl rfl (Nat.le_of_ble_eq_true rfl) dL_acts_9 (Nat.zero_le _) (Nat.zero_le _) (fun H locs hP hD hS => ?_)
  refine lv_istore (lv' := [(4, .int r3), (3, .int r1), (0, .ref g0), (1, .int p2), (2, .int p3)]) hx hb dL_acts_12 hl (by decide) rfl (fun ls hl => ?_)
  refine lv_aload_n hx hb dL_acts_14 rfl (lv_at hl 2 rfl) ?_
  refine lv_iconst (v := (0 : Int32)) hx hb dL_acts_15 (by decide) ?_
  obtain ⟨r5, hc6, h⟩ := bd1_s h
  refine g_callBi (As := [.int (0 : Int32)]) (rest := []) (r := r5) (bs1 := [[(g0, .inr (6, [.ref (an 0), .ref (au 0), .ref (ap 0), .ref q0, .ref x0, .ref r0, .int ke]))], [(q0, .inr (0, [.ref q1, .int lnn]))], wHa E q1 ba pm, wTx E x0 x1 x2 ch tl nu le nx, [(r0, .inr (3, [.ref (ar 0), .ref (aw 0), .int cmd, .int pos, .int rea, .int cau]))], wHuT E an xn, wHuT E au xt, wHuT E ap xp, wHuT E ar xr, wHuT E aw xw, wHuT E (ba 0) h0, wHuT E (ba 1) h1, wHuT E (ba 2) h2, wHuT E (ba 3) h3, wHuT E (ba 4) h4]) ⟨hx, hb, hml, hown, hts⟩ (kX6_count E l g0 q0 q1 x0 x1 x2 r0 an au ap ar aw ba ke lnn pm ch tl nu le nx cmd pos rea cau xn xt xp xr xw h0 h1 h2 h3 h4 (0 : Int32) r5 hc6) (cwV 1 hts gL_acts_X6_count rfl rfl rfl (by decide +kernel) ⟨Nat.le_of_ble_eq_true rfl, Nat.le_of_ble_eq_true rfl⟩) hK hP hD hS hA hG hl [0, 1, 2, 3, 4, 5, 6, 7, 8, 9, 10, 11, 12, 13, 14] 0 0 (by decide) rfl (ci := 6) rfl rfl rfl rfl rfl rfl rfl rfl rfl rfl (Nat.le_of_ble_eq_true rfl) dL_acts_16 (Nat.zero_le _) (Nat.zero_le _) (fun H locs hP hD hS => ?_)
  refine lv_istore (lv' := [(5, .int r5), (4, .int r3), (3, .int r1), (0, .ref g0), (1, .int p2), (2, .int p3)]) hx hb dL_acts_19 hl (by decide) rfl (fun ls hl => ?_)
  refine lv_iload_n hx hb dL_acts_21 rfl (lv_at hl 4 rfl) ?_
  refine lv_iconst (v := (5 : Int32)) hx hb dL_acts_22 (by decide) ?_
  refine lv_ishr hx hb dL_acts_23 ?_
  refine lv_iload hx hb dL_acts_24 (lv_at hl 0 rfl) ?_
  refine lv_iconst (v := (1 : Int32)) hx hb dL_acts_26 (by decide) ?_
  refine lv_iadd hx hb dL_acts_27 ?_
  obtain ⟨r7, hc8, h⟩ := bd1_s h
  refine g_callSBi (As := [.int (p2 >>> ((5 : Int32) &&& 31)), .int (r5 + (1 : Int32))]) (rest := []) (r := r7) (bs1 := [[(g0, .inr (6, [.ref (an 0), .ref (au 0), .ref (ap 0), .ref q0, .ref x0, .ref r0, .int ke]))], [(q0, .inr (0, [.ref q1, .int lnn]))], wHa E q1 ba pm, wTx E x0 x1 x2 ch tl nu le nx, [(r0, .inr (3, [.ref (ar 0), .ref (aw 0), .int cmd, .int pos, .int rea, .int cau]))], wHuT E an xn, wHuT E au xt, wHuT E ap xp, wHuT E ar xr, wHuT E aw xw, wHuT E (ba 0) h0, wHuT E (ba 1) h1, wHuT E (ba 2) h2, wHuT E (ba 3) h3, wHuT E (ba 4) h4]) ⟨hx, hb, hml, hown, hts⟩ (kL_low E l (p2 >>> ((5 : Int32) &&& 31)) (r5 + (1 : Int32)) r7 hc8) (va_cwS 2 hts gL_acts_L_low rfl rfl rfl (by decide +kernel) ⟨Nat.le_of_ble_eq_true rfl, Nat.le_of_ble_eq_true rfl⟩) hK hP hD hS hA hG hl [] (by decide) rfl rfl rfl rfl rfl rfl rfl (Nat.le_of_ble_eq_true rfl) dL_acts_28 (Nat.zero_le _) (Nat.zero_le _) (fun H locs hP hD hS => ?_)
  refine lv_istore (lv' := [(6, .int r7), (5, .int r5), (4, .int r3), (3, .int r1), (0, .ref g0), (1, .int p2), (2, .int p3)]) hx hb dL_acts_31 hl (by decide) rfl (fun ls hl => ?_)
  refine lv_iload_n hx hb dL_acts_33 rfl (lv_at hl 3 rfl) ?_
  refine lv_iconst (v := (4 : Int32)) hx hb dL_acts_34 (by decide) ?_
  refine lv_icmp_ge (tgt := 124) hx hb dL_acts_35 (by decide) (fun hc9 => ?_) (fun hc9 => ?_)
  · replace h := g_it hc9 h
    refine lv_iload_n hx hb dL_acts_124 rfl (lv_at hl 3 rfl) ?_
    refine lv_bipush (v := (7 : Int32)) hx hb dL_acts_125 (by decide) ?_
    refine lv_icmp_ge (tgt := 228) hx hb dL_acts_127 (by decide) (fun hc10 => ?_) (fun hc10 => ?_)
    · replace h := g_it hc10 h
      refine lv_iload_n hx hb dL_acts_228 rfl (lv_at hl 3 rfl) ?_
      refine lv_bipush (v := (11 : Int32)) hx hb dL_acts_229 (by decide) ?_
      refine lv_icmp_ge (tgt := 468) hx hb dL_acts_231 (by decide) (fun hc11 => ?_) (fun hc11 => ?_)
      · replace h := g_it hc11 h
        refine lv_iload_n hx hb dL_acts_468 rfl (lv_at hl 3 rfl) ?_
        refine lv_bipush (v := (11 : Int32)) hx hb dL_acts_469 (by decide) ?_
        refine lv_icmp_ne (tgt := 541) hx hb dL_acts_471 (by decide) (fun hc12 => ?_) (fun hc12 => ?_)
        · replace h := g_if hc12 h
          refine lv_iload_n hx hb dL_acts_541 rfl (lv_at hl 3 rfl) ?_
          refine lv_bipush (v := (12 : Int32)) hx hb dL_acts_542 (by decide) ?_
          refine lv_icmp_ne (tgt := 640) hx hb dL_acts_544 (by decide) (fun hc13 => ?_) (fun hc13 => ?_)
          · replace h := g_if hc13 h
            refine lv_iload_n hx hb dL_acts_640 rfl (lv_at hl 3 rfl) ?_
            refine lv_bipush (v := (13 : Int32)) hx hb dL_acts_641 (by decide) ?_
            refine lv_icmp_ne (tgt := 734) hx hb dL_acts_643 (by decide) (fun hc14 => ?_) (fun hc14 => ?_)
            · replace h := g_if hc14 h
              refine lv_iload_n hx hb dL_acts_734 rfl (lv_at hl 3 rfl) ?_
              refine lv_bipush (v := (17 : Int32)) hx hb dL_acts_735 (by decide) ?_
              refine lv_icmp_ge (tgt := 872) hx hb dL_acts_737 (by decide) (fun hc15 => ?_) (fun hc15 => ?_)
              · replace h := g_it hc15 h
                refine lv_iload_n hx hb dL_acts_872 rfl (lv_at hl 3 rfl) ?_
                refine lv_bipush (v := (17 : Int32)) hx hb dL_acts_873 (by decide) ?_
                refine lv_icmp_ne (tgt := 993) hx hb dL_acts_875 (by decide) (fun hc16 => ?_) (fun hc16 => ?_)
                · replace h := g_if hc16 h
                  refine lv_iload_n hx hb dL_acts_993 rfl (lv_at hl 3 rfl) ?_
                  refine lv_bipush (v := (18 : Int32)) hx hb dL_acts_994 (by decide) ?_
                  refine lv_icmp_ne (tgt := 1065) hx hb dL_acts_996 (by decide) (fun hc17 => ?_) (fun hc17 => ?_)
                  · replace h := g_if hc17 h
                    refine lv_aload_n hx hb dL_acts_1065 rfl (lv_at hl 4 rfl) ?_
                    refine lv_iload_n hx hb dL_acts_1066 rfl (lv_at hl 6 rfl) ?_
                    obtain ⟨r18, ch_19, tl_20, hc21, h⟩ := bd3_s h
                    refine g_callSBi (As := [.ref g0, .int p3]) (rest := []) (r := r18) (bs1 := [[(g0, .inr (6, [.ref (an 0), .ref (au 0), .ref (ap 0), .ref q0, .ref x0, .ref r0, .int ke]))], [(q0, .inr (0, [.ref q1, .int lnn]))], wHa E q1 ba pm, wTx E x0 x1 x2 ch_19 tl_20 nu le nx, [(r0, .inr (3, [.ref (ar 0), .ref (aw 0), .int cmd, .int pos, .int rea, .int cau]))], wHuT E an xn, wHuT E au xt, wHuT E ap xp, wHuT E ar xr, wHuT E aw xw, wHuT E (ba 0) h0, wHuT E (ba 1) h1, wHuT E (ba 2) h2, wHuT E (ba 3) h3, wHuT E (ba 4) h4]) ⟨hx, hb, hml, hown, hts⟩ (kL_types E l g0 q0 q1 x0 x1 x2 r0 an au ap ar aw ba ke lnn pm ch tl nu le nx cmd pos rea cau xn xt xp xr xw h0 h1 h2 h3 h4 p3 (r18, ch_19, tl_20) hc21) (va_cwS 2 hts gL_acts_L_types rfl rfl rfl (by decide +kernel) ⟨Nat.le_of_ble_eq_true rfl, Nat.le_of_ble_eq_true rfl⟩) hK hP hD hS hA hG hl [0, 1, 2, 3, 4, 5, 6, 7, 8, 9, 10, 11, 12, 13, 14] (by decide) rfl rfl rfl rfl rfl rfl rfl (Nat.le_of_ble_eq_true rfl) dL_acts_1067 (Nat.zero_le _) (Nat.zero_le _) (fun H locs hP hD hS => ?_)
                    refine lv_if_eq (tgt := 1084) hx hb dL_acts_1070 (by decide) (fun hc22 => ?_) (fun hc22 => ?_)
                    · replace h := g_it hc22 h
                      cases h
                    · replace h := g_if hc22 h
                      refine lv_aload_n hx hb dL_acts_1073 rfl (lv_at hl 4 rfl) ?_
                      obtain ⟨r23, lnn_24, pm_25, nu_26, le_27, nx_28, cmd_29, pos_30, rea_31, cau_32, xn_33, xr_34, xw_35, h0_36, h1_37, h2_38, h3_39, h4_40, hc41, h⟩ := bd18_s h
                      refine g_callSBi (As := [.ref g0]) (rest := []) (r := r23) (bs1 := [[(g0, .inr (6, [.ref (an 0), .ref (au 0), .ref (ap 0), .ref q0, .ref x0, .ref r0, .int ke]))], [(q0, .inr (0, [.ref q1, .int lnn_24]))], wHa E q1 ba pm_25, wTx E x0 x1 x2 ch_19 tl_20 nu_26 le_27 nx_28, [(r0, .inr (3, [.ref (ar 0), .ref (aw 0), .int cmd_29, .int pos_30, .int rea_31, .int cau_32]))], wHuT E an xn_33, wHuT E au xt, wHuT E ap xp, wHuT E ar xr_34, wHuT E aw xw_35, wHuT E (ba 0) h0_36, wHuT E (ba 1) h1_37, wHuT E (ba 2) h2_38, wHuT E (ba 3) h3_39, wHuT E (ba 4) h4_40]) ⟨hx, hb, hml, hown, hts⟩ (kL_reads E l g0 q0 q1 x0 x1 x2 r0 an au ap ar aw ba ke lnn pm ch_19 tl_20 nu le nx cmd pos rea cau xn xt xp xr xw h0 h1 h2 h3 h4 (r23, lnn_24, pm_25, nu_26, le_27, nx_28, cmd_29, pos_30, rea_31, cau_32, xn_33, xr_34, xw_35, h0_36, h1_37, h2_38, h3_39, h4_40) hc41) (va_cwS 1 hts gL_acts_L_reads rfl rfl rfl (by decide +kernel) ⟨Nat.le_of_ble_eq_true rfl, Nat.le_of_ble_eq_true rfl⟩) hK hP hD hS hA hG hl [0, 1, 2, 3, 4, 5, 6, 7, 8, 9, 10, 11, 12, 13, 14] (by decide) rfl rfl rfl rfl rfl rfl rfl (Nat.le_of_ble_eq_true rfl) dL_acts_1074 (Nat.zero_le _) (Nat.zero_le _) (fun H locs hP hD hS => ?_)
                      refine lv_if_eq (tgt := 1084) hx hb dL_acts_1077 (by decide) (fun hc42 => ?_) (fun hc42 => ?_)
                      · replace h := g_it hc42 h
                        cases h
                      · replace h := g_if hc42 h
                        refine lv_iconst (v := (1 : Int32)) hx hb dL_acts_1080 (by decide) ?_
                        refine lv_goto (tgt := 1085) hx hb dL_acts_1081 (by decide) ?_
                        exact hret ((1 : Int32), ke, lnn_24, pm_25, ch_19, tl_20, nu_26, le_27, nx_28, cmd_29, pos_30, rea_31, cau_32, xn_33, xt, xp, xr_34, xw_35, h0_36, h1_37, h2_38, h3_39, h4_40) _ _ _ _ _ (Option.some.inj h) hP hS rfl rfl dL_acts_1085
                  · replace h := g_it hc17 h
                    refine lv_aload_n hx hb dL_acts_999 rfl (lv_at hl 4 rfl) ?_
                    refine lv_bipush (v := (14 : Int32)) hx hb dL_acts_1000 (by decide) ?_
                    obtain ⟨r43, hc44, h⟩ := bd1_s h
                    refine g_callBi (As := [.int (14 : Int32)]) (rest := []) (r := r43) (bs1 := [[(g0, .inr (6, [.ref (an 0), .ref (au 0), .ref (ap 0), .ref q0, .ref x0, .ref r0, .int ke]))], [(q0, .inr (0, [.ref q1, .int lnn]))], wHa E q1 ba pm, wTx E x0 x1 x2 ch tl nu le nx, [(r0, .inr (3, [.ref (ar 0), .ref (aw 0), .int cmd, .int pos, .int rea, .int cau]))], wHuT E an xn, wHuT E au xt, wHuT E ap xp, wHuT E ar xr, wHuT E aw xw, wHuT E (ba 0) h0, wHuT E (ba 1) h1, wHuT E (ba 2) h2, wHuT E (ba 3) h3, wHuT E (ba 4) h4]) ⟨hx, hb, hml, hown, hts⟩ (kX6_count E l g0 q0 q1 x0 x1 x2 r0 an au ap ar aw ba ke lnn pm ch tl nu le nx cmd pos rea cau xn xt xp xr xw h0 h1 h2 h3 h4 (14 : Int32) r43 hc44) (cwV 1 hts gL_acts_X6_count rfl rfl rfl (by decide +kernel) ⟨Nat.le_of_ble_eq_true rfl, Nat.le_of_ble_eq_true rfl⟩) hK hP hD hS hA hG hl [0, 1, 2, 3, 4, 5, 6, 7, 8, 9, 10, 11, 12, 13, 14] 0 0 (by decide) rfl (ci := 6) rfl rfl rfl rfl rfl rfl rfl rfl rfl rfl (Nat.le_of_ble_eq_true rfl) dL_acts_1002 (Nat.zero_le _) (Nat.zero_le _) (fun H locs hP hD hS => ?_)
                    refine lv_iconst (v := (1 : Int32)) hx hb dL_acts_1005 (by decide) ?_
                    refine mrg_e h (fun J46 hK_J46 h => ?_)
                    have hJ_J46 : ∀ (v47 : Int32) (H : Heap) (locs : List Loc) (ls : Array Slot), va_P E.1 vwCl (List.flatten [[(g0, .inr (6, [.ref (an 0), .ref (au 0), .ref (ap 0), .ref q0, .ref x0, .ref r0, .int ke]))], [(q0, .inr (0, [.ref q1, .int lnn]))], wHa E q1 ba pm, wTx E x0 x1 x2 ch tl nu le nx, [(r0, .inr (3, [.ref (ar 0), .ref (aw 0), .int cmd, .int pos, .int rea, .int cau]))], wHuT E an xn, wHuT E au xt, wHuT E ap xp, wHuT E ar xr, wHuT E aw xw, wHuT E (ba 0) h0, wHuT E (ba 1) h1, wHuT E (ba 2) h2, wHuT E (ba 3) h3, wHuT E (ba 4) h4]) H → va_S A s.heap H locs → lv_has ls 14 [(0, .ref g0), (2, .int p3)] → J46 v47 = some res → W p l e ({ frames := 8, cells := 0, slots := 0, locals := 196 } : Room) s m args below meth c H locs 0 0 Q (F0 m 1014 ls [.int v47]) := by
                      intro v47 H locs ls hP hS hl h
                      replace hD : va_D A (List.flatten [[(g0, .inr (6, [.ref (an 0), .ref (au 0), .ref (ap 0), .ref q0, .ref x0, .ref r0, .int ke]))], [(q0, .inr (0, [.ref q1, .int lnn]))], wHa E q1 ba pm, wTx E x0 x1 x2 ch tl nu le nx, [(r0, .inr (3, [.ref (ar 0), .ref (aw 0), .int cmd, .int pos, .int rea, .int cau]))], wHuT E an xn, wHuT E au xt, wHuT E ap xp, wHuT E ar xr, wHuT E aw xw, wHuT E (ba 0) h0, wHuT E (ba 1) h1, wHuT E (ba 2) h2, wHuT E (ba 3) h3, wHuT E (ba 4) h4]) := gD_same hD rfl
                      subst hK_J46
                      refine lv_istore (lv' := [(7, .int v47), (0, .ref g0), (2, .int p3)]) hx hb dL_acts_1014 hl (by decide) rfl (fun ls hl => ?_)
                      refine lv_iload_n hx hb dL_acts_1016 rfl (lv_at hl 2 rfl) ?_
                      refine lv_iconst (v := (2 : Int32)) hx hb dL_acts_1017 (by decide) ?_
                      obtain ⟨r48, hc49, h⟩ := bd1_s h
                      refine g_callSBi (As := [.int p3, .int (2 : Int32)]) (rest := []) (r := r48) (bs1 := [[(g0, .inr (6, [.ref (an 0), .ref (au 0), .ref (ap 0), .ref q0, .ref x0, .ref r0, .int ke]))], [(q0, .inr (0, [.ref q1, .int lnn]))], wHa E q1 ba pm, wTx E x0 x1 x2 ch tl nu le nx, [(r0, .inr (3, [.ref (ar 0), .ref (aw 0), .int cmd, .int pos, .int rea, .int cau]))], wHuT E an xn, wHuT E au xt, wHuT E ap xp, wHuT E ar xr, wHuT E aw xw, wHuT E (ba 0) h0, wHuT E (ba 1) h1, wHuT E (ba 2) h2, wHuT E (ba 3) h3, wHuT E (ba 4) h4]) ⟨hx, hb, hml, hown, hts⟩ (kL_low E l p3 (2 : Int32) r48 hc49) (va_cwS 2 hts gL_acts_L_low rfl rfl rfl (by decide +kernel) ⟨Nat.le_of_ble_eq_true rfl, Nat.le_of_ble_eq_true rfl⟩) hK hP hD hS hA hG hl [] (by decide) rfl rfl rfl rfl rfl rfl rfl (Nat.le_of_ble_eq_true rfl) dL_acts_1018 (Nat.zero_le _) (Nat.zero_le _) (fun H locs hP hD hS => ?_)
                      refine mrg_e h (fun J51 hK_J51 h => ?_)
                      have hJ_J51 : ∀ (ke76 : Int32) (lnn77 : Int32) (pm78 : Nat → Nat) (xn79 : HutS) (xp80 : HutS) (h81 : HutS) (h82 : HutS) (h83 : HutS) (h84 : HutS) (h85 : HutS) (v86 : Int32) (H : Heap) (locs : List Loc) (ls : Array Slot), va_P E.1 vwCl (List.flatten [[(g0, .inr (6, [.ref (an 0), .ref (au 0), .ref (ap 0), .ref q0, .ref x0, .ref r0, .int ke76]))], [(q0, .inr (0, [.ref q1, .int lnn77]))], wHa E q1 ba pm78, wTx E x0 x1 x2 ch tl nu le nx, [(r0, .inr (3, [.ref (ar 0), .ref (aw 0), .int cmd, .int pos, .int rea, .int cau]))], wHuT E an xn79, wHuT E au xt, wHuT E ap xp80, wHuT E ar xr, wHuT E aw xw, wHuT E (ba 0) h81, wHuT E (ba 1) h82, wHuT E (ba 2) h83, wHuT E (ba 3) h84, wHuT E (ba 4) h85]) H → va_S A s.heap H locs → lv_has ls 14 [(7, .int v47), (0, .ref g0)] → J51 ke76 lnn77 pm78 xn79 xp80 h81 h82 h83 h84 h85 v86 = some res → W p l e ({ frames := 8, cells := 0, slots := 0, locals := 196 } : Room) s m args below meth c H locs 0 0 Q (F0 m 1035 ls [.int v86]) := by
                        intro ke76 lnn77 pm78 xn79 xp80 h81 h82 h83 h84 h85 v86 H locs ls hP hS hl h
                        replace hD : va_D A (List.flatten [[(g0, .inr (6, [.ref (an 0), .ref (au 0), .ref (ap 0), .ref q0, .ref x0, .ref r0, .int ke76]))], [(q0, .inr (0, [.ref q1, .int lnn77]))], wHa E q1 ba pm78, wTx E x0 x1 x2 ch tl nu le nx, [(r0, .inr (3, [.ref (ar 0), .ref (aw 0), .int cmd, .int pos, .int rea, .int cau]))], wHuT E an xn79, wHuT E au xt, wHuT E ap xp80, wHuT E ar xr, wHuT E aw xw, wHuT E (ba 0) h81, wHuT E (ba 1) h82, wHuT E (ba 2) h83, wHuT E (ba 3) h84, wHuT E (ba 4) h85]) := gD_same hD rfl
                        subst hK_J51
                        refine lv_istore (lv' := [(8, .int v86), (7, .int v47), (0, .ref g0)]) hx hb dL_acts_1035 hl (by decide) rfl (fun ls hl => ?_)
                        refine lv_iload hx hb dL_acts_1037 (lv_at hl 0 rfl) ?_
                        refine lv_aload_n hx hb dL_acts_1039 rfl (lv_at hl 2 rfl) ?_
                        refine lv_iconst (v := (4 : Int32)) hx hb dL_acts_1040 (by decide) ?_
                        obtain ⟨r87, hc88, h⟩ := bd1_s h
                        refine g_callBi (As := [.int (4 : Int32)]) (rest := [.int v86]) (r := r87) (bs1 := [[(g0, .inr (6, [.ref (an 0), .ref (au 0), .ref (ap 0), .ref q0, .ref x0, .ref r0, .int ke76]))], [(q0, .inr (0, [.ref q1, .int lnn77]))], wHa E q1 ba pm78, wTx E x0 x1 x2 ch tl nu le nx, [(r0, .inr (3, [.ref (ar 0), .ref (aw 0), .int cmd, .int pos, .int rea, .int cau]))], wHuT E an xn79, wHuT E au xt, wHuT E ap xp80, wHuT E ar xr, wHuT E aw xw, wHuT E (ba 0) h81, wHuT E (ba 1) h82, wHuT E (ba 2) h83, wHuT E (ba 3) h84, wHuT E (ba 4) h85]) ⟨hx, hb, hml, hown, hts⟩ (kX6_count E l g0 q0 q1 x0 x1 x2 r0 an au ap ar aw ba ke76 lnn77 pm78 ch tl nu le nx cmd pos rea cau xn79 xt xp80 xr xw h81 h82 h83 h84 h85 (4 : Int32) r87 hc88) (cwV 1 hts gL_acts_X6_count rfl rfl rfl (by decide +kernel) ⟨Nat.le_of_ble_eq_true rfl, Nat.le_of_ble_eq_true rfl⟩) hK hP hD hS hA hG hl [0, 1, 2, 3, 4, 5, 6, 7, 8, 9, 10, 11, 12, 13, 14] 0 0 (by decide) rfl (ci := 6) rfl rfl rfl rfl rfl rfl rfl rfl rfl rfl (Nat.le_of_ble_eq_true rfl) dL_acts_1041 (Nat.zero_le _) (Nat.zero_le _) (fun H locs hP hD hS => ?_)
                        refine lv_icmp_eq (tgt := 1059) hx hb dL_acts_1044 (by decide) (fun hc89 => ?_) (fun hc89 => ?_)
                        · replace h := g_it hc89 h
                          refine lv_iconst (v := (1 : Int32)) hx hb dL_acts_1059 (by decide) ?_
                          refine lv_goto (tgt := 1064) hx hb dL_acts_1060 (by decide) ?_
                          exact hret ((1 : Int32), ke76, lnn77, pm78, ch, tl, nu, le, nx, cmd, pos, rea, cau, xn79, xt, xp80, xr, xw, h81, h82, h83, h84, h85) _ _ _ _ _ (Option.some.inj h) hP hS rfl rfl dL_acts_1064
                        · replace h := g_if hc89 h
                          refine lv_iload hx hb dL_acts_1047 (lv_at hl 1 rfl) ?_
                          refine lv_if_ne (tgt := 1063) hx hb dL_acts_1049 (by decide) (fun hc90 => ?_) (fun hc90 => ?_)
                          · replace h := g_if hc90 h
                            cases h
                          · replace h := g_it hc90 h
                            refine lv_iload hx hb dL_acts_1052 (lv_at hl 0 rfl) ?_
                            refine lv_bipush (v := (-2 : Int32)) hx hb dL_acts_1054 (by decide) ?_
                            refine lv_icmp_ne (tgt := 1063) hx hb dL_acts_1056 (by decide) (fun hc91 => ?_) (fun hc91 => ?_)
                            · replace h := g_if hc91 h
                              cases h
                            · replace h := g_it hc91 h
                              refine lv_iconst (v := (1 : Int32)) hx hb dL_acts_1059 (by decide) ?_
                              refine lv_goto (tgt := 1064) hx hb dL_acts_1060 (by decide) ?_
                              exact hret ((1 : Int32), ke76, lnn77, pm78, ch, tl, nu, le, nx, cmd, pos, rea, cau, xn79, xt, xp80, xr, xw, h81, h82, h83, h84, h85) _ _ _ _ _ (Option.some.inj h) hP hS rfl rfl dL_acts_1064
                      refine lv_if_ne (tgt := 1031) hx hb dL_acts_1021 (by decide) (fun hc50 => ?_) (fun hc50 => ?_)
                      · replace h := g_if hc50 h
                        refine lv_aload_n hx hb dL_acts_1031 rfl (lv_at hl 1 rfl) ?_
                        obtain ⟨r52, lnn_54, pm_56, xn_58, h0_60, h1_62, h2_64, h3_66, h4_68, hc69, h⟩ := bd9_s h
                        refine g_callBi (As := []) (rest := []) (r := r52) (bs1 := [[(g0, .inr (6, [.ref (an 0), .ref (au 0), .ref (ap 0), .ref q0, .ref x0, .ref r0, .int ke]))], [(q0, .inr (0, [.ref q1, .int lnn_54]))], wHa E q1 ba pm_56, wTx E x0 x1 x2 ch tl nu le nx, [(r0, .inr (3, [.ref (ar 0), .ref (aw 0), .int cmd, .int pos, .int rea, .int cau]))], wHuT E an xn_58, wHuT E au xt, wHuT E ap xp, wHuT E ar xr, wHuT E aw xw, wHuT E (ba 0) h0_60, wHuT E (ba 1) h1_62, wHuT E (ba 2) h2_64, wHuT E (ba 3) h3_66, wHuT E (ba 4) h4_68]) ⟨hx, hb, hml, hown, hts⟩ (kX6_restore E l g0 q0 q1 x0 x1 x2 r0 an au ap ar aw ba ke lnn pm ch tl nu le nx cmd pos rea cau xn xt xp xr xw h0 h1 h2 h3 h4 (r52, lnn_54, pm_56, xn_58, h0_60, h1_62, h2_64, h3_66, h4_68) hc69) (cwV 0 hts gL_acts_X6_restore rfl rfl rfl (by decide +kernel) ⟨Nat.le_of_ble_eq_true rfl, Nat.le_of_ble_eq_true rfl⟩) hK hP hD hS hA hG hl [0, 1, 2, 3, 4, 5, 6, 7, 8, 9, 10, 11, 12, 13, 14] 0 0 (by decide) rfl (ci := 6) rfl rfl rfl rfl rfl rfl rfl rfl rfl rfl (Nat.le_of_ble_eq_true rfl) dL_acts_1032 (Nat.zero_le _) (Nat.zero_le _) (fun H locs hP hD hS => ?_)
                        exact hJ_J51 ke lnn_54 pm_56 xn_58 xp h0_60 h1_62 h2_64 h3_66 h4_68 r52 _ _ _ hP hS (lv_sub hl [0, 1] rfl) h
                      · replace h := g_it hc50 h
                        refine lv_aload_n hx hb dL_acts_1024 rfl (lv_at hl 1 rfl) ?_
                        obtain ⟨r70, ke_72, xp_74, hc75, h⟩ := bd3_s h
                        refine g_callBi (As := []) (rest := []) (r := r70) (bs1 := [[(g0, .inr (6, [.ref (an 0), .ref (au 0), .ref (ap 0), .ref q0, .ref x0, .ref r0, .int ke_72]))], [(q0, .inr (0, [.ref q1, .int lnn]))], wHa E q1 ba pm, wTx E x0 x1 x2 ch tl nu le nx, [(r0, .inr (3, [.ref (ar 0), .ref (aw 0), .int cmd, .int pos, .int rea, .int cau]))], wHuT E an xn, wHuT E au xt, wHuT E ap xp_74, wHuT E ar xr, wHuT E aw xw, wHuT E (ba 0) h0, wHuT E (ba 1) h1, wHuT E (ba 2) h2, wHuT E (ba 3) h3, wHuT E (ba 4) h4]) ⟨hx, hb, hml, hown, hts⟩ (kX6_keep E l g0 q0 q1 x0 x1 x2 r0 an au ap ar aw ba ke lnn pm ch tl nu le nx cmd pos rea cau xn xt xp xr xw h0 h1 h2 h3 h4 (r70, ke_72, xp_74) hc75) (cwV 0 hts gL_acts_X6_keep rfl rfl rfl (by decide +kernel) ⟨Nat.le_of_ble_eq_true rfl, Nat.le_of_ble_eq_true rfl⟩) hK hP hD hS hA hG hl [0, 1, 2, 3, 4, 5, 6, 7, 8, 9, 10, 11, 12, 13, 14] 0 0 (by decide) rfl (ci := 6) rfl rfl rfl rfl rfl rfl rfl rfl rfl rfl (Nat.le_of_ble_eq_true rfl) dL_acts_1025 (Nat.zero_le _) (Nat.zero_le _) (fun H locs hP hD hS => ?_)
                        refine lv_goto (tgt := 1035) hx hb dL_acts_1028 (by decide) ?_
                        exact hJ_J51 ke_72 lnn pm xn xp_74 h0 h1 h2 h3 h4 r70 _ _ _ hP hS (lv_sub hl [0, 1] rfl) h
                    refine lv_icmp_ne (tgt := 1013) hx hb dL_acts_1006 (by decide) (fun hc45 => ?_) (fun hc45 => ?_)
                    · replace h := g_if hc45 h
                      refine lv_iconst (v := (0 : Int32)) hx hb dL_acts_1013 (by decide) ?_
                      exact hJ_J46 (0 : Int32) _ _ _ hP hS (lv_sub hl [4, 6] rfl) h
                    · replace h := g_it hc45 h
                      refine lv_iconst (v := (1 : Int32)) hx hb dL_acts_1009 (by decide) ?_
                      refine lv_goto (tgt := 1014) hx hb dL_acts_1010 (by decide) ?_
                      exact hJ_J46 (1 : Int32) _ _ _ hP hS (lv_sub hl [4, 6] rfl) h
                · replace h := g_it hc16 h
                  refine lv_iload_n hx hb dL_acts_878 rfl (lv_at hl 6 rfl) ?_
                  refine lv_iconst (v := (5 : Int32)) hx hb dL_acts_879 (by decide) ?_
                  obtain ⟨r92, hc93, h⟩ := bd1_s h
                  refine g_callSBi (As := [.int p3, .int (5 : Int32)]) (rest := []) (r := r92) (bs1 := [[(g0, .inr (6, [.ref (an 0), .ref (au 0), .ref (ap 0), .ref q0, .ref x0, .ref r0, .int ke]))], [(q0, .inr (0, [.ref q1, .int lnn]))], wHa E q1 ba pm, wTx E x0 x1 x2 ch tl nu le nx, [(r0, .inr (3, [.ref (ar 0), .ref (aw 0), .int cmd, .int pos, .int rea, .int cau]))], wHuT E an xn, wHuT E au xt, wHuT E ap xp, wHuT E ar xr, wHuT E aw xw, wHuT E (ba 0) h0, wHuT E (ba 1) h1, wHuT E (ba 2) h2, wHuT E (ba 3) h3, wHuT E (ba 4) h4]) ⟨hx, hb, hml, hown, hts⟩ (kL_low E l p3 (5 : Int32) r92 hc93) (va_cwS 2 hts gL_acts_L_low rfl rfl rfl (by decide +kernel) ⟨Nat.le_of_ble_eq_true rfl, Nat.le_of_ble_eq_true rfl⟩) hK hP hD hS hA hG hl [] (by decide) rfl rfl rfl rfl rfl rfl rfl (Nat.le_of_ble_eq_true rfl) dL_acts_880 (Nat.zero_le _) (Nat.zero_le _) (fun H locs hP hD hS => ?_)
                  refine lv_istore (lv' := [(7, .int r92), (6, .int r7), (5, .int r5), (4, .int r3), (3, .int r1), (0, .ref g0), (1, .int p2), (2, .int p3)]) hx hb dL_acts_883 hl (by decide) rfl (fun ls hl => ?_)
                  refine lv_iload_n hx hb dL_acts_885 rfl (lv_at hl 7 rfl) ?_
                  refine lv_iconst (v := (3 : Int32)) hx hb dL_acts_886 (by decide) ?_
                  refine lv_ishr hx hb dL_acts_887 ?_
                  refine lv_bipush (v := (13 : Int32)) hx hb dL_acts_888 (by decide) ?_
                  obtain ⟨r94, hc95, h⟩ := bd1_s h
                  refine g_callSBi (As := [.int (p3 >>> ((3 : Int32) &&& 31)), .int (13 : Int32)]) (rest := []) (r := r94) (bs1 := [[(g0, .inr (6, [.ref (an 0), .ref (au 0), .ref (ap 0), .ref q0, .ref x0, .ref r0, .int ke]))], [(q0, .inr (0, [.ref q1, .int lnn]))], wHa E q1 ba pm, wTx E x0 x1 x2 ch tl nu le nx, [(r0, .inr (3, [.ref (ar 0), .ref (aw 0), .int cmd, .int pos, .int rea, .int cau]))], wHuT E an xn, wHuT E au xt, wHuT E ap xp, wHuT E ar xr, wHuT E aw xw, wHuT E (ba 0) h0, wHuT E (ba 1) h1, wHuT E (ba 2) h2, wHuT E (ba 3) h3, wHuT E (ba 4) h4]) ⟨hx, hb, hml, hown, hts⟩ (kL_low E l (p3 >>> ((3 : Int32) &&& 31)) (13 : Int32) r94 hc95) (va_cwS 2 hts gL_acts_L_low rfl rfl rfl (by decide +kernel) ⟨Nat.le_of_ble_eq_true rfl, Nat.le_of_ble_eq_true rfl⟩) hK hP hD hS hA hG hl [] (by decide) rfl rfl rfl rfl rfl rfl rfl (Nat.le_of_ble_eq_true rfl) dL_acts_890 (Nat.zero_le _) (Nat.zero_le _) (fun H locs hP hD hS => ?_)
                  refine lv_istore (lv' := [(8, .int r94), (7, .int r92), (6, .int r7), (5, .int r5), (4, .int r3), (3, .int r1), (0, .ref g0), (1, .int p2), (2, .int p3)]) hx hb dL_acts_893 hl (by decide) rfl (fun ls hl => ?_)
                  refine lv_iload hx hb dL_acts_895 (lv_at hl 1 rfl) ?_
                  refine lv_iconst (v := (4 : Int32)) hx hb dL_acts_897 (by decide) ?_
                  refine mrg_e h (fun J97 hK_J97 h => ?_)
                  have hJ_J97 : ∀ (v100 : Int32) (H : Heap) (locs : List Loc) (ls : Array Slot), va_P E.1 vwCl (List.flatten [[(g0, .inr (6, [.ref (an 0), .ref (au 0), .ref (ap 0), .ref q0, .ref x0, .ref r0, .int ke]))], [(q0, .inr (0, [.ref q1, .int lnn]))], wHa E q1 ba pm, wTx E x0 x1 x2 ch tl nu le nx, [(r0, .inr (3, [.ref (ar 0), .ref (aw 0), .int cmd, .int pos, .int rea, .int cau]))], wHuT E an xn, wHuT E au xt, wHuT E ap xp, wHuT E ar xr, wHuT E aw xw, wHuT E (ba 0) h0, wHuT E (ba 1) h1, wHuT E (ba 2) h2, wHuT E (ba 3) h3, wHuT E (ba 4) h4]) H → va_S A s.heap H locs → lv_has ls 14 [(8, .int r94), (7, .int r92), (0, .ref g0)] → J97 v100 = some res → W p l e ({ frames := 8, cells := 0, slots := 0, locals := 196 } : Room) s m args below meth c H locs 0 0 Q (F0 m 914 ls [.int v100]) := by
                    intro v100 H locs ls hP hS hl h
                    replace hD : va_D A (List.flatten [[(g0, .inr (6, [.ref (an 0), .ref (au 0), .ref (ap 0), .ref q0, .ref x0, .ref r0, .int ke]))], [(q0, .inr (0, [.ref q1, .int lnn]))], wHa E q1 ba pm, wTx E x0 x1 x2 ch tl nu le nx, [(r0, .inr (3, [.ref (ar 0), .ref (aw 0), .int cmd, .int pos, .int rea, .int cau]))], wHuT E an xn, wHuT E au xt, wHuT E ap xp, wHuT E ar xr, wHuT E aw xw, wHuT E (ba 0) h0, wHuT E (ba 1) h1, wHuT E (ba 2) h2, wHuT E (ba 3) h3, wHuT E (ba 4) h4]) := gD_same hD rfl
                    subst hK_J97
                    refine lv_istore (lv' := [(9, .int v100), (8, .int r94), (7, .int r92), (0, .ref g0)]) hx hb dL_acts_914 hl (by decide) rfl (fun ls hl => ?_)
                    refine lv_iload hx hb dL_acts_916 (lv_at hl 2 rfl) ?_
                    refine lv_iconst (v := (4 : Int32)) hx hb dL_acts_918 (by decide) ?_
                    refine mrg_e h (fun J102 hK_J102 h => ?_)
                    have hJ_J102 : ∀ (v111 : Int32) (H : Heap) (locs : List Loc) (ls : Array Slot), va_P E.1 vwCl (List.flatten [[(g0, .inr (6, [.ref (an 0), .ref (au 0), .ref (ap 0), .ref q0, .ref x0, .ref r0, .int ke]))], [(q0, .inr (0, [.ref q1, .int lnn]))], wHa E q1 ba pm, wTx E x0 x1 x2 ch tl nu le nx, [(r0, .inr (3, [.ref (ar 0), .ref (aw 0), .int cmd, .int pos, .int rea, .int cau]))], wHuT E an xn, wHuT E au xt, wHuT E ap xp, wHuT E ar xr, wHuT E aw xw, wHuT E (ba 0) h0, wHuT E (ba 1) h1, wHuT E (ba 2) h2, wHuT E (ba 3) h3, wHuT E (ba 4) h4]) H → va_S A s.heap H locs → lv_has ls 14 [(9, .int v100), (8, .int r94), (7, .int r92), (0, .ref g0)] → J102 v111 = some res → W p l e ({ frames := 8, cells := 0, slots := 0, locals := 196 } : Room) s m args below meth c H locs 0 0 Q (F0 m 963 ls [.int v111]) := by
                      intro v111 H locs ls hP hS hl h
                      replace hD : va_D A (List.flatten [[(g0, .inr (6, [.ref (an 0), .ref (au 0), .ref (ap 0), .ref q0, .ref x0, .ref r0, .int ke]))], [(q0, .inr (0, [.ref q1, .int lnn]))], wHa E q1 ba pm, wTx E x0 x1 x2 ch tl nu le nx, [(r0, .inr (3, [.ref (ar 0), .ref (aw 0), .int cmd, .int pos, .int rea, .int cau]))], wHuT E an xn, wHuT E au xt, wHuT E ap xp, wHuT E ar xr, wHuT E aw xw, wHuT E (ba 0) h0, wHuT E (ba 1) h1, wHuT E (ba 2) h2, wHuT E (ba 3) h3, wHuT E (ba 4) h4]) := gD_same hD rfl
                      subst hK_J102
                      refine lv_istore (lv' := [(10, .int v111), (9, .int v100), (8, .int r94), (7, .int r92), (0, .ref g0)]) hx hb dL_acts_963 hl (by decide) rfl (fun ls hl => ?_)
                      refine lv_aload_n hx hb dL_acts_965 rfl (lv_at hl 4 rfl) ?_
                      refine lv_iload hx hb dL_acts_966 (lv_at hl 3 rfl) ?_
                      refine lv_iload hx hb dL_acts_968 (lv_at hl 2 rfl) ?_
                      obtain ⟨r112, lnn_114, pm_116, xn_118, h0_120, h1_122, h2_124, h3_126, h4_128, hc129, h⟩ := bd9_s h
                      refine g_callBi (As := [.int r92, .int r94]) (rest := []) (r := r112) (bs1 := [[(g0, .inr (6, [.ref (an 0), .ref (au 0), .ref (ap 0), .ref q0, .ref x0, .ref r0, .int ke]))], [(q0, .inr (0, [.ref q1, .int lnn_114]))], wHa E q1 ba pm_116, wTx E x0 x1 x2 ch tl nu le nx, [(r0, .inr (3, [.ref (ar 0), .ref (aw 0), .int cmd, .int pos, .int rea, .int cau]))], wHuT E an xn_118, wHuT E au xt, wHuT E ap xp, wHuT E ar xr, wHuT E aw xw, wHuT E (ba 0) h0_120, wHuT E (ba 1) h1_122, wHuT E (ba 2) h2_124, wHuT E (ba 3) h3_126, wHuT E (ba 4) h4_128]) ⟨hx, hb, hml, hown, hts⟩ (kX6_set E l g0 q0 q1 x0 x1 x2 r0 an au ap ar aw ba ke lnn pm ch tl nu le nx cmd pos rea cau xn xt xp xr xw h0 h1 h2 h3 h4 r92 r94 (r112, lnn_114, pm_116, xn_118, h0_120, h1_122, h2_124, h3_126, h4_128) hc129) (cwV 2 hts gL_acts_X6_set rfl rfl rfl (by decide +kernel) ⟨Nat.le_of_ble_eq_true rfl, Nat.le_of_ble_eq_true rfl⟩) hK hP hD hS hA hG hl [0, 1, 2, 3, 4, 5, 6, 7, 8, 9, 10, 11, 12, 13, 14] 0 0 (by decide) rfl (ci := 6) rfl rfl rfl rfl rfl rfl rfl rfl rfl rfl (Nat.le_of_ble_eq_true rfl) dL_acts_970 (Nat.zero_le _) (Nat.zero_le _) (fun H locs hP hD hS => ?_)
                      refine lv_iload hx hb dL_acts_973 (lv_at hl 0 rfl) ?_
                      refine mrg_e h (fun J131 hK_J131 h => ?_)
                      have hJ_J131 : ∀ (v132 : Int32) (H : Heap) (locs : List Loc) (ls : Array Slot), va_P E.1 vwCl (List.flatten [[(g0, .inr (6, [.ref (an 0), .ref (au 0), .ref (ap 0), .ref q0, .ref x0, .ref r0, .int ke]))], [(q0, .inr (0, [.ref q1, .int lnn_114]))], wHa E q1 ba pm_116, wTx E x0 x1 x2 ch tl nu le nx, [(r0, .inr (3, [.ref (ar 0), .ref (aw 0), .int cmd, .int pos, .int rea, .int cau]))], wHuT E an xn_118, wHuT E au xt, wHuT E ap xp, wHuT E ar xr, wHuT E aw xw, wHuT E (ba 0) h0_120, wHuT E (ba 1) h1_122, wHuT E (ba 2) h2_124, wHuT E (ba 3) h3_126, wHuT E (ba 4) h4_128]) H → va_S A s.heap H locs → lv_has ls 14 [] → J131 v132 = some res → W p l e ({ frames := 8, cells := 0, slots := 0, locals := 196 } : Room) s m args below meth c H locs 0 0 Q (F0 m 984 ls [.int v132, .int r112]) := by
                        intro v132 H locs ls hP hS hl h
                        replace hD : va_D A (List.flatten [[(g0, .inr (6, [.ref (an 0), .ref (au 0), .ref (ap 0), .ref q0, .ref x0, .ref r0, .int ke]))], [(q0, .inr (0, [.ref q1, .int lnn_114]))], wHa E q1 ba pm_116, wTx E x0 x1 x2 ch tl nu le nx, [(r0, .inr (3, [.ref (ar 0), .ref (aw 0), .int cmd, .int pos, .int rea, .int cau]))], wHuT E an xn_118, wHuT E au xt, wHuT E ap xp, wHuT E ar xr, wHuT E aw xw, wHuT E (ba 0) h0_120, wHuT E (ba 1) h1_122, wHuT E (ba 2) h2_124, wHuT E (ba 3) h3_126, wHuT E (ba 4) h4_128]) := gD_same hD rfl
                        subst hK_J131
                        refine lv_icmp_ne (tgt := 991) hx hb dL_acts_984 (by decide) (fun hc133 => ?_) (fun hc133 => ?_)
                        · replace h := g_if hc133 h
                          cases h
                        · replace h := g_it hc133 h
                          refine lv_iconst (v := (1 : Int32)) hx hb dL_acts_987 (by decide) ?_
                          refine lv_goto (tgt := 992) hx hb dL_acts_988 (by decide) ?_
                          exact hret ((1 : Int32), ke, lnn_114, pm_116, ch, tl, nu, le, nx, cmd, pos, rea, cau, xn_118, xt, xp, xr, xw, h0_120, h1_122, h2_124, h3_126, h4_128) _ _ _ _ _ (Option.some.inj h) hP hS rfl rfl dL_acts_992
                      refine lv_if_eq (tgt := 982) hx hb dL_acts_975 (by decide) (fun hc130 => ?_) (fun hc130 => ?_)
                      · replace h := g_it hc130 h
                        refine lv_iload hx hb dL_acts_982 (lv_at hl 1 rfl) ?_
                        exact hJ_J131 v100 _ _ _ hP hS (lv_sub hl [] rfl) h
                      · replace h := g_if hc130 h
                        refine lv_iconst (v := (-1 : Int32)) hx hb dL_acts_978 (by decide) ?_
                        refine lv_goto (tgt := 984) hx hb dL_acts_979 (by decide) ?_
                        exact hJ_J131 (-1 : Int32) _ _ _ hP hS (lv_sub hl [] rfl) h
                    refine lv_icmp_eq (tgt := 958) hx hb dL_acts_919 (by decide) (fun hc101 => ?_) (fun hc101 => ?_)
                    · replace h := g_it hc101 h
                      refine lv_iconst (v := (1 : Int32)) hx hb dL_acts_958 (by decide) ?_
                      refine lv_goto (tgt := 963) hx hb dL_acts_959 (by decide) ?_
                      exact hJ_J102 (1 : Int32) _ _ _ hP hS (lv_sub hl [0, 1, 2, 3] rfl) h
                    · replace h := g_if hc101 h
                      refine lv_iload hx hb dL_acts_922 (lv_at hl 1 rfl) ?_
                      refine mrg_e h (fun J104 hK_J104 h => ?_)
                      have hJ_J104 : ∀ (_ : Unit) (H : Heap) (locs : List Loc) (ls : Array Slot), va_P E.1 vwCl (List.flatten [[(g0, .inr (6, [.ref (an 0), .ref (au 0), .ref (ap 0), .ref q0, .ref x0, .ref r0, .int ke]))], [(q0, .inr (0, [.ref q1, .int lnn]))], wHa E q1 ba pm, wTx E x0 x1 x2 ch tl nu le nx, [(r0, .inr (3, [.ref (ar 0), .ref (aw 0), .int cmd, .int pos, .int rea, .int cau]))], wHuT E an xn, wHuT E au xt, wHuT E ap xp, wHuT E ar xr, wHuT E aw xw, wHuT E (ba 0) h0, wHuT E (ba 1) h1, wHuT E (ba 2) h2, wHuT E (ba 3) h3, wHuT E (ba 4) h4]) H → va_S A s.heap H locs → lv_has ls 14 [(9, .int v100), (8, .int r94), (7, .int r92), (0, .ref g0)] → J104 () = some res → W p l e ({ frames := 8, cells := 0, slots := 0, locals := 196 } : Room) s m args below meth c H locs 0 0 Q (F0 m 933 ls []) := by
                        intro _ H locs ls hP hS hl h
                        replace hD : va_D A (List.flatten [[(g0, .inr (6, [.ref (an 0), .ref (au 0), .ref (ap 0), .ref q0, .ref x0, .ref r0, .int ke]))], [(q0, .inr (0, [.ref q1, .int lnn]))], wHa E q1 ba pm, wTx E x0 x1 x2 ch tl nu le nx, [(r0, .inr (3, [.ref (ar 0), .ref (aw 0), .int cmd, .int pos, .int rea, .int cau]))], wHuT E an xn, wHuT E au xt, wHuT E ap xp, wHuT E ar xr, wHuT E aw xw, wHuT E (ba 0) h0, wHuT E (ba 1) h1, wHuT E (ba 2) h2, wHuT E (ba 3) h3, wHuT E (ba 4) h4]) := gD_same hD rfl
                        subst hK_J104
                        refine lv_iload hx hb dL_acts_933 (lv_at hl 2 rfl) ?_
                        refine lv_iconst (v := (1 : Int32)) hx hb dL_acts_935 (by decide) ?_
                        refine mrg_e h (fun J107 hK_J107 h => ?_)
                        have hJ_J107 : ∀ (_ : Unit) (H : Heap) (locs : List Loc) (ls : Array Slot), va_P E.1 vwCl (List.flatten [[(g0, .inr (6, [.ref (an 0), .ref (au 0), .ref (ap 0), .ref q0, .ref x0, .ref r0, .int ke]))], [(q0, .inr (0, [.ref q1, .int lnn]))], wHa E q1 ba pm, wTx E x0 x1 x2 ch tl nu le nx, [(r0, .inr (3, [.ref (ar 0), .ref (aw 0), .int cmd, .int pos, .int rea, .int cau]))], wHuT E an xn, wHuT E au xt, wHuT E ap xp, wHuT E ar xr, wHuT E aw xw, wHuT E (ba 0) h0, wHuT E (ba 1) h1, wHuT E (ba 2) h2, wHuT E (ba 3) h3, wHuT E (ba 4) h4]) H → va_S A s.heap H locs → lv_has ls 14 [(9, .int v100), (8, .int r94), (7, .int r92), (0, .ref g0)] → J107 () = some res → W p l e ({ frames := 8, cells := 0, slots := 0, locals := 196 } : Room) s m args below meth c H locs 0 0 Q (F0 m 945 ls []) := by
                          intro _ H locs ls hP hS hl h
                          replace hD : va_D A (List.flatten [[(g0, .inr (6, [.ref (an 0), .ref (au 0), .ref (ap 0), .ref q0, .ref x0, .ref r0, .int ke]))], [(q0, .inr (0, [.ref q1, .int lnn]))], wHa E q1 ba pm, wTx E x0 x1 x2 ch tl nu le nx, [(r0, .inr (3, [.ref (ar 0), .ref (aw 0), .int cmd, .int pos, .int rea, .int cau]))], wHuT E an xn, wHuT E au xt, wHuT E ap xp, wHuT E ar xr, wHuT E aw xw, wHuT E (ba 0) h0, wHuT E (ba 1) h1, wHuT E (ba 2) h2, wHuT E (ba 3) h3, wHuT E (ba 4) h4]) := gD_same hD rfl
                          subst hK_J107
                          refine lv_iload hx hb dL_acts_945 (lv_at hl 2 rfl) ?_
                          refine lv_iconst (v := (1 : Int32)) hx hb dL_acts_947 (by decide) ?_
                          refine lv_icmp_le (tgt := 962) hx hb dL_acts_948 (by decide) (fun hc109 => ?_) (fun hc109 => ?_)
                          · replace h := g_it hc109 h
                            refine lv_iconst (v := (0 : Int32)) hx hb dL_acts_962 (by decide) ?_
                            exact hJ_J102 (0 : Int32) _ _ _ hP hS (lv_sub hl [0, 1, 2, 3] rfl) h
                          · replace h := g_if hc109 h
                            refine lv_iload hx hb dL_acts_951 (lv_at hl 1 rfl) ?_
                            refine lv_bipush (v := (9 : Int32)) hx hb dL_acts_953 (by decide) ?_
                            refine lv_icmp_le (tgt := 962) hx hb dL_acts_955 (by decide) (fun hc110 => ?_) (fun hc110 => ?_)
                            · replace h := g_it hc110 h
                              refine lv_iconst (v := (0 : Int32)) hx hb dL_acts_962 (by decide) ?_
                              exact hJ_J102 (0 : Int32) _ _ _ hP hS (lv_sub hl [0, 1, 2, 3] rfl) h
                            · replace h := g_if hc110 h
                              refine lv_iconst (v := (1 : Int32)) hx hb dL_acts_958 (by decide) ?_
                              refine lv_goto (tgt := 963) hx hb dL_acts_959 (by decide) ?_
                              exact hJ_J102 (1 : Int32) _ _ _ hP hS (lv_sub hl [0, 1, 2, 3] rfl) h
                        refine lv_icmp_ne (tgt := 945) hx hb dL_acts_936 (by decide) (fun hc106 => ?_) (fun hc106 => ?_)
                        · replace h := g_if hc106 h
                          exact hJ_J107 () _ _ _ hP hS (lv_sub hl [0, 1, 2, 3] rfl) h
                        · replace h := g_it hc106 h
                          refine lv_iload hx hb dL_acts_939 (lv_at hl 1 rfl) ?_
                          refine lv_iconst (v := (3 : Int32)) hx hb dL_acts_941 (by decide) ?_
                          refine lv_icmp_gt (tgt := 958) hx hb dL_acts_942 (by decide) (fun hc108 => ?_) (fun hc108 => ?_)
                          · replace h := g_it hc108 h
                            refine lv_iconst (v := (1 : Int32)) hx hb dL_acts_958 (by decide) ?_
                            refine lv_goto (tgt := 963) hx hb dL_acts_959 (by decide) ?_
                            exact hJ_J102 (1 : Int32) _ _ _ hP hS (lv_sub hl [0, 1, 2, 3] rfl) h
                          · replace h := g_if hc108 h
                            exact hJ_J107 () _ _ _ hP hS (lv_sub hl [0, 1, 2, 3] rfl) h
                      refine lv_if_ne (tgt := 933) hx hb dL_acts_924 (by decide) (fun hc103 => ?_) (fun hc103 => ?_)
                      · replace h := g_if hc103 h
                        exact hJ_J104 () _ _ _ hP hS (lv_sub hl [0, 1, 2, 3] rfl) h
                      · replace h := g_it hc103 h
                        refine lv_iload hx hb dL_acts_927 (lv_at hl 2 rfl) ?_
                        refine lv_iconst (v := (2 : Int32)) hx hb dL_acts_929 (by decide) ?_
                        refine lv_icmp_lt (tgt := 958) hx hb dL_acts_930 (by decide) (fun hc105 => ?_) (fun hc105 => ?_)
                        · replace h := g_it hc105 h
                          refine lv_iconst (v := (1 : Int32)) hx hb dL_acts_958 (by decide) ?_
                          refine lv_goto (tgt := 963) hx hb dL_acts_959 (by decide) ?_
                          exact hJ_J102 (1 : Int32) _ _ _ hP hS (lv_sub hl [0, 1, 2, 3] rfl) h
                        · replace h := g_if hc105 h
                          exact hJ_J104 () _ _ _ hP hS (lv_sub hl [0, 1, 2, 3] rfl) h
                  refine lv_icmp_ne (tgt := 905) hx hb dL_acts_898 (by decide) (fun hc96 => ?_) (fun hc96 => ?_)
                  · replace h := g_if hc96 h
                    refine lv_aload_n hx hb dL_acts_905 rfl (lv_at hl 6 rfl) ?_
                    refine lv_bipush (v := (20 : Int32)) hx hb dL_acts_906 (by decide) ?_
                    refine lv_iload hx hb dL_acts_908 (lv_at hl 1 rfl) ?_
                    refine lv_iadd hx hb dL_acts_910 ?_
                    obtain ⟨r98, hc99, h⟩ := bd1_s h
                    refine g_callBi (As := [.int ((20 : Int32) + r92)]) (rest := []) (r := r98) (bs1 := [[(g0, .inr (6, [.ref (an 0), .ref (au 0), .ref (ap 0), .ref q0, .ref x0, .ref r0, .int ke]))], [(q0, .inr (0, [.ref q1, .int lnn]))], wHa E q1 ba pm, wTx E x0 x1 x2 ch tl nu le nx, [(r0, .inr (3, [.ref (ar 0), .ref (aw 0), .int cmd, .int pos, .int rea, .int cau]))], wHuT E an xn, wHuT E au xt, wHuT E ap xp, wHuT E ar xr, wHuT E aw xw, wHuT E (ba 0) h0, wHuT E (ba 1) h1, wHuT E (ba 2) h2, wHuT E (ba 3) h3, wHuT E (ba 4) h4]) ⟨hx, hb, hml, hown, hts⟩ (kX6_count E l g0 q0 q1 x0 x1 x2 r0 an au ap ar aw ba ke lnn pm ch tl nu le nx cmd pos rea cau xn xt xp xr xw h0 h1 h2 h3 h4 ((20 : Int32) + r92) r98 hc99) (cwV 1 hts gL_acts_X6_count rfl rfl rfl (by decide +kernel) ⟨Nat.le_of_ble_eq_true rfl, Nat.le_of_ble_eq_true rfl⟩) hK hP hD hS hA hG hl [0, 1, 2, 3, 4, 5, 6, 7, 8, 9, 10, 11, 12, 13, 14] 0 0 (by decide) rfl (ci := 6) rfl rfl rfl rfl rfl rfl rfl rfl rfl rfl (Nat.le_of_ble_eq_true rfl) dL_acts_911 (Nat.zero_le _) (Nat.zero_le _) (fun H locs hP hD hS => ?_)
                    exact hJ_J97 r98 _ _ _ hP hS (lv_sub hl [0, 1, 6] rfl) h
                  · replace h := g_it hc96 h
                    refine lv_iconst (v := (0 : Int32)) hx hb dL_acts_901 (by decide) ?_
                    refine lv_goto (tgt := 914) hx hb dL_acts_902 (by decide) ?_
                    exact hJ_J97 (0 : Int32) _ _ _ hP hS (lv_sub hl [0, 1, 6] rfl) h
              · replace h := g_if hc15 h
                refine lv_iload_n hx hb dL_acts_740 rfl (lv_at hl 6 rfl) ?_
                refine lv_bipush (v := (7 : Int32)) hx hb dL_acts_741 (by decide) ?_
                obtain ⟨r134, hc135, h⟩ := bd1_s h
                refine g_callSBi (As := [.int p3, .int (7 : Int32)]) (rest := []) (r := r134) (bs1 := [[(g0, .inr (6, [.ref (an 0), .ref (au 0), .ref (ap 0), .ref q0, .ref x0, .ref r0, .int ke]))], [(q0, .inr (0, [.ref q1, .int lnn]))], wHa E q1 ba pm, wTx E x0 x1 x2 ch tl nu le nx, [(r0, .inr (3, [.ref (ar 0), .ref (aw 0), .int cmd, .int pos, .int rea, .int cau]))], wHuT E an xn, wHuT E au xt, wHuT E ap xp, wHuT E ar xr, wHuT E aw xw, wHuT E (ba 0) h0, wHuT E (ba 1) h1, wHuT E (ba 2) h2, wHuT E (ba 3) h3, wHuT E (ba 4) h4]) ⟨hx, hb, hml, hown, hts⟩ (kL_low E l p3 (7 : Int32) r134 hc135) (va_cwS 2 hts gL_acts_L_low rfl rfl rfl (by decide +kernel) ⟨Nat.le_of_ble_eq_true rfl, Nat.le_of_ble_eq_true rfl⟩) hK hP hD hS hA hG hl [] (by decide) rfl rfl rfl rfl rfl rfl rfl (Nat.le_of_ble_eq_true rfl) dL_acts_743 (Nat.zero_le _) (Nat.zero_le _) (fun H locs hP hD hS => ?_)
                refine mrg_e h (fun J137 hK_J137 h => ?_)
                have hJ_J137 : ∀ (v142 : Int32) (H : Heap) (locs : List Loc) (ls : Array Slot), va_P E.1 vwCl (List.flatten [[(g0, .inr (6, [.ref (an 0), .ref (au 0), .ref (ap 0), .ref q0, .ref x0, .ref r0, .int ke]))], [(q0, .inr (0, [.ref q1, .int lnn]))], wHa E q1 ba pm, wTx E x0 x1 x2 ch tl nu le nx, [(r0, .inr (3, [.ref (ar 0), .ref (aw 0), .int cmd, .int pos, .int rea, .int cau]))], wHuT E an xn, wHuT E au xt, wHuT E ap xp, wHuT E ar xr, wHuT E aw xw, wHuT E (ba 0) h0, wHuT E (ba 1) h1, wHuT E (ba 2) h2, wHuT E (ba 3) h3, wHuT E (ba 4) h4]) H → va_S A s.heap H locs → lv_has ls 14 [(4, .int r3), (0, .ref g0)] → J137 v142 = some res → W p l e ({ frames := 8, cells := 0, slots := 0, locals := 196 } : Room) s m args below meth c H locs 0 0 Q (F0 m 769 ls [.int v142]) := by
                  intro v142 H locs ls hP hS hl h
                  replace hD : va_D A (List.flatten [[(g0, .inr (6, [.ref (an 0), .ref (au 0), .ref (ap 0), .ref q0, .ref x0, .ref r0, .int ke]))], [(q0, .inr (0, [.ref q1, .int lnn]))], wHa E q1 ba pm, wTx E x0 x1 x2 ch tl nu le nx, [(r0, .inr (3, [.ref (ar 0), .ref (aw 0), .int cmd, .int pos, .int rea, .int cau]))], wHuT E an xn, wHuT E au xt, wHuT E ap xp, wHuT E ar xr, wHuT E aw xw, wHuT E (ba 0) h0, wHuT E (ba 1) h1, wHuT E (ba 2) h2, wHuT E (ba 3) h3, wHuT E (ba 4) h4]) := gD_same hD rfl
                  subst hK_J137
                  refine lv_istore (lv' := [(7, .int v142), (4, .int r3), (0, .ref g0)]) hx hb dL_acts_769 hl (by decide) rfl (fun ls hl => ?_)
                  refine lv_aload_n hx hb dL_acts_771 rfl (lv_at hl 2 rfl) ?_
                  refine lv_bipush (v := (8 : Int32)) hx hb dL_acts_772 (by decide) ?_
                  obtain ⟨r143, hc144, h⟩ := bd1_s h
                  refine g_callBi (As := [.int (8 : Int32)]) (rest := []) (r := r143) (bs1 := [[(g0, .inr (6, [.ref (an 0), .ref (au 0), .ref (ap 0), .ref q0, .ref x0, .ref r0, .int ke]))], [(q0, .inr (0, [.ref q1, .int lnn]))], wHa E q1 ba pm, wTx E x0 x1 x2 ch tl nu le nx, [(r0, .inr (3, [.ref (ar 0), .ref (aw 0), .int cmd, .int pos, .int rea, .int cau]))], wHuT E an xn, wHuT E au xt, wHuT E ap xp, wHuT E ar xr, wHuT E aw xw, wHuT E (ba 0) h0, wHuT E (ba 1) h1, wHuT E (ba 2) h2, wHuT E (ba 3) h3, wHuT E (ba 4) h4]) ⟨hx, hb, hml, hown, hts⟩ (kX6_count E l g0 q0 q1 x0 x1 x2 r0 an au ap ar aw ba ke lnn pm ch tl nu le nx cmd pos rea cau xn xt xp xr xw h0 h1 h2 h3 h4 (8 : Int32) r143 hc144) (cwV 1 hts gL_acts_X6_count rfl rfl rfl (by decide +kernel) ⟨Nat.le_of_ble_eq_true rfl, Nat.le_of_ble_eq_true rfl⟩) hK hP hD hS hA hG hl [0, 1, 2, 3, 4, 5, 6, 7, 8, 9, 10, 11, 12, 13, 14] 0 0 (by decide) rfl (ci := 6) rfl rfl rfl rfl rfl rfl rfl rfl rfl rfl (Nat.le_of_ble_eq_true rfl) dL_acts_774 (Nat.zero_le _) (Nat.zero_le _) (fun H locs hP hD hS => ?_)
                  refine lv_istore (lv' := [(8, .int r143), (7, .int v142), (4, .int r3), (0, .ref g0)]) hx hb dL_acts_777 hl (by decide) rfl (fun ls hl => ?_)
                  refine lv_aload_n hx hb dL_acts_779 rfl (lv_at hl 3 rfl) ?_
                  refine lv_iload hx hb dL_acts_780 (lv_at hl 1 rfl) ?_
                  obtain ⟨r145, lnn_147, pm_149, xn_151, h0_153, h1_155, h2_157, h3_159, h4_161, hc162, h⟩ := bd9_s h
                  refine g_callBi (As := [.int v142]) (rest := []) (r := r145) (bs1 := [[(g0, .inr (6, [.ref (an 0), .ref (au 0), .ref (ap 0), .ref q0, .ref x0, .ref r0, .int ke]))], [(q0, .inr (0, [.ref q1, .int lnn_147]))], wHa E q1 ba pm_149, wTx E x0 x1 x2 ch tl nu le nx, [(r0, .inr (3, [.ref (ar 0), .ref (aw 0), .int cmd, .int pos, .int rea, .int cau]))], wHuT E an xn_151, wHuT E au xt, wHuT E ap xp, wHuT E ar xr, wHuT E aw xw, wHuT E (ba 0) h0_153, wHuT E (ba 1) h1_155, wHuT E (ba 2) h2_157, wHuT E (ba 3) h3_159, wHuT E (ba 4) h4_161]) ⟨hx, hb, hml, hown, hts⟩ (kX6_sleep E l g0 q0 q1 x0 x1 x2 r0 an au ap ar aw ba ke lnn pm ch tl nu le nx cmd pos rea cau xn xt xp xr xw h0 h1 h2 h3 h4 v142 (r145, lnn_147, pm_149, xn_151, h0_153, h1_155, h2_157, h3_159, h4_161) hc162) (cwV 1 hts gL_acts_X6_sleep rfl rfl rfl (by decide +kernel) ⟨Nat.le_of_ble_eq_true rfl, Nat.le_of_ble_eq_true rfl⟩) hK hP hD hS hA hG hl [0, 1, 2, 3, 4, 5, 6, 7, 8, 9, 10, 11, 12, 13, 14] 0 0 (by decide) rfl (ci := 6) rfl rfl rfl rfl rfl rfl rfl rfl rfl rfl (Nat.le_of_ble_eq_true rfl) dL_acts_782 (Nat.zero_le _) (Nat.zero_le _) (fun H locs hP hD hS => ?_)
                  refine lv_istore (lv' := [(9, .int r145), (8, .int r143), (7, .int v142), (4, .int r3), (0, .ref g0)]) hx hb dL_acts_785 hl (by decide) rfl (fun ls hl => ?_)
                  refine lv_iload hx hb dL_acts_787 (lv_at hl 2 rfl) ?_
                  refine mrg_e h (fun J164 hK_J164 h => ?_)
                  have hJ_J164 : ∀ (_ : Unit) (H : Heap) (locs : List Loc) (ls : Array Slot), va_P E.1 vwCl (List.flatten [[(g0, .inr (6, [.ref (an 0), .ref (au 0), .ref (ap 0), .ref q0, .ref x0, .ref r0, .int ke]))], [(q0, .inr (0, [.ref q1, .int lnn_147]))], wHa E q1 ba pm_149, wTx E x0 x1 x2 ch tl nu le nx, [(r0, .inr (3, [.ref (ar 0), .ref (aw 0), .int cmd, .int pos, .int rea, .int cau]))], wHuT E an xn_151, wHuT E au xt, wHuT E ap xp, wHuT E ar xr, wHuT E aw xw, wHuT E (ba 0) h0_153, wHuT E (ba 1) h1_155, wHuT E (ba 2) h2_157, wHuT E (ba 3) h3_159, wHuT E (ba 4) h4_161]) H → va_S A s.heap H locs → lv_has ls 14 [(9, .int r145)] → J164 () = some res → W p l e ({ frames := 8, cells := 0, slots := 0, locals := 196 } : Room) s m args below meth c H locs 0 0 Q (F0 m 799 ls []) := by
                    intro _ H locs ls hP hS hl h
                    replace hD : va_D A (List.flatten [[(g0, .inr (6, [.ref (an 0), .ref (au 0), .ref (ap 0), .ref q0, .ref x0, .ref r0, .int ke]))], [(q0, .inr (0, [.ref q1, .int lnn_147]))], wHa E q1 ba pm_149, wTx E x0 x1 x2 ch tl nu le nx, [(r0, .inr (3, [.ref (ar 0), .ref (aw 0), .int cmd, .int pos, .int rea, .int cau]))], wHuT E an xn_151, wHuT E au xt, wHuT E ap xp, wHuT E ar xr, wHuT E aw xw, wHuT E (ba 0) h0_153, wHuT E (ba 1) h1_155, wHuT E (ba 2) h2_157, wHuT E (ba 3) h3_159, wHuT E (ba 4) h4_161]) := gD_same hD rfl
                    subst hK_J164
                    refine lv_iload hx hb dL_acts_799 (lv_at hl 0 rfl) ?_
                    refine lv_iconst (v := (-1 : Int32)) hx hb dL_acts_801 (by decide) ?_
                    refine lv_icmp_ne (tgt := 809) hx hb dL_acts_802 (by decide) (fun hc174 => ?_) (fun hc174 => ?_)
                    · replace h := g_if hc174 h
                      cases h
                    · replace h := g_it hc174 h
                      refine lv_iconst (v := (1 : Int32)) hx hb dL_acts_805 (by decide) ?_
                      refine lv_goto (tgt := 871) hx hb dL_acts_806 (by decide) ?_
                      exact hret ((1 : Int32), ke, lnn_147, pm_149, ch, tl, nu, le, nx, cmd, pos, rea, cau, xn_151, xt, xp, xr, xw, h0_153, h1_155, h2_157, h3_159, h4_161) _ _ _ _ _ (Option.some.inj h) hP hS rfl rfl dL_acts_871
                  refine lv_if_eq (tgt := 799) hx hb dL_acts_789 (by decide) (fun hc163 => ?_) (fun hc163 => ?_)
                  · replace h := g_it hc163 h
                    exact hJ_J164 () _ _ _ hP hS (lv_sub hl [0] rfl) h
                  · replace h := g_if hc163 h
                    refine lv_iload hx hb dL_acts_792 (lv_at hl 2 rfl) ?_
                    refine lv_bipush (v := (61 : Int32)) hx hb dL_acts_794 (by decide) ?_
                    refine lv_icmp_ne (tgt := 813) hx hb dL_acts_796 (by decide) (fun hc165 => ?_) (fun hc165 => ?_)
                    · replace h := g_if hc165 h
                      refine lv_iload hx hb dL_acts_813 (lv_at hl 3 rfl) ?_
                      refine lv_iload hx hb dL_acts_815 (lv_at hl 2 rfl) ?_
                      refine lv_iadd hx hb dL_acts_817 ?_
                      refine lv_sipush (v := (365 : Int32)) hx hb dL_acts_818 (by decide) ?_
                      refine lv_icmp_le (tgt := 839) hx hb dL_acts_821 (by decide) (fun hc166 => ?_) (fun hc166 => ?_)
                      · replace h := g_it hc166 h
                        refine lv_iload hx hb dL_acts_839 (lv_at hl 0 rfl) ?_
                        refine lv_aload_n hx hb dL_acts_841 rfl (lv_at hl 4 rfl) ?_
                        refine lv_bipush (v := (8 : Int32)) hx hb dL_acts_842 (by decide) ?_
                        obtain ⟨r167, hc168, h⟩ := bd1_s h
                        refine g_callBi (As := [.int (8 : Int32)]) (rest := [.int r145]) (r := r167) (bs1 := [[(g0, .inr (6, [.ref (an 0), .ref (au 0), .ref (ap 0), .ref q0, .ref x0, .ref r0, .int ke]))], [(q0, .inr (0, [.ref q1, .int lnn_147]))], wHa E q1 ba pm_149, wTx E x0 x1 x2 ch tl nu le nx, [(r0, .inr (3, [.ref (ar 0), .ref (aw 0), .int cmd, .int pos, .int rea, .int cau]))], wHuT E an xn_151, wHuT E au xt, wHuT E ap xp, wHuT E ar xr, wHuT E aw xw, wHuT E (ba 0) h0_153, wHuT E (ba 1) h1_155, wHuT E (ba 2) h2_157, wHuT E (ba 3) h3_159, wHuT E (ba 4) h4_161]) ⟨hx, hb, hml, hown, hts⟩ (kX6_count E l g0 q0 q1 x0 x1 x2 r0 an au ap ar aw ba ke lnn_147 pm_149 ch tl nu le nx cmd pos rea cau xn_151 xt xp xr xw h0_153 h1_155 h2_157 h3_159 h4_161 (8 : Int32) r167 hc168) (cwV 1 hts gL_acts_X6_count rfl rfl rfl (by decide +kernel) ⟨Nat.le_of_ble_eq_true rfl, Nat.le_of_ble_eq_true rfl⟩) hK hP hD hS hA hG hl [0, 1, 2, 3, 4, 5, 6, 7, 8, 9, 10, 11, 12, 13, 14] 0 0 (by decide) rfl (ci := 6) rfl rfl rfl rfl rfl rfl rfl rfl rfl rfl (Nat.le_of_ble_eq_true rfl) dL_acts_844 (Nat.zero_le _) (Nat.zero_le _) (fun H locs hP hD hS => ?_)
                        refine lv_iload hx hb dL_acts_847 (lv_at hl 1 rfl) ?_
                        refine lv_isub hx hb dL_acts_849 ?_
                        refine lv_icmp_ne (tgt := 870) hx hb dL_acts_850 (by decide) (fun hc169 => ?_) (fun hc169 => ?_)
                        · replace h := g_if hc169 h
                          cases h
                        · replace h := g_it hc169 h
                          refine lv_aload_n hx hb dL_acts_853 rfl (lv_at hl 4 rfl) ?_
                          refine lv_iconst (v := (4 : Int32)) hx hb dL_acts_854 (by decide) ?_
                          obtain ⟨r170, hc171, h⟩ := bd1_s h
                          refine g_callBi (As := [.int (4 : Int32)]) (rest := []) (r := r170) (bs1 := [[(g0, .inr (6, [.ref (an 0), .ref (au 0), .ref (ap 0), .ref q0, .ref x0, .ref r0, .int ke]))], [(q0, .inr (0, [.ref q1, .int lnn_147]))], wHa E q1 ba pm_149, wTx E x0 x1 x2 ch tl nu le nx, [(r0, .inr (3, [.ref (ar 0), .ref (aw 0), .int cmd, .int pos, .int rea, .int cau]))], wHuT E an xn_151, wHuT E au xt, wHuT E ap xp, wHuT E ar xr, wHuT E aw xw, wHuT E (ba 0) h0_153, wHuT E (ba 1) h1_155, wHuT E (ba 2) h2_157, wHuT E (ba 3) h3_159, wHuT E (ba 4) h4_161]) ⟨hx, hb, hml, hown, hts⟩ (kX6_count E l g0 q0 q1 x0 x1 x2 r0 an au ap ar aw ba ke lnn_147 pm_149 ch tl nu le nx cmd pos rea cau xn_151 xt xp xr xw h0_153 h1_155 h2_157 h3_159 h4_161 (4 : Int32) r170 hc171) (cwV 1 hts gL_acts_X6_count rfl rfl rfl (by decide +kernel) ⟨Nat.le_of_ble_eq_true rfl, Nat.le_of_ble_eq_true rfl⟩) hK hP hD hS hA hG hl [0, 1, 2, 3, 4, 5, 6, 7, 8, 9, 10, 11, 12, 13, 14] 0 0 (by decide) rfl (ci := 6) rfl rfl rfl rfl rfl rfl rfl rfl rfl rfl (Nat.le_of_ble_eq_true rfl) dL_acts_855 (Nat.zero_le _) (Nat.zero_le _) (fun H locs hP hD hS => ?_)
                          refine lv_iload hx hb dL_acts_858 (lv_at hl 3 rfl) ?_
                          refine lv_iload hx hb dL_acts_860 (lv_at hl 2 rfl) ?_
                          refine lv_iadd hx hb dL_acts_862 ?_
                          refine lv_icmp_ne (tgt := 870) hx hb dL_acts_863 (by decide) (fun hc172 => ?_) (fun hc172 => ?_)
                          · replace h := g_if hc172 h
                            cases h
                          · replace h := g_it hc172 h
                            refine lv_iconst (v := (1 : Int32)) hx hb dL_acts_866 (by decide) ?_
                            refine lv_goto (tgt := 871) hx hb dL_acts_867 (by decide) ?_
                            exact hret ((1 : Int32), ke, lnn_147, pm_149, ch, tl, nu, le, nx, cmd, pos, rea, cau, xn_151, xt, xp, xr, xw, h0_153, h1_155, h2_157, h3_159, h4_161) _ _ _ _ _ (Option.some.inj h) hP hS rfl rfl dL_acts_871
                      · replace h := g_if hc166 h
                        refine lv_iload hx hb dL_acts_824 (lv_at hl 0 rfl) ?_
                        refine lv_bipush (v := (-3 : Int32)) hx hb dL_acts_826 (by decide) ?_
                        refine lv_icmp_ne (tgt := 835) hx hb dL_acts_828 (by decide) (fun hc173 => ?_) (fun hc173 => ?_)
                        · replace h := g_if hc173 h
                          cases h
                        · replace h := g_it hc173 h
                          refine lv_iconst (v := (1 : Int32)) hx hb dL_acts_831 (by decide) ?_
                          refine lv_goto (tgt := 871) hx hb dL_acts_832 (by decide) ?_
                          exact hret ((1 : Int32), ke, lnn_147, pm_149, ch, tl, nu, le, nx, cmd, pos, rea, cau, xn_151, xt, xp, xr, xw, h0_153, h1_155, h2_157, h3_159, h4_161) _ _ _ _ _ (Option.some.inj h) hP hS rfl rfl dL_acts_871
                    · replace h := g_it hc165 h
                      exact hJ_J164 () _ _ _ hP hS (lv_sub hl [0] rfl) h
                refine lv_if_ne (tgt := 760) hx hb dL_acts_746 (by decide) (fun hc136 => ?_) (fun hc136 => ?_)
                · replace h := g_if hc136 h
                  refine lv_iconst (v := (1 : Int32)) hx hb dL_acts_760 (by decide) ?_
                  refine lv_iload_n hx hb dL_acts_761 rfl (lv_at hl 6 rfl) ?_
                  refine lv_iconst (v := (3 : Int32)) hx hb dL_acts_762 (by decide) ?_
                  refine lv_ishr hx hb dL_acts_763 ?_
                  refine lv_iconst (v := (3 : Int32)) hx hb dL_acts_764 (by decide) ?_
                  obtain ⟨r138, hc139, h⟩ := bd1_s h
                  refine g_callSBi (As := [.int (p3 >>> ((3 : Int32) &&& 31)), .int (3 : Int32)]) (rest := [.int (1 : Int32)]) (r := r138) (bs1 := [[(g0, .inr (6, [.ref (an 0), .ref (au 0), .ref (ap 0), .ref q0, .ref x0, .ref r0, .int ke]))], [(q0, .inr (0, [.ref q1, .int lnn]))], wHa E q1 ba pm, wTx E x0 x1 x2 ch tl nu le nx, [(r0, .inr (3, [.ref (ar 0), .ref (aw 0), .int cmd, .int pos, .int rea, .int cau]))], wHuT E an xn, wHuT E au xt, wHuT E ap xp, wHuT E ar xr, wHuT E aw xw, wHuT E (ba 0) h0, wHuT E (ba 1) h1, wHuT E (ba 2) h2, wHuT E (ba 3) h3, wHuT E (ba 4) h4]) ⟨hx, hb, hml, hown, hts⟩ (kL_low E l (p3 >>> ((3 : Int32) &&& 31)) (3 : Int32) r138 hc139) (va_cwS 2 hts gL_acts_L_low rfl rfl rfl (by decide +kernel) ⟨Nat.le_of_ble_eq_true rfl, Nat.le_of_ble_eq_true rfl⟩) hK hP hD hS hA hG hl [] (by decide) rfl rfl rfl rfl rfl rfl rfl (Nat.le_of_ble_eq_true rfl) dL_acts_765 (Nat.zero_le _) (Nat.zero_le _) (fun H locs hP hD hS => ?_)
                  refine lv_iadd hx hb dL_acts_768 ?_
                  exact hJ_J137 ((1 : Int32) + r138) _ _ _ hP hS (lv_sub hl [2, 4] rfl) h
                · replace h := g_it hc136 h
                  refine lv_iload_n hx hb dL_acts_749 rfl (lv_at hl 6 rfl) ?_
                  refine lv_iconst (v := (3 : Int32)) hx hb dL_acts_750 (by decide) ?_
                  refine lv_ishr hx hb dL_acts_751 ?_
                  refine lv_bipush (v := (62 : Int32)) hx hb dL_acts_752 (by decide) ?_
                  obtain ⟨r140, hc141, h⟩ := bd1_s h
                  refine g_callSBi (As := [.int (p3 >>> ((3 : Int32) &&& 31)), .int (62 : Int32)]) (rest := []) (r := r140) (bs1 := [[(g0, .inr (6, [.ref (an 0), .ref (au 0), .ref (ap 0), .ref q0, .ref x0, .ref r0, .int ke]))], [(q0, .inr (0, [.ref q1, .int lnn]))], wHa E q1 ba pm, wTx E x0 x1 x2 ch tl nu le nx, [(r0, .inr (3, [.ref (ar 0), .ref (aw 0), .int cmd, .int pos, .int rea, .int cau]))], wHuT E an xn, wHuT E au xt, wHuT E ap xp, wHuT E ar xr, wHuT E aw xw, wHuT E (ba 0) h0, wHuT E (ba 1) h1, wHuT E (ba 2) h2, wHuT E (ba 3) h3, wHuT E (ba 4) h4]) ⟨hx, hb, hml, hown, hts⟩ (kL_low E l (p3 >>> ((3 : Int32) &&& 31)) (62 : Int32) r140 hc141) (va_cwS 2 hts gL_acts_L_low rfl rfl rfl (by decide +kernel) ⟨Nat.le_of_ble_eq_true rfl, Nat.le_of_ble_eq_true rfl⟩) hK hP hD hS hA hG hl [] (by decide) rfl rfl rfl rfl rfl rfl rfl (Nat.le_of_ble_eq_true rfl) dL_acts_754 (Nat.zero_le _) (Nat.zero_le _) (fun H locs hP hD hS => ?_)
                  refine lv_goto (tgt := 769) hx hb dL_acts_757 (by decide) ?_
                  exact hJ_J137 r140 _ _ _ hP hS (lv_sub hl [2, 4] rfl) h
            · replace h := g_it hc14 h
              refine lv_iload hx hb dL_acts_646 (lv_at hl 2 rfl) ?_
              refine lv_iload_n hx hb dL_acts_648 rfl (lv_at hl 6 rfl) ?_
              refine lv_bipush (v := (9 : Int32)) hx hb dL_acts_649 (by decide) ?_
              obtain ⟨r175, hc176, h⟩ := bd1_s h
              refine g_callSBi (As := [.int p3, .int (9 : Int32)]) (rest := [.int r3]) (r := r175) (bs1 := [[(g0, .inr (6, [.ref (an 0), .ref (au 0), .ref (ap 0), .ref q0, .ref x0, .ref r0, .int ke]))], [(q0, .inr (0, [.ref q1, .int lnn]))], wHa E q1 ba pm, wTx E x0 x1 x2 ch tl nu le nx, [(r0, .inr (3, [.ref (ar 0), .ref (aw 0), .int cmd, .int pos, .int rea, .int cau]))], wHuT E an xn, wHuT E au xt, wHuT E ap xp, wHuT E ar xr, wHuT E aw xw, wHuT E (ba 0) h0, wHuT E (ba 1) h1, wHuT E (ba 2) h2, wHuT E (ba 3) h3, wHuT E (ba 4) h4]) ⟨hx, hb, hml, hown, hts⟩ (kL_low E l p3 (9 : Int32) r175 hc176) (va_cwS 2 hts gL_acts_L_low rfl rfl rfl (by decide +kernel) ⟨Nat.le_of_ble_eq_true rfl, Nat.le_of_ble_eq_true rfl⟩) hK hP hD hS hA hG hl [] (by decide) rfl rfl rfl rfl rfl rfl rfl (Nat.le_of_ble_eq_true rfl) dL_acts_651 (Nat.zero_le _) (Nat.zero_le _) (fun H locs hP hD hS => ?_)
              refine lv_iadd hx hb dL_acts_654 ?_
              refine lv_iconst (v := (1 : Int32)) hx hb dL_acts_655 (by decide) ?_
              refine lv_isub hx hb dL_acts_656 ?_
              refine lv_topi (fun v177 e_v177 => ?_)
              replace h := jl_s e_v177 h
              refine lv_istore (lv' := [(7, .int v177), (6, .int r7), (5, .int r5), (4, .int r3), (3, .int r1), (0, .ref g0), (1, .int p2), (2, .int p3)]) hx hb dL_acts_657 hl (by decide) rfl (fun ls hl => ?_)
              refine lv_aload_n hx hb dL_acts_659 rfl (lv_at hl 5 rfl) ?_
              refine lv_iconst (v := (5 : Int32)) hx hb dL_acts_660 (by decide) ?_
              obtain ⟨r178, hc179, h⟩ := bd1_s h
              refine g_callBi (As := [.int (5 : Int32)]) (rest := []) (r := r178) (bs1 := [[(g0, .inr (6, [.ref (an 0), .ref (au 0), .ref (ap 0), .ref q0, .ref x0, .ref r0, .int ke]))], [(q0, .inr (0, [.ref q1, .int lnn]))], wHa E q1 ba pm, wTx E x0 x1 x2 ch tl nu le nx, [(r0, .inr (3, [.ref (ar 0), .ref (aw 0), .int cmd, .int pos, .int rea, .int cau]))], wHuT E an xn, wHuT E au xt, wHuT E ap xp, wHuT E ar xr, wHuT E aw xw, wHuT E (ba 0) h0, wHuT E (ba 1) h1, wHuT E (ba 2) h2, wHuT E (ba 3) h3, wHuT E (ba 4) h4]) ⟨hx, hb, hml, hown, hts⟩ (kX6_count E l g0 q0 q1 x0 x1 x2 r0 an au ap ar aw ba ke lnn pm ch tl nu le nx cmd pos rea cau xn xt xp xr xw h0 h1 h2 h3 h4 (5 : Int32) r178 hc179) (cwV 1 hts gL_acts_X6_count rfl rfl rfl (by decide +kernel) ⟨Nat.le_of_ble_eq_true rfl, Nat.le_of_ble_eq_true rfl⟩) hK hP hD hS hA hG hl [0, 1, 2, 3, 4, 5, 6, 7, 8, 9, 10, 11, 12, 13, 14] 0 0 (by decide) rfl (ci := 6) rfl rfl rfl rfl rfl rfl rfl rfl rfl rfl (Nat.le_of_ble_eq_true rfl) dL_acts_661 (Nat.zero_le _) (Nat.zero_le _) (fun H locs hP hD hS => ?_)
              refine lv_istore (lv' := [(8, .int r178), (7, .int v177), (6, .int r7), (5, .int r5), (4, .int r3), (3, .int r1), (0, .ref g0), (1, .int p2), (2, .int p3)]) hx hb dL_acts_664 hl (by decide) rfl (fun ls hl => ?_)
              refine lv_aload_n hx hb dL_acts_666 rfl (lv_at hl 6 rfl) ?_
              refine lv_iload hx hb dL_acts_667 (lv_at hl 1 rfl) ?_
              obtain ⟨r180, lnn_182, pm_184, xn_186, h0_188, h1_190, h2_192, h3_194, h4_196, hc197, h⟩ := bd9_s h
              refine g_callBi (As := [.int v177]) (rest := []) (r := r180) (bs1 := [[(g0, .inr (6, [.ref (an 0), .ref (au 0), .ref (ap 0), .ref q0, .ref x0, .ref r0, .int ke]))], [(q0, .inr (0, [.ref q1, .int lnn_182]))], wHa E q1 ba pm_184, wTx E x0 x1 x2 ch tl nu le nx, [(r0, .inr (3, [.ref (ar 0), .ref (aw 0), .int cmd, .int pos, .int rea, .int cau]))], wHuT E an xn_186, wHuT E au xt, wHuT E ap xp, wHuT E ar xr, wHuT E aw xw, wHuT E (ba 0) h0_188, wHuT E (ba 1) h1_190, wHuT E (ba 2) h2_192, wHuT E (ba 3) h3_194, wHuT E (ba 4) h4_196]) ⟨hx, hb, hml, hown, hts⟩ (kX6_clear E l g0 q0 q1 x0 x1 x2 r0 an au ap ar aw ba ke lnn pm ch tl nu le nx cmd pos rea cau xn xt xp xr xw h0 h1 h2 h3 h4 v177 (r180, lnn_182, pm_184, xn_186, h0_188, h1_190, h2_192, h3_194, h4_196) hc197) (cwV 1 hts gL_acts_X6_clear rfl rfl rfl (by decide +kernel) ⟨Nat.le_of_ble_eq_true rfl, Nat.le_of_ble_eq_true rfl⟩) hK hP hD hS hA hG hl [0, 1, 2, 3, 4, 5, 6, 7, 8, 9, 10, 11, 12, 13, 14] 0 0 (by decide) rfl (ci := 6) rfl rfl rfl rfl rfl rfl rfl rfl rfl rfl (Nat.le_of_ble_eq_true rfl) dL_acts_669 (Nat.zero_le _) (Nat.zero_le _) (fun H locs hP hD hS => ?_)
              refine lv_istore (lv' := [(9, .int r180), (8, .int r178), (7, .int v177), (6, .int r7), (5, .int r5), (4, .int r3), (3, .int r1), (0, .ref g0), (1, .int p2), (2, .int p3)]) hx hb dL_acts_672 hl (by decide) rfl (fun ls hl => ?_)
              refine lv_iload hx hb dL_acts_674 (lv_at hl 2 rfl) ?_
              refine lv_iload hx hb dL_acts_676 (lv_at hl 5 rfl) ?_
              refine lv_icmp_ge (tgt := 695) hx hb dL_acts_678 (by decide) (fun hc198 => ?_) (fun hc198 => ?_)
              · replace h := g_it hc198 h
                refine lv_iload hx hb dL_acts_695 (lv_at hl 0 rfl) ?_
                refine lv_if_lt (tgt := 732) hx hb dL_acts_697 (by decide) (fun hc199 => ?_) (fun hc199 => ?_)
                · replace h := g_it hc199 h
                  cases h
                · replace h := g_if hc199 h
                  refine lv_iload hx hb dL_acts_700 (lv_at hl 0 rfl) ?_
                  refine lv_iconst (v := (1 : Int32)) hx hb dL_acts_702 (by decide) ?_
                  refine lv_icmp_gt (tgt := 732) hx hb dL_acts_703 (by decide) (fun hc200 => ?_) (fun hc200 => ?_)
                  · replace h := g_it hc200 h
                    cases h
                  · replace h := g_if hc200 h
                    refine lv_iload hx hb dL_acts_706 (lv_at hl 2 rfl) ?_
                    refine lv_iload hx hb dL_acts_708 (lv_at hl 5 rfl) ?_
                    refine lv_icmp_ne (tgt := 728) hx hb dL_acts_710 (by decide) (fun hc201 => ?_) (fun hc201 => ?_)
                    · replace h := g_if hc201 h
                      refine lv_iconst (v := (1 : Int32)) hx hb dL_acts_728 (by decide) ?_
                      refine lv_goto (tgt := 733) hx hb dL_acts_729 (by decide) ?_
                      exact hret ((1 : Int32), ke, lnn_182, pm_184, ch, tl, nu, le, nx, cmd, pos, rea, cau, xn_186, xt, xp, xr, xw, h0_188, h1_190, h2_192, h3_194, h4_196) _ _ _ _ _ (Option.some.inj h) hP hS rfl rfl dL_acts_733
                    · replace h := g_it hc201 h
                      refine lv_iload hx hb dL_acts_713 (lv_at hl 0 rfl) ?_
                      refine lv_iload hx hb dL_acts_715 (lv_at hl 1 rfl) ?_
                      refine lv_icmp_ne (tgt := 732) hx hb dL_acts_717 (by decide) (fun hc202 => ?_) (fun hc202 => ?_)
                      · replace h := g_if hc202 h
                        cases h
                      · replace h := g_it hc202 h
                        refine lv_aload_n hx hb dL_acts_720 rfl (lv_at hl 7 rfl) ?_
                        refine lv_iconst (v := (5 : Int32)) hx hb dL_acts_721 (by decide) ?_
                        obtain ⟨r203, hc204, h⟩ := bd1_s h
                        refine g_callBi (As := [.int (5 : Int32)]) (rest := []) (r := r203) (bs1 := [[(g0, .inr (6, [.ref (an 0), .ref (au 0), .ref (ap 0), .ref q0, .ref x0, .ref r0, .int ke]))], [(q0, .inr (0, [.ref q1, .int lnn_182]))], wHa E q1 ba pm_184, wTx E x0 x1 x2 ch tl nu le nx, [(r0, .inr (3, [.ref (ar 0), .ref (aw 0), .int cmd, .int pos, .int rea, .int cau]))], wHuT E an xn_186, wHuT E au xt, wHuT E ap xp, wHuT E ar xr, wHuT E aw xw, wHuT E (ba 0) h0_188, wHuT E (ba 1) h1_190, wHuT E (ba 2) h2_192, wHuT E (ba 3) h3_194, wHuT E (ba 4) h4_196]) ⟨hx, hb, hml, hown, hts⟩ (kX6_count E l g0 q0 q1 x0 x1 x2 r0 an au ap ar aw ba ke lnn_182 pm_184 ch tl nu le nx cmd pos rea cau xn_186 xt xp xr xw h0_188 h1_190 h2_192 h3_194 h4_196 (5 : Int32) r203 hc204) (cwV 1 hts gL_acts_X6_count rfl rfl rfl (by decide +kernel) ⟨Nat.le_of_ble_eq_true rfl, Nat.le_of_ble_eq_true rfl⟩) hK hP hD hS hA hG hl [0, 1, 2, 3, 4, 5, 6, 7, 8, 9, 10, 11, 12, 13, 14] 0 0 (by decide) rfl (ci := 6) rfl rfl rfl rfl rfl rfl rfl rfl rfl rfl (Nat.le_of_ble_eq_true rfl) dL_acts_722 (Nat.zero_le _) (Nat.zero_le _) (fun H locs hP hD hS => ?_)
                        refine lv_if_ne (tgt := 732) hx hb dL_acts_725 (by decide) (fun hc205 => ?_) (fun hc205 => ?_)
                        · replace h := g_if hc205 h
                          cases h
                        · replace h := g_it hc205 h
                          refine lv_iconst (v := (1 : Int32)) hx hb dL_acts_728 (by decide) ?_
                          refine lv_goto (tgt := 733) hx hb dL_acts_729 (by decide) ?_
                          exact hret ((1 : Int32), ke, lnn_182, pm_184, ch, tl, nu, le, nx, cmd, pos, rea, cau, xn_186, xt, xp, xr, xw, h0_188, h1_190, h2_192, h3_194, h4_196) _ _ _ _ _ (Option.some.inj h) hP hS rfl rfl dL_acts_733
              · replace h := g_if hc198 h
                refine lv_iload hx hb dL_acts_681 (lv_at hl 0 rfl) ?_
                refine lv_iconst (v := (-1 : Int32)) hx hb dL_acts_683 (by decide) ?_
                refine lv_icmp_ne (tgt := 691) hx hb dL_acts_684 (by decide) (fun hc206 => ?_) (fun hc206 => ?_)
                · replace h := g_if hc206 h
                  cases h
                · replace h := g_it hc206 h
                  refine lv_iconst (v := (1 : Int32)) hx hb dL_acts_687 (by decide) ?_
                  refine lv_goto (tgt := 733) hx hb dL_acts_688 (by decide) ?_
                  exact hret ((1 : Int32), ke, lnn_182, pm_184, ch, tl, nu, le, nx, cmd, pos, rea, cau, xn_186, xt, xp, xr, xw, h0_188, h1_190, h2_192, h3_194, h4_196) _ _ _ _ _ (Option.some.inj h) hP hS rfl rfl dL_acts_733
          · replace h := g_it hc13 h
            refine lv_iload hx hb dL_acts_547 (lv_at hl 2 rfl) ?_
            refine lv_iload_n hx hb dL_acts_549 rfl (lv_at hl 6 rfl) ?_
            refine lv_bipush (v := (12 : Int32)) hx hb dL_acts_550 (by decide) ?_
            obtain ⟨r207, hc208, h⟩ := bd1_s h
            refine g_callSBi (As := [.int p3, .int (12 : Int32)]) (rest := [.int r3]) (r := r207) (bs1 := [[(g0, .inr (6, [.ref (an 0), .ref (au 0), .ref (ap 0), .ref q0, .ref x0, .ref r0, .int ke]))], [(q0, .inr (0, [.ref q1, .int lnn]))], wHa E q1 ba pm, wTx E x0 x1 x2 ch tl nu le nx, [(r0, .inr (3, [.ref (ar 0), .ref (aw 0), .int cmd, .int pos, .int rea, .int cau]))], wHuT E an xn, wHuT E au xt, wHuT E ap xp, wHuT E ar xr, wHuT E aw xw, wHuT E (ba 0) h0, wHuT E (ba 1) h1, wHuT E (ba 2) h2, wHuT E (ba 3) h3, wHuT E (ba 4) h4]) ⟨hx, hb, hml, hown, hts⟩ (kL_low E l p3 (12 : Int32) r207 hc208) (va_cwS 2 hts gL_acts_L_low rfl rfl rfl (by decide +kernel) ⟨Nat.le_of_ble_eq_true rfl, Nat.le_of_ble_eq_true rfl⟩) hK hP hD hS hA hG hl [] (by decide) rfl rfl rfl rfl rfl rfl rfl (Nat.le_of_ble_eq_true rfl) dL_acts_552 (Nat.zero_le _) (Nat.zero_le _) (fun H locs hP hD hS => ?_)
            refine lv_iadd hx hb dL_acts_555 ?_
            refine lv_iconst (v := (1 : Int32)) hx hb dL_acts_556 (by decide) ?_
            refine lv_isub hx hb dL_acts_557 ?_
            refine lv_topi (fun v209 e_v209 => ?_)
            replace h := jl_s e_v209 h
            refine lv_istore (lv' := [(7, .int v209), (6, .int r7), (5, .int r5), (4, .int r3), (3, .int r1), (0, .ref g0), (1, .int p2), (2, .int p3)]) hx hb dL_acts_558 hl (by decide) rfl (fun ls hl => ?_)
            refine lv_iload_n hx hb dL_acts_560 rfl (lv_at hl 7 rfl) ?_
            refine lv_iconst (v := (4 : Int32)) hx hb dL_acts_561 (by decide) ?_
            refine lv_ishr hx hb dL_acts_562 ?_
            refine lv_iconst (v := (5 : Int32)) hx hb dL_acts_563 (by decide) ?_
            obtain ⟨r210, hc211, h⟩ := bd1_s h
            refine g_callSBi (As := [.int (p3 >>> ((4 : Int32) &&& 31)), .int (5 : Int32)]) (rest := []) (r := r210) (bs1 := [[(g0, .inr (6, [.ref (an 0), .ref (au 0), .ref (ap 0), .ref q0, .ref x0, .ref r0, .int ke]))], [(q0, .inr (0, [.ref q1, .int lnn]))], wHa E q1 ba pm, wTx E x0 x1 x2 ch tl nu le nx, [(r0, .inr (3, [.ref (ar 0), .ref (aw 0), .int cmd, .int pos, .int rea, .int cau]))], wHuT E an xn, wHuT E au xt, wHuT E ap xp, wHuT E ar xr, wHuT E aw xw, wHuT E (ba 0) h0, wHuT E (ba 1) h1, wHuT E (ba 2) h2, wHuT E (ba 3) h3, wHuT E (ba 4) h4]) ⟨hx, hb, hml, hown, hts⟩ (kL_low E l (p3 >>> ((4 : Int32) &&& 31)) (5 : Int32) r210 hc211) (va_cwS 2 hts gL_acts_L_low rfl rfl rfl (by decide +kernel) ⟨Nat.le_of_ble_eq_true rfl, Nat.le_of_ble_eq_true rfl⟩) hK hP hD hS hA hG hl [] (by decide) rfl rfl rfl rfl rfl rfl rfl (Nat.le_of_ble_eq_true rfl) dL_acts_564 (Nat.zero_le _) (Nat.zero_le _) (fun H locs hP hD hS => ?_)
            refine lv_istore (lv' := [(8, .int r210), (7, .int v209), (6, .int r7), (5, .int r5), (4, .int r3), (3, .int r1), (0, .ref g0), (1, .int p2), (2, .int p3)]) hx hb dL_acts_567 hl (by decide) rfl (fun ls hl => ?_)
            refine lv_aload_n hx hb dL_acts_569 rfl (lv_at hl 6 rfl) ?_
            refine lv_iload hx hb dL_acts_570 (lv_at hl 1 rfl) ?_
            refine lv_iload hx hb dL_acts_572 (lv_at hl 0 rfl) ?_
            obtain ⟨r212, lnn_214, pm_216, xn_218, h0_220, h1_222, h2_224, h3_226, h4_228, hc229, h⟩ := bd9_s h
            refine g_callBi (As := [.int v209, .int r210]) (rest := []) (r := r212) (bs1 := [[(g0, .inr (6, [.ref (an 0), .ref (au 0), .ref (ap 0), .ref q0, .ref x0, .ref r0, .int ke]))], [(q0, .inr (0, [.ref q1, .int lnn_214]))], wHa E q1 ba pm_216, wTx E x0 x1 x2 ch tl nu le nx, [(r0, .inr (3, [.ref (ar 0), .ref (aw 0), .int cmd, .int pos, .int rea, .int cau]))], wHuT E an xn_218, wHuT E au xt, wHuT E ap xp, wHuT E ar xr, wHuT E aw xw, wHuT E (ba 0) h0_220, wHuT E (ba 1) h1_222, wHuT E (ba 2) h2_224, wHuT E (ba 3) h3_226, wHuT E (ba 4) h4_228]) ⟨hx, hb, hml, hown, hts⟩ (kX6_storm E l g0 q0 q1 x0 x1 x2 r0 an au ap ar aw ba ke lnn pm ch tl nu le nx cmd pos rea cau xn xt xp xr xw h0 h1 h2 h3 h4 v209 r210 (r212, lnn_214, pm_216, xn_218, h0_220, h1_222, h2_224, h3_226, h4_228) hc229) (cwV 2 hts gL_acts_X6_storm rfl rfl rfl (by decide +kernel) ⟨Nat.le_of_ble_eq_true rfl, Nat.le_of_ble_eq_true rfl⟩) hK hP hD hS hA hG hl [0, 1, 2, 3, 4, 5, 6, 7, 8, 9, 10, 11, 12, 13, 14] 0 0 (by decide) rfl (ci := 6) rfl rfl rfl rfl rfl rfl rfl rfl rfl rfl (Nat.le_of_ble_eq_true rfl) dL_acts_574 (Nat.zero_le _) (Nat.zero_le _) (fun H locs hP hD hS => ?_)
            refine lv_istore (lv' := [(9, .int r212), (8, .int r210), (7, .int v209), (6, .int r7), (5, .int r5), (4, .int r3), (3, .int r1), (0, .ref g0), (1, .int p2), (2, .int p3)]) hx hb dL_acts_577 hl (by decide) rfl (fun ls hl => ?_)
            refine lv_iload hx hb dL_acts_579 (lv_at hl 2 rfl) ?_
            refine lv_iload hx hb dL_acts_581 (lv_at hl 5 rfl) ?_
            refine mrg_e h (fun J231 hK_J231 h => ?_)
            have hJ_J231 : ∀ (_ : Unit) (H : Heap) (locs : List Loc) (ls : Array Slot), va_P E.1 vwCl (List.flatten [[(g0, .inr (6, [.ref (an 0), .ref (au 0), .ref (ap 0), .ref q0, .ref x0, .ref r0, .int ke]))], [(q0, .inr (0, [.ref q1, .int lnn_214]))], wHa E q1 ba pm_216, wTx E x0 x1 x2 ch tl nu le nx, [(r0, .inr (3, [.ref (ar 0), .ref (aw 0), .int cmd, .int pos, .int rea, .int cau]))], wHuT E an xn_218, wHuT E au xt, wHuT E ap xp, wHuT E ar xr, wHuT E aw xw, wHuT E (ba 0) h0_220, wHuT E (ba 1) h1_222, wHuT E (ba 2) h2_224, wHuT E (ba 3) h3_226, wHuT E (ba 4) h4_228]) H → va_S A s.heap H locs → lv_has ls 14 [(9, .int r212)] → J231 () = some res → W p l e ({ frames := 8, cells := 0, slots := 0, locals := 196 } : Room) s m args below meth c H locs 0 0 Q (F0 m 599 ls []) := by
              intro _ H locs ls hP hS hl h
              replace hD : va_D A (List.flatten [[(g0, .inr (6, [.ref (an 0), .ref (au 0), .ref (ap 0), .ref q0, .ref x0, .ref r0, .int ke]))], [(q0, .inr (0, [.ref q1, .int lnn_214]))], wHa E q1 ba pm_216, wTx E x0 x1 x2 ch tl nu le nx, [(r0, .inr (3, [.ref (ar 0), .ref (aw 0), .int cmd, .int pos, .int rea, .int cau]))], wHuT E an xn_218, wHuT E au xt, wHuT E ap xp, wHuT E ar xr, wHuT E aw xw, wHuT E (ba 0) h0_220, wHuT E (ba 1) h1_222, wHuT E (ba 2) h2_224, wHuT E (ba 3) h3_226, wHuT E (ba 4) h4_228]) := gD_same hD rfl
              subst hK_J231
              refine lv_iload hx hb dL_acts_599 (lv_at hl 0 rfl) ?_
              refine lv_iconst (v := (-1 : Int32)) hx hb dL_acts_601 (by decide) ?_
              refine lv_icmp_ne (tgt := 609) hx hb dL_acts_602 (by decide) (fun hc238 => ?_) (fun hc238 => ?_)
              · replace h := g_if hc238 h
                cases h
              · replace h := g_it hc238 h
                refine lv_iconst (v := (1 : Int32)) hx hb dL_acts_605 (by decide) ?_
                refine lv_goto (tgt := 639) hx hb dL_acts_606 (by decide) ?_
                exact hret ((1 : Int32), ke, lnn_214, pm_216, ch, tl, nu, le, nx, cmd, pos, rea, cau, xn_218, xt, xp, xr, xw, h0_220, h1_222, h2_224, h3_226, h4_228) _ _ _ _ _ (Option.some.inj h) hP hS rfl rfl dL_acts_639
            refine lv_icmp_lt (tgt := 599) hx hb dL_acts_583 (by decide) (fun hc230 => ?_) (fun hc230 => ?_)
            · replace h := g_it hc230 h
              exact hJ_J231 () _ _ _ hP hS (lv_sub hl [0] rfl) h
            · replace h := g_if hc230 h
              refine lv_iload hx hb dL_acts_586 (lv_at hl 2 rfl) ?_
              refine lv_sipush (v := (365 : Int32)) hx hb dL_acts_588 (by decide) ?_
              refine lv_icmp_gt (tgt := 599) hx hb dL_acts_591 (by decide) (fun hc232 => ?_) (fun hc232 => ?_)
              · replace h := g_it hc232 h
                exact hJ_J231 () _ _ _ hP hS (lv_sub hl [0] rfl) h
              · replace h := g_if hc232 h
                refine lv_iload hx hb dL_acts_594 (lv_at hl 1 rfl) ?_
                refine lv_if_ne (tgt := 613) hx hb dL_acts_596 (by decide) (fun hc233 => ?_) (fun hc233 => ?_)
                · replace h := g_if hc233 h
                  refine lv_iload hx hb dL_acts_613 (lv_at hl 0 rfl) ?_
                  refine lv_iload hx hb dL_acts_615 (lv_at hl 1 rfl) ?_
                  refine mrg_e h (fun J235 hK_J235 h => ?_)
                  have hJ_J235 : ∀ (_ : Unit) (H : Heap) (locs : List Loc) (ls : Array Slot), va_P E.1 vwCl (List.flatten [[(g0, .inr (6, [.ref (an 0), .ref (au 0), .ref (ap 0), .ref q0, .ref x0, .ref r0, .int ke]))], [(q0, .inr (0, [.ref q1, .int lnn_214]))], wHa E q1 ba pm_216, wTx E x0 x1 x2 ch tl nu le nx, [(r0, .inr (3, [.ref (ar 0), .ref (aw 0), .int cmd, .int pos, .int rea, .int cau]))], wHuT E an xn_218, wHuT E au xt, wHuT E ap xp, wHuT E ar xr, wHuT E aw xw, wHuT E (ba 0) h0_220, wHuT E (ba 1) h1_222, wHuT E (ba 2) h2_224, wHuT E (ba 3) h3_226, wHuT E (ba 4) h4_228]) H → va_S A s.heap H locs → lv_has ls 14 [(9, .int r212)] → J235 () = some res → W p l e ({ frames := 8, cells := 0, slots := 0, locals := 196 } : Room) s m args below meth c H locs 0 0 Q (F0 m 627 ls []) := by
                    intro _ H locs ls hP hS hl h
                    replace hD : va_D A (List.flatten [[(g0, .inr (6, [.ref (an 0), .ref (au 0), .ref (ap 0), .ref q0, .ref x0, .ref r0, .int ke]))], [(q0, .inr (0, [.ref q1, .int lnn_214]))], wHa E q1 ba pm_216, wTx E x0 x1 x2 ch tl nu le nx, [(r0, .inr (3, [.ref (ar 0), .ref (aw 0), .int cmd, .int pos, .int rea, .int cau]))], wHuT E an xn_218, wHuT E au xt, wHuT E ap xp, wHuT E ar xr, wHuT E aw xw, wHuT E (ba 0) h0_220, wHuT E (ba 1) h1_222, wHuT E (ba 2) h2_224, wHuT E (ba 3) h3_226, wHuT E (ba 4) h4_228]) := gD_same hD rfl
                    subst hK_J235
                    refine lv_iload hx hb dL_acts_627 (lv_at hl 0 rfl) ?_
                    refine lv_bipush (v := (-3 : Int32)) hx hb dL_acts_629 (by decide) ?_
                    refine lv_icmp_ne (tgt := 638) hx hb dL_acts_631 (by decide) (fun hc237 => ?_) (fun hc237 => ?_)
                    · replace h := g_if hc237 h
                      cases h
                    · replace h := g_it hc237 h
                      refine lv_iconst (v := (1 : Int32)) hx hb dL_acts_634 (by decide) ?_
                      refine lv_goto (tgt := 639) hx hb dL_acts_635 (by decide) ?_
                      exact hret ((1 : Int32), ke, lnn_214, pm_216, ch, tl, nu, le, nx, cmd, pos, rea, cau, xn_218, xt, xp, xr, xw, h0_220, h1_222, h2_224, h3_226, h4_228) _ _ _ _ _ (Option.some.inj h) hP hS rfl rfl dL_acts_639
                  refine lv_icmp_lt (tgt := 627) hx hb dL_acts_617 (by decide) (fun hc234 => ?_) (fun hc234 => ?_)
                  · replace h := g_it hc234 h
                    exact hJ_J235 () _ _ _ hP hS (lv_sub hl [0] rfl) h
                  · replace h := g_if hc234 h
                    refine lv_iload hx hb dL_acts_620 (lv_at hl 0 rfl) ?_
                    refine lv_bipush (v := (40 : Int32)) hx hb dL_acts_622 (by decide) ?_
                    refine lv_icmp_le (tgt := 634) hx hb dL_acts_624 (by decide) (fun hc236 => ?_) (fun hc236 => ?_)
                    · replace h := g_it hc236 h
                      refine lv_iconst (v := (1 : Int32)) hx hb dL_acts_634 (by decide) ?_
                      refine lv_goto (tgt := 639) hx hb dL_acts_635 (by decide) ?_
                      exact hret ((1 : Int32), ke, lnn_214, pm_216, ch, tl, nu, le, nx, cmd, pos, rea, cau, xn_218, xt, xp, xr, xw, h0_220, h1_222, h2_224, h3_226, h4_228) _ _ _ _ _ (Option.some.inj h) hP hS rfl rfl dL_acts_639
                    · replace h := g_if hc236 h
                      exact hJ_J235 () _ _ _ hP hS (lv_sub hl [0] rfl) h
                · replace h := g_it hc233 h
                  exact hJ_J231 () _ _ _ hP hS (lv_sub hl [0] rfl) h
        · replace h := g_it hc12 h
          refine lv_aload_n hx hb dL_acts_474 rfl (lv_at hl 4 rfl) ?_
          refine lv_iconst (v := (1 : Int32)) hx hb dL_acts_475 (by decide) ?_
          obtain ⟨r239, hc240, h⟩ := bd1_s h
          refine g_callBi (As := [.int (1 : Int32)]) (rest := []) (r := r239) (bs1 := [[(g0, .inr (6, [.ref (an 0), .ref (au 0), .ref (ap 0), .ref q0, .ref x0, .ref r0, .int ke]))], [(q0, .inr (0, [.ref q1, .int lnn]))], wHa E q1 ba pm, wTx E x0 x1 x2 ch tl nu le nx, [(r0, .inr (3, [.ref (ar 0), .ref (aw 0), .int cmd, .int pos, .int rea, .int cau]))], wHuT E an xn, wHuT E au xt, wHuT E ap xp, wHuT E ar xr, wHuT E aw xw, wHuT E (ba 0) h0, wHuT E (ba 1) h1, wHuT E (ba 2) h2, wHuT E (ba 3) h3, wHuT E (ba 4) h4]) ⟨hx, hb, hml, hown, hts⟩ (kX6_count E l g0 q0 q1 x0 x1 x2 r0 an au ap ar aw ba ke lnn pm ch tl nu le nx cmd pos rea cau xn xt xp xr xw h0 h1 h2 h3 h4 (1 : Int32) r239 hc240) (cwV 1 hts gL_acts_X6_count rfl rfl rfl (by decide +kernel) ⟨Nat.le_of_ble_eq_true rfl, Nat.le_of_ble_eq_true rfl⟩) hK hP hD hS hA hG hl [0, 1, 2, 3, 4, 5, 6, 7, 8, 9, 10, 11, 12, 13, 14] 0 0 (by decide) rfl (ci := 6) rfl rfl rfl rfl rfl rfl rfl rfl rfl rfl (Nat.le_of_ble_eq_true rfl) dL_acts_476 (Nat.zero_le _) (Nat.zero_le _) (fun H locs hP hD hS => ?_)
          refine lv_istore (lv' := [(7, .int r239), (6, .int r7), (5, .int r5), (4, .int r3), (3, .int r1), (0, .ref g0), (1, .int p2), (2, .int p3)]) hx hb dL_acts_479 hl (by decide) rfl (fun ls hl => ?_)
          refine lv_iload hx hb dL_acts_481 (lv_at hl 1 rfl) ?_
          refine lv_iload hx hb dL_acts_483 (lv_at hl 2 rfl) ?_
          refine mrg_e h (fun J242 hK_J242 h => ?_)
          have hJ_J242 : ∀ (v245 : Int32) (H : Heap) (locs : List Loc) (ls : Array Slot), va_P E.1 vwCl (List.flatten [[(g0, .inr (6, [.ref (an 0), .ref (au 0), .ref (ap 0), .ref q0, .ref x0, .ref r0, .int ke]))], [(q0, .inr (0, [.ref q1, .int lnn]))], wHa E q1 ba pm, wTx E x0 x1 x2 ch tl nu le nx, [(r0, .inr (3, [.ref (ar 0), .ref (aw 0), .int cmd, .int pos, .int rea, .int cau]))], wHuT E an xn, wHuT E au xt, wHuT E ap xp, wHuT E ar xr, wHuT E aw xw, wHuT E (ba 0) h0, wHuT E (ba 1) h1, wHuT E (ba 2) h2, wHuT E (ba 3) h3, wHuT E (ba 4) h4]) H → va_S A s.heap H locs → lv_has ls 14 [(7, .int r239), (6, .int r7), (5, .int r5), (0, .ref g0)] → J242 v245 = some res → W p l e ({ frames := 8, cells := 0, slots := 0, locals := 196 } : Room) s m args below meth c H locs 0 0 Q (F0 m 499 ls [.int v245]) := by
            intro v245 H locs ls hP hS hl h
            replace hD : va_D A (List.flatten [[(g0, .inr (6, [.ref (an 0), .ref (au 0), .ref (ap 0), .ref q0, .ref x0, .ref r0, .int ke]))], [(q0, .inr (0, [.ref q1, .int lnn]))], wHa E q1 ba pm, wTx E x0 x1 x2 ch tl nu le nx, [(r0, .inr (3, [.ref (ar 0), .ref (aw 0), .int cmd, .int pos, .int rea, .int cau]))], wHuT E an xn, wHuT E au xt, wHuT E ap xp, wHuT E ar xr, wHuT E aw xw, wHuT E (ba 0) h0, wHuT E (ba 1) h1, wHuT E (ba 2) h2, wHuT E (ba 3) h3, wHuT E (ba 4) h4]) := gD_same hD rfl
            subst hK_J242
            refine lv_istore (lv' := [(8, .int v245), (7, .int r239), (6, .int r7), (5, .int r5), (0, .ref g0)]) hx hb dL_acts_499 hl (by decide) rfl (fun ls hl => ?_)
            refine lv_aload_n hx hb dL_acts_501 rfl (lv_at hl 4 rfl) ?_
            refine lv_iload hx hb dL_acts_502 (lv_at hl 2 rfl) ?_
            obtain ⟨r246, lnn_248, pm_250, xn_252, h0_254, h1_256, h2_258, h3_260, h4_262, hc263, h⟩ := bd9_s h
            refine g_callBi (As := [.int r7]) (rest := []) (r := r246) (bs1 := [[(g0, .inr (6, [.ref (an 0), .ref (au 0), .ref (ap 0), .ref q0, .ref x0, .ref r0, .int ke]))], [(q0, .inr (0, [.ref q1, .int lnn_248]))], wHa E q1 ba pm_250, wTx E x0 x1 x2 ch tl nu le nx, [(r0, .inr (3, [.ref (ar 0), .ref (aw 0), .int cmd, .int pos, .int rea, .int cau]))], wHuT E an xn_252, wHuT E au xt, wHuT E ap xp, wHuT E ar xr, wHuT E aw xw, wHuT E (ba 0) h0_254, wHuT E (ba 1) h1_256, wHuT E (ba 2) h2_258, wHuT E (ba 3) h3_260, wHuT E (ba 4) h4_262]) ⟨hx, hb, hml, hown, hts⟩ (kX6_cancel E l g0 q0 q1 x0 x1 x2 r0 an au ap ar aw ba ke lnn pm ch tl nu le nx cmd pos rea cau xn xt xp xr xw h0 h1 h2 h3 h4 r7 (r246, lnn_248, pm_250, xn_252, h0_254, h1_256, h2_258, h3_260, h4_262) hc263) (cwV 1 hts gL_acts_X6_cancel rfl rfl rfl (by decide +kernel) ⟨Nat.le_of_ble_eq_true rfl, Nat.le_of_ble_eq_true rfl⟩) hK hP hD hS hA hG hl [0, 1, 2, 3, 4, 5, 6, 7, 8, 9, 10, 11, 12, 13, 14] 0 0 (by decide) rfl (ci := 6) rfl rfl rfl rfl rfl rfl rfl rfl rfl rfl (Nat.le_of_ble_eq_true rfl) dL_acts_504 (Nat.zero_le _) (Nat.zero_le _) (fun H locs hP hD hS => ?_)
            refine lv_iload hx hb dL_acts_507 (lv_at hl 2 rfl) ?_
            refine lv_iload hx hb dL_acts_509 (lv_at hl 3 rfl) ?_
            refine mrg_e h (fun J265 hK_J265 h => ?_)
            have hJ_J265 : ∀ (v267 : Int32) (H : Heap) (locs : List Loc) (ls : Array Slot), va_P E.1 vwCl (List.flatten [[(g0, .inr (6, [.ref (an 0), .ref (au 0), .ref (ap 0), .ref q0, .ref x0, .ref r0, .int ke]))], [(q0, .inr (0, [.ref q1, .int lnn_248]))], wHa E q1 ba pm_250, wTx E x0 x1 x2 ch tl nu le nx, [(r0, .inr (3, [.ref (ar 0), .ref (aw 0), .int cmd, .int pos, .int rea, .int cau]))], wHuT E an xn_252, wHuT E au xt, wHuT E ap xp, wHuT E ar xr, wHuT E aw xw, wHuT E (ba 0) h0_254, wHuT E (ba 1) h1_256, wHuT E (ba 2) h2_258, wHuT E (ba 3) h3_260, wHuT E (ba 4) h4_262]) H → va_S A s.heap H locs → lv_has ls 14 [] → J265 v267 = some res → W p l e ({ frames := 8, cells := 0, slots := 0, locals := 196 } : Room) s m args below meth c H locs 0 0 Q (F0 m 532 ls [.int v267, .int r246]) := by
              intro v267 H locs ls hP hS hl h
              replace hD : va_D A (List.flatten [[(g0, .inr (6, [.ref (an 0), .ref (au 0), .ref (ap 0), .ref q0, .ref x0, .ref r0, .int ke]))], [(q0, .inr (0, [.ref q1, .int lnn_248]))], wHa E q1 ba pm_250, wTx E x0 x1 x2 ch tl nu le nx, [(r0, .inr (3, [.ref (ar 0), .ref (aw 0), .int cmd, .int pos, .int rea, .int cau]))], wHuT E an xn_252, wHuT E au xt, wHuT E ap xp, wHuT E ar xr, wHuT E aw xw, wHuT E (ba 0) h0_254, wHuT E (ba 1) h1_256, wHuT E (ba 2) h2_258, wHuT E (ba 3) h3_260, wHuT E (ba 4) h4_262]) := gD_same hD rfl
              subst hK_J265
              refine lv_icmp_ne (tgt := 539) hx hb dL_acts_532 (by decide) (fun hc268 => ?_) (fun hc268 => ?_)
              · replace h := g_if hc268 h
                cases h
              · replace h := g_it hc268 h
                refine lv_iconst (v := (1 : Int32)) hx hb dL_acts_535 (by decide) ?_
                refine lv_goto (tgt := 540) hx hb dL_acts_536 (by decide) ?_
                exact hret ((1 : Int32), ke, lnn_248, pm_250, ch, tl, nu, le, nx, cmd, pos, rea, cau, xn_252, xt, xp, xr, xw, h0_254, h1_256, h2_258, h3_260, h4_262) _ _ _ _ _ (Option.some.inj h) hP hS rfl rfl dL_acts_540
            refine lv_icmp_ne (tgt := 518) hx hb dL_acts_511 (by decide) (fun hc264 => ?_) (fun hc264 => ?_)
            · replace h := g_if hc264 h
              refine lv_iload hx hb dL_acts_518 (lv_at hl 0 rfl) ?_
              refine lv_if_le (tgt := 528) hx hb dL_acts_520 (by decide) (fun hc266 => ?_) (fun hc266 => ?_)
              · replace h := g_it hc266 h
                refine lv_iload hx hb dL_acts_528 (lv_at hl 1 rfl) ?_
                refine lv_iconst (v := (1 : Int32)) hx hb dL_acts_530 (by decide) ?_
                refine lv_isub hx hb dL_acts_531 ?_
                exact hJ_J265 (r239 - (1 : Int32)) _ _ _ hP hS (lv_sub hl [] rfl) h
              · replace h := g_if hc266 h
                refine lv_bipush (v := (-2 : Int32)) hx hb dL_acts_523 (by decide) ?_
                refine lv_goto (tgt := 532) hx hb dL_acts_525 (by decide) ?_
                exact hJ_J265 (-2 : Int32) _ _ _ hP hS (lv_sub hl [] rfl) h
            · replace h := g_it hc264 h
              refine lv_iconst (v := (-1 : Int32)) hx hb dL_acts_514 (by decide) ?_
              refine lv_goto (tgt := 532) hx hb dL_acts_515 (by decide) ?_
              exact hJ_J265 (-1 : Int32) _ _ _ hP hS (lv_sub hl [] rfl) h
          refine lv_icmp_ge (tgt := 498) hx hb dL_acts_485 (by decide) (fun hc241 => ?_) (fun hc241 => ?_)
          · replace h := g_it hc241 h
            refine lv_iconst (v := (0 : Int32)) hx hb dL_acts_498 (by decide) ?_
            exact hJ_J242 (0 : Int32) _ _ _ hP hS (lv_sub hl [0, 1, 2, 5] rfl) h
          · replace h := g_if hc241 h
            refine lv_aload_n hx hb dL_acts_488 rfl (lv_at hl 5 rfl) ?_
            refine lv_iload hx hb dL_acts_489 (lv_at hl 1 rfl) ?_
            refine lv_iconst (v := (3 : Int32)) hx hb dL_acts_491 (by decide) ?_
            obtain ⟨r243, hc244, h⟩ := bd1_s h
            refine g_callBi (As := [.int r7, .int (3 : Int32)]) (rest := []) (r := r243) (bs1 := [[(g0, .inr (6, [.ref (an 0), .ref (au 0), .ref (ap 0), .ref q0, .ref x0, .ref r0, .int ke]))], [(q0, .inr (0, [.ref q1, .int lnn]))], wHa E q1 ba pm, wTx E x0 x1 x2 ch tl nu le nx, [(r0, .inr (3, [.ref (ar 0), .ref (aw 0), .int cmd, .int pos, .int rea, .int cau]))], wHuT E an xn, wHuT E au xt, wHuT E ap xp, wHuT E ar xr, wHuT E aw xw, wHuT E (ba 0) h0, wHuT E (ba 1) h1, wHuT E (ba 2) h2, wHuT E (ba 3) h3, wHuT E (ba 4) h4]) ⟨hx, hb, hml, hown, hts⟩ (kX6_partyOf E l g0 q0 q1 x0 x1 x2 r0 an au ap ar aw ba ke lnn pm ch tl nu le nx cmd pos rea cau xn xt xp xr xw h0 h1 h2 h3 h4 r7 (3 : Int32) r243 hc244) (cwV 2 hts gL_acts_X6_partyOf rfl rfl rfl (by decide +kernel) ⟨Nat.le_of_ble_eq_true rfl, Nat.le_of_ble_eq_true rfl⟩) hK hP hD hS hA hG hl [0, 1, 2, 3, 4, 5, 6, 7, 8, 9, 10, 11, 12, 13, 14] 0 0 (by decide) rfl (ci := 6) rfl rfl rfl rfl rfl rfl rfl rfl rfl rfl (Nat.le_of_ble_eq_true rfl) dL_acts_492 (Nat.zero_le _) (Nat.zero_le _) (fun H locs hP hD hS => ?_)
            refine lv_goto (tgt := 499) hx hb dL_acts_495 (by decide) ?_
            exact hJ_J242 r243 _ _ _ hP hS (lv_sub hl [0, 1, 2, 5] rfl) h
      · replace h := g_if hc11 h
        refine lv_iload_n hx hb dL_acts_234 rfl (lv_at hl 6 rfl) ?_
        refine lv_bipush (v := (8 : Int32)) hx hb dL_acts_235 (by decide) ?_
        obtain ⟨r269, hc270, h⟩ := bd1_s h
        refine g_callSBi (As := [.int p3, .int (8 : Int32)]) (rest := []) (r := r269) (bs1 := [[(g0, .inr (6, [.ref (an 0), .ref (au 0), .ref (ap 0), .ref q0, .ref x0, .ref r0, .int ke]))], [(q0, .inr (0, [.ref q1, .int lnn]))], wHa E q1 ba pm, wTx E x0 x1 x2 ch tl nu le nx, [(r0, .inr (3, [.ref (ar 0), .ref (aw 0), .int cmd, .int pos, .int rea, .int cau]))], wHuT E an xn, wHuT E au xt, wHuT E ap xp, wHuT E ar xr, wHuT E aw xw, wHuT E (ba 0) h0, wHuT E (ba 1) h1, wHuT E (ba 2) h2, wHuT E (ba 3) h3, wHuT E (ba 4) h4]) ⟨hx, hb, hml, hown, hts⟩ (kL_low E l p3 (8 : Int32) r269 hc270) (va_cwS 2 hts gL_acts_L_low rfl rfl rfl (by decide +kernel) ⟨Nat.le_of_ble_eq_true rfl, Nat.le_of_ble_eq_true rfl⟩) hK hP hD hS hA hG hl [] (by decide) rfl rfl rfl rfl rfl rfl rfl (Nat.le_of_ble_eq_true rfl) dL_acts_237 (Nat.zero_le _) (Nat.zero_le _) (fun H locs hP hD hS => ?_)
        refine lv_istore (lv' := [(7, .int r269), (6, .int r7), (5, .int r5), (4, .int r3), (3, .int r1), (0, .ref g0), (1, .int p2), (2, .int p3)]) hx hb dL_acts_240 hl (by decide) rfl (fun ls hl => ?_)
        refine lv_iload hx hb dL_acts_242 (lv_at hl 3 rfl) ?_
        refine lv_iload_n hx hb dL_acts_244 rfl (lv_at hl 7 rfl) ?_
        refine lv_iconst (v := (3 : Int32)) hx hb dL_acts_245 (by decide) ?_
        refine lv_ishr hx hb dL_acts_246 ?_
        refine lv_bipush (v := (9 : Int32)) hx hb dL_acts_247 (by decide) ?_
        obtain ⟨r271, hc272, h⟩ := bd1_s h
        refine g_callSBi (As := [.int (p3 >>> ((3 : Int32) &&& 31)), .int (9 : Int32)]) (rest := [.int r3]) (r := r271) (bs1 := [[(g0, .inr (6, [.ref (an 0), .ref (au 0), .ref (ap 0), .ref q0, .ref x0, .ref r0, .int ke]))], [(q0, .inr (0, [.ref q1, .int lnn]))], wHa E q1 ba pm, wTx E x0 x1 x2 ch tl nu le nx, [(r0, .inr (3, [.ref (ar 0), .ref (aw 0), .int cmd, .int pos, .int rea, .int cau]))], wHuT E an xn, wHuT E au xt, wHuT E ap xp, wHuT E ar xr, wHuT E aw xw, wHuT E (ba 0) h0, wHuT E (ba 1) h1, wHuT E (ba 2) h2, wHuT E (ba 3) h3, wHuT E (ba 4) h4]) ⟨hx, hb, hml, hown, hts⟩ (kL_low E l (p3 >>> ((3 : Int32) &&& 31)) (9 : Int32) r271 hc272) (va_cwS 2 hts gL_acts_L_low rfl rfl rfl (by decide +kernel) ⟨Nat.le_of_ble_eq_true rfl, Nat.le_of_ble_eq_true rfl⟩) hK hP hD hS hA hG hl [] (by decide) rfl rfl rfl rfl rfl rfl rfl (Nat.le_of_ble_eq_true rfl) dL_acts_249 (Nat.zero_le _) (Nat.zero_le _) (fun H locs hP hD hS => ?_)
        refine lv_iadd hx hb dL_acts_252 ?_
        refine lv_topi (fun v273 e_v273 => ?_)
        replace h := jl_s e_v273 h
        refine lv_istore (lv' := [(8, .int v273), (7, .int r269), (6, .int r7), (5, .int r5), (4, .int r3), (3, .int r1), (0, .ref g0), (1, .int p2), (2, .int p3)]) hx hb dL_acts_253 hl (by decide) rfl (fun ls hl => ?_)
        refine lv_iload_n hx hb dL_acts_255 rfl (lv_at hl 8 rfl) ?_
        refine lv_bipush (v := (7 : Int32)) hx hb dL_acts_256 (by decide) ?_
        refine lv_ishr hx hb dL_acts_258 ?_
        refine lv_bipush (v := (7 : Int32)) hx hb dL_acts_259 (by decide) ?_
        obtain ⟨r274, hc275, h⟩ := bd1_s h
        refine g_callSBi (As := [.int (p3 >>> ((7 : Int32) &&& 31)), .int (7 : Int32)]) (rest := []) (r := r274) (bs1 := [[(g0, .inr (6, [.ref (an 0), .ref (au 0), .ref (ap 0), .ref q0, .ref x0, .ref r0, .int ke]))], [(q0, .inr (0, [.ref q1, .int lnn]))], wHa E q1 ba pm, wTx E x0 x1 x2 ch tl nu le nx, [(r0, .inr (3, [.ref (ar 0), .ref (aw 0), .int cmd, .int pos, .int rea, .int cau]))], wHuT E an xn, wHuT E au xt, wHuT E ap xp, wHuT E ar xr, wHuT E aw xw, wHuT E (ba 0) h0, wHuT E (ba 1) h1, wHuT E (ba 2) h2, wHuT E (ba 3) h3, wHuT E (ba 4) h4]) ⟨hx, hb, hml, hown, hts⟩ (kL_low E l (p3 >>> ((7 : Int32) &&& 31)) (7 : Int32) r274 hc275) (va_cwS 2 hts gL_acts_L_low rfl rfl rfl (by decide +kernel) ⟨Nat.le_of_ble_eq_true rfl, Nat.le_of_ble_eq_true rfl⟩) hK hP hD hS hA hG hl [] (by decide) rfl rfl rfl rfl rfl rfl rfl (Nat.le_of_ble_eq_true rfl) dL_acts_261 (Nat.zero_le _) (Nat.zero_le _) (fun H locs hP hD hS => ?_)
        refine lv_istore (lv' := [(9, .int r274), (8, .int v273), (7, .int r269), (6, .int r7), (5, .int r5), (4, .int r3), (3, .int r1), (0, .ref g0), (1, .int p2), (2, .int p3)]) hx hb dL_acts_264 hl (by decide) rfl (fun ls hl => ?_)
        refine lv_iload hx hb dL_acts_266 (lv_at hl 2 rfl) ?_
        refine mrg_e h (fun J277 hK_J277 h => ?_)
        have hJ_J277 : ∀ (v281 : Int32) (H : Heap) (locs : List Loc) (ls : Array Slot), va_P E.1 vwCl (List.flatten [[(g0, .inr (6, [.ref (an 0), .ref (au 0), .ref (ap 0), .ref q0, .ref x0, .ref r0, .int ke]))], [(q0, .inr (0, [.ref q1, .int lnn]))], wHa E q1 ba pm, wTx E x0 x1 x2 ch tl nu le nx, [(r0, .inr (3, [.ref (ar 0), .ref (aw 0), .int cmd, .int pos, .int rea, .int cau]))], wHuT E an xn, wHuT E au xt, wHuT E ap xp, wHuT E ar xr, wHuT E aw xw, wHuT E (ba 0) h0, wHuT E (ba 1) h1, wHuT E (ba 2) h2, wHuT E (ba 3) h3, wHuT E (ba 4) h4]) H → va_S A s.heap H locs → lv_has ls 14 [(9, .int r274), (8, .int v273), (7, .int r269), (5, .int r5), (0, .ref g0)] → J277 v281 = some res → W p l e ({ frames := 8, cells := 0, slots := 0, locals := 196 } : Room) s m args below meth c H locs 0 0 Q (F0 m 296 ls [.int v281]) := by
          intro v281 H locs ls hP hS hl h
          replace hD : va_D A (List.flatten [[(g0, .inr (6, [.ref (an 0), .ref (au 0), .ref (ap 0), .ref q0, .ref x0, .ref r0, .int ke]))], [(q0, .inr (0, [.ref q1, .int lnn]))], wHa E q1 ba pm, wTx E x0 x1 x2 ch tl nu le nx, [(r0, .inr (3, [.ref (ar 0), .ref (aw 0), .int cmd, .int pos, .int rea, .int cau]))], wHuT E an xn, wHuT E au xt, wHuT E ap xp, wHuT E ar xr, wHuT E aw xw, wHuT E (ba 0) h0, wHuT E (ba 1) h1, wHuT E (ba 2) h2, wHuT E (ba 3) h3, wHuT E (ba 4) h4]) := gD_same hD rfl
          subst hK_J277
          refine lv_istore (lv' := [(10, .int v281), (9, .int r274), (8, .int v273), (7, .int r269), (5, .int r5), (0, .ref g0)]) hx hb dL_acts_296 hl (by decide) rfl (fun ls hl => ?_)
          refine lv_aload_n hx hb dL_acts_298 rfl (lv_at hl 5 rfl) ?_
          refine lv_iload hx hb dL_acts_299 (lv_at hl 2 rfl) ?_
          refine lv_iload hx hb dL_acts_301 (lv_at hl 1 rfl) ?_
          obtain ⟨r282, xt_284, hc285, h⟩ := bd2_s h
          refine g_callBi (As := [.int v273, .int r274]) (rest := []) (r := r282) (bs1 := [[(g0, .inr (6, [.ref (an 0), .ref (au 0), .ref (ap 0), .ref q0, .ref x0, .ref r0, .int ke]))], [(q0, .inr (0, [.ref q1, .int lnn]))], wHa E q1 ba pm, wTx E x0 x1 x2 ch tl nu le nx, [(r0, .inr (3, [.ref (ar 0), .ref (aw 0), .int cmd, .int pos, .int rea, .int cau]))], wHuT E an xn, wHuT E au xt_284, wHuT E ap xp, wHuT E ar xr, wHuT E aw xw, wHuT E (ba 0) h0, wHuT E (ba 1) h1, wHuT E (ba 2) h2, wHuT E (ba 3) h3, wHuT E (ba 4) h4]) ⟨hx, hb, hml, hown, hts⟩ (kX6_most E l g0 q0 q1 x0 x1 x2 r0 an au ap ar aw ba ke lnn pm ch tl nu le nx cmd pos rea cau xn xt xp xr xw h0 h1 h2 h3 h4 v273 r274 (r282, xt_284) hc285) (cwV 2 hts gL_acts_X6_most rfl rfl rfl (by decide +kernel) ⟨Nat.le_of_ble_eq_true rfl, Nat.le_of_ble_eq_true rfl⟩) hK hP hD hS hA hG hl [0, 1, 2, 3, 4, 5, 6, 7, 8, 9, 10, 11, 12, 13, 14] 0 0 (by decide) rfl (ci := 6) rfl rfl rfl rfl rfl rfl rfl rfl rfl rfl (Nat.le_of_ble_eq_true rfl) dL_acts_303 (Nat.zero_le _) (Nat.zero_le _) (fun H locs hP hD hS => ?_)
          refine lv_istore (lv' := [(11, .int r282), (10, .int v281), (9, .int r274), (8, .int v273), (7, .int r269), (5, .int r5), (0, .ref g0)]) hx hb dL_acts_306 hl (by decide) rfl (fun ls hl => ?_)
          refine lv_aload_n hx hb dL_acts_308 rfl (lv_at hl 6 rfl) ?_
          refine lv_iload hx hb dL_acts_309 (lv_at hl 4 rfl) ?_
          refine lv_iload hx hb dL_acts_311 (lv_at hl 3 rfl) ?_
          refine lv_iload hx hb dL_acts_313 (lv_at hl 2 rfl) ?_
          obtain ⟨r286, lnn_288, pm_290, xn_292, xt_294, h0_296, h1_298, h2_300, h3_302, h4_304, hc305, h⟩ := bd10_s h
          refine g_callBi (As := [.int r269, .int v273, .int r274]) (rest := []) (r := r286) (bs1 := [[(g0, .inr (6, [.ref (an 0), .ref (au 0), .ref (ap 0), .ref q0, .ref x0, .ref r0, .int ke]))], [(q0, .inr (0, [.ref q1, .int lnn_288]))], wHa E q1 ba pm_290, wTx E x0 x1 x2 ch tl nu le nx, [(r0, .inr (3, [.ref (ar 0), .ref (aw 0), .int cmd, .int pos, .int rea, .int cau]))], wHuT E an xn_292, wHuT E au xt_294, wHuT E ap xp, wHuT E ar xr, wHuT E aw xw, wHuT E (ba 0) h0_296, wHuT E (ba 1) h1_298, wHuT E (ba 2) h2_300, wHuT E (ba 3) h3_302, wHuT E (ba 4) h4_304]) ⟨hx, hb, hml, hown, hts⟩ (kX6_book E l g0 q0 q1 x0 x1 x2 r0 an au ap ar aw ba ke lnn pm ch tl nu le nx cmd pos rea cau xn xt_284 xp xr xw h0 h1 h2 h3 h4 r269 v273 r274 (r286, lnn_288, pm_290, xn_292, xt_294, h0_296, h1_298, h2_300, h3_302, h4_304) hc305) (cwV 3 hts gL_acts_X6_book rfl rfl rfl (by decide +kernel) ⟨Nat.le_of_ble_eq_true rfl, Nat.le_of_ble_eq_true rfl⟩) hK hP hD hS hA hG hl [0, 1, 2, 3, 4, 5, 6, 7, 8, 9, 10, 11, 12, 13, 14] 0 0 (by decide) rfl (ci := 6) rfl rfl rfl rfl rfl rfl rfl rfl rfl rfl (Nat.le_of_ble_eq_true rfl) dL_acts_315 (Nat.zero_le _) (Nat.zero_le _) (fun H locs hP hD hS => ?_)
          refine lv_istore (lv' := [(12, .int r286), (11, .int r282), (10, .int v281), (9, .int r274), (8, .int v273), (7, .int r269), (5, .int r5), (0, .ref g0)]) hx hb dL_acts_318 hl (by decide) rfl (fun ls hl => ?_)
          refine lv_iload hx hb dL_acts_320 (lv_at hl 4 rfl) ?_
          refine lv_sipush (v := (365 : Int32)) hx hb dL_acts_322 (by decide) ?_
          refine mrg_e h (fun J308 hK_J308 h => ?_)
          have hJ_J308 : ∀ (v315 : Int32) (H : Heap) (locs : List Loc) (ls : Array Slot), va_P E.1 vwCl (List.flatten [[(g0, .inr (6, [.ref (an 0), .ref (au 0), .ref (ap 0), .ref q0, .ref x0, .ref r0, .int ke]))], [(q0, .inr (0, [.ref q1, .int lnn_288]))], wHa E q1 ba pm_290, wTx E x0 x1 x2 ch tl nu le nx, [(r0, .inr (3, [.ref (ar 0), .ref (aw 0), .int cmd, .int pos, .int rea, .int cau]))], wHuT E an xn_292, wHuT E au xt_294, wHuT E ap xp, wHuT E ar xr, wHuT E aw xw, wHuT E (ba 0) h0_296, wHuT E (ba 1) h1_298, wHuT E (ba 2) h2_300, wHuT E (ba 3) h3_302, wHuT E (ba 4) h4_304]) H → va_S A s.heap H locs → lv_has ls 14 [(12, .int r286), (11, .int r282), (10, .int v281), (7, .int r269), (5, .int r5)] → J308 v315 = some res → W p l e ({ frames := 8, cells := 0, slots := 0, locals := 196 } : Room) s m args below meth c H locs 0 0 Q (F0 m 386 ls [.int v315]) := by
            intro v315 H locs ls hP hS hl h
            replace hD : va_D A (List.flatten [[(g0, .inr (6, [.ref (an 0), .ref (au 0), .ref (ap 0), .ref q0, .ref x0, .ref r0, .int ke]))], [(q0, .inr (0, [.ref q1, .int lnn_288]))], wHa E q1 ba pm_290, wTx E x0 x1 x2 ch tl nu le nx, [(r0, .inr (3, [.ref (ar 0), .ref (aw 0), .int cmd, .int pos, .int rea, .int cau]))], wHuT E an xn_292, wHuT E au xt_294, wHuT E ap xp, wHuT E ar xr, wHuT E aw xw, wHuT E (ba 0) h0_296, wHuT E (ba 1) h1_298, wHuT E (ba 2) h2_300, wHuT E (ba 3) h3_302, wHuT E (ba 4) h4_304]) := gD_same hD rfl
            subst hK_J308
            refine lv_istore (lv' := [(13, .int v315), (12, .int r286), (11, .int r282), (10, .int v281), (7, .int r269), (5, .int r5)]) hx hb dL_acts_386 hl (by decide) rfl (fun ls hl => ?_)
            refine lv_iload hx hb dL_acts_388 (lv_at hl 0 rfl) ?_
            refine lv_if_eq (tgt := 466) hx hb dL_acts_390 (by decide) (fun hc316 => ?_) (fun hc316 => ?_)
            · replace h := g_it hc316 h
              cases h
            · replace h := g_if hc316 h
              refine lv_iload hx hb dL_acts_393 (lv_at hl 3 rfl) ?_
              refine lv_if_eq (tgt := 407) hx hb dL_acts_395 (by decide) (fun hc317 => ?_) (fun hc317 => ?_)
              · replace h := g_it hc317 h
                refine lv_iload hx hb dL_acts_407 (lv_at hl 5 rfl) ?_
                refine lv_bipush (v := (16 : Int32)) hx hb dL_acts_409 (by decide) ?_
                refine lv_icmp_ne (tgt := 431) hx hb dL_acts_411 (by decide) (fun hc318 => ?_) (fun hc318 => ?_)
                · replace h := g_if hc318 h
                  refine lv_iload hx hb dL_acts_431 (lv_at hl 1 rfl) ?_
                  refine lv_bipush (v := (-2 : Int32)) hx hb dL_acts_433 (by decide) ?_
                  refine lv_icmp_ne (tgt := 448) hx hb dL_acts_435 (by decide) (fun hc319 => ?_) (fun hc319 => ?_)
                  · replace h := g_if hc319 h
                    refine lv_iload hx hb dL_acts_448 (lv_at hl 1 rfl) ?_
                    refine lv_iload hx hb dL_acts_450 (lv_at hl 5 rfl) ?_
                    refine lv_icmp_ne (tgt := 466) hx hb dL_acts_452 (by decide) (fun hc320 => ?_) (fun hc320 => ?_)
                    · replace h := g_if hc320 h
                      cases h
                    · replace h := g_it hc320 h
                      refine lv_iload hx hb dL_acts_455 (lv_at hl 4 rfl) ?_
                      refine lv_iload hx hb dL_acts_457 (lv_at hl 2 rfl) ?_
                      refine lv_icmp_gt (tgt := 466) hx hb dL_acts_459 (by decide) (fun hc321 => ?_) (fun hc321 => ?_)
                      · replace h := g_it hc321 h
                        cases h
                      · replace h := g_if hc321 h
                        refine lv_iconst (v := (1 : Int32)) hx hb dL_acts_462 (by decide) ?_
                        refine lv_goto (tgt := 467) hx hb dL_acts_463 (by decide) ?_
                        exact hret ((1 : Int32), ke, lnn_288, pm_290, ch, tl, nu, le, nx, cmd, pos, rea, cau, xn_292, xt_294, xp, xr, xw, h0_296, h1_298, h2_300, h3_302, h4_304) _ _ _ _ _ (Option.some.inj h) hP hS rfl rfl dL_acts_467
                  · replace h := g_it hc319 h
                    refine lv_iload hx hb dL_acts_438 (lv_at hl 2 rfl) ?_
                    refine lv_iload hx hb dL_acts_440 (lv_at hl 4 rfl) ?_
                    refine lv_icmp_eq (tgt := 466) hx hb dL_acts_442 (by decide) (fun hc322 => ?_) (fun hc322 => ?_)
                    · replace h := g_it hc322 h
                      cases h
                    · replace h := g_if hc322 h
                      refine lv_goto (tgt := 462) hx hb dL_acts_445 (by decide) ?_
                      refine lv_iconst (v := (1 : Int32)) hx hb dL_acts_462 (by decide) ?_
                      refine lv_goto (tgt := 467) hx hb dL_acts_463 (by decide) ?_
                      exact hret ((1 : Int32), ke, lnn_288, pm_290, ch, tl, nu, le, nx, cmd, pos, rea, cau, xn_292, xt_294, xp, xr, xw, h0_296, h1_298, h2_300, h3_302, h4_304) _ _ _ _ _ (Option.some.inj h) hP hS rfl rfl dL_acts_467
                · replace h := g_it hc318 h
                  refine lv_iload hx hb dL_acts_414 (lv_at hl 1 rfl) ?_
                  refine lv_bipush (v := (-2 : Int32)) hx hb dL_acts_416 (by decide) ?_
                  refine lv_icmp_eq (tgt := 462) hx hb dL_acts_418 (by decide) (fun hc323 => ?_) (fun hc323 => ?_)
                  · replace h := g_it hc323 h
                    refine lv_iconst (v := (1 : Int32)) hx hb dL_acts_462 (by decide) ?_
                    refine lv_goto (tgt := 467) hx hb dL_acts_463 (by decide) ?_
                    exact hret ((1 : Int32), ke, lnn_288, pm_290, ch, tl, nu, le, nx, cmd, pos, rea, cau, xn_292, xt_294, xp, xr, xw, h0_296, h1_298, h2_300, h3_302, h4_304) _ _ _ _ _ (Option.some.inj h) hP hS rfl rfl dL_acts_467
                  · replace h := g_if hc323 h
                    refine lv_iload hx hb dL_acts_421 (lv_at hl 1 rfl) ?_
                    refine lv_bipush (v := (-3 : Int32)) hx hb dL_acts_423 (by decide) ?_
                    refine lv_icmp_ne (tgt := 466) hx hb dL_acts_425 (by decide) (fun hc324 => ?_) (fun hc324 => ?_)
                    · replace h := g_if hc324 h
                      cases h
                    · replace h := g_it hc324 h
                      refine lv_goto (tgt := 462) hx hb dL_acts_428 (by decide) ?_
                      refine lv_iconst (v := (1 : Int32)) hx hb dL_acts_462 (by decide) ?_
                      refine lv_goto (tgt := 467) hx hb dL_acts_463 (by decide) ?_
                      exact hret ((1 : Int32), ke, lnn_288, pm_290, ch, tl, nu, le, nx, cmd, pos, rea, cau, xn_292, xt_294, xp, xr, xw, h0_296, h1_298, h2_300, h3_302, h4_304) _ _ _ _ _ (Option.some.inj h) hP hS rfl rfl dL_acts_467
              · replace h := g_if hc317 h
                refine lv_iload hx hb dL_acts_398 (lv_at hl 1 rfl) ?_
                refine lv_iconst (v := (-1 : Int32)) hx hb dL_acts_400 (by decide) ?_
                refine lv_icmp_ne (tgt := 466) hx hb dL_acts_401 (by decide) (fun hc325 => ?_) (fun hc325 => ?_)
                · replace h := g_if hc325 h
                  cases h
                · replace h := g_it hc325 h
                  refine lv_goto (tgt := 462) hx hb dL_acts_404 (by decide) ?_
                  refine lv_iconst (v := (1 : Int32)) hx hb dL_acts_462 (by decide) ?_
                  refine lv_goto (tgt := 467) hx hb dL_acts_463 (by decide) ?_
                  exact hret ((1 : Int32), ke, lnn_288, pm_290, ch, tl, nu, le, nx, cmd, pos, rea, cau, xn_292, xt_294, xp, xr, xw, h0_296, h1_298, h2_300, h3_302, h4_304) _ _ _ _ _ (Option.some.inj h) hP hS rfl rfl dL_acts_467
          refine mrg_e h (fun J307 hK_J307 h => ?_)
          have hJ_J307 : ∀ (_ : Unit) (H : Heap) (locs : List Loc) (ls : Array Slot), va_P E.1 vwCl (List.flatten [[(g0, .inr (6, [.ref (an 0), .ref (au 0), .ref (ap 0), .ref q0, .ref x0, .ref r0, .int ke]))], [(q0, .inr (0, [.ref q1, .int lnn_288]))], wHa E q1 ba pm_290, wTx E x0 x1 x2 ch tl nu le nx, [(r0, .inr (3, [.ref (ar 0), .ref (aw 0), .int cmd, .int pos, .int rea, .int cau]))], wHuT E an xn_292, wHuT E au xt_294, wHuT E ap xp, wHuT E ar xr, wHuT E aw xw, wHuT E (ba 0) h0_296, wHuT E (ba 1) h1_298, wHuT E (ba 2) h2_300, wHuT E (ba 3) h3_302, wHuT E (ba 4) h4_304]) H → va_S A s.heap H locs → lv_has ls 14 [(12, .int r286), (11, .int r282), (10, .int v281), (7, .int r269), (5, .int r5)] → J307 () = some res → W p l e ({ frames := 8, cells := 0, slots := 0, locals := 196 } : Room) s m args below meth c H locs 0 0 Q (F0 m 333 ls []) := by
            intro _ H locs ls hP hS hl h
            replace hD : va_D A (List.flatten [[(g0, .inr (6, [.ref (an 0), .ref (au 0), .ref (ap 0), .ref q0, .ref x0, .ref r0, .int ke]))], [(q0, .inr (0, [.ref q1, .int lnn_288]))], wHa E q1 ba pm_290, wTx E x0 x1 x2 ch tl nu le nx, [(r0, .inr (3, [.ref (ar 0), .ref (aw 0), .int cmd, .int pos, .int rea, .int cau]))], wHuT E an xn_292, wHuT E au xt_294, wHuT E ap xp, wHuT E ar xr, wHuT E aw xw, wHuT E (ba 0) h0_296, wHuT E (ba 1) h1_298, wHuT E (ba 2) h2_300, wHuT E (ba 3) h3_302, wHuT E (ba 4) h4_304]) := gD_same hD rfl
            subst hK_J307
            refine lv_iload hx hb dL_acts_333 (lv_at hl 1 rfl) ?_
            refine lv_iconst (v := (-1 : Int32)) hx hb dL_acts_335 (by decide) ?_
            refine lv_icmp_ne (tgt := 343) hx hb dL_acts_336 (by decide) (fun hc314 => ?_) (fun hc314 => ?_)
            · replace h := g_if hc314 h
              cases h
            · replace h := g_it hc314 h
              refine lv_iconst (v := (1 : Int32)) hx hb dL_acts_339 (by decide) ?_
              refine lv_goto (tgt := 386) hx hb dL_acts_340 (by decide) ?_
              exact hJ_J308 (1 : Int32) _ _ _ hP hS (lv_sub hl [0, 1, 2, 3, 4] rfl) h
          refine lv_icmp_gt (tgt := 333) hx hb dL_acts_325 (by decide) (fun hc306 => ?_) (fun hc306 => ?_)
          · replace h := g_it hc306 h
            exact hJ_J307 () _ _ _ hP hS (lv_sub hl [0, 1, 2, 5, 6] rfl) h
          · replace h := g_if hc306 h
            refine lv_iload hx hb dL_acts_328 (lv_at hl 3 rfl) ?_
            refine lv_if_ne (tgt := 347) hx hb dL_acts_330 (by decide) (fun hc309 => ?_) (fun hc309 => ?_)
            · replace h := g_if hc309 h
              refine lv_iload hx hb dL_acts_347 (lv_at hl 6 rfl) ?_
              refine lv_bipush (v := (16 : Int32)) hx hb dL_acts_349 (by decide) ?_
              refine lv_icmp_ne (tgt := 369) hx hb dL_acts_351 (by decide) (fun hc310 => ?_) (fun hc310 => ?_)
              · replace h := g_if hc310 h
                refine lv_iload hx hb dL_acts_369 (lv_at hl 1 rfl) ?_
                refine lv_if_lt (tgt := 385) hx hb dL_acts_371 (by decide) (fun hc311 => ?_) (fun hc311 => ?_)
                · replace h := g_it hc311 h
                  cases h
                · replace h := g_if hc311 h
                  refine lv_iload hx hb dL_acts_374 (lv_at hl 1 rfl) ?_
                  refine lv_bipush (v := (6 : Int32)) hx hb dL_acts_376 (by decide) ?_
                  refine lv_icmp_gt (tgt := 385) hx hb dL_acts_378 (by decide) (fun hc312 => ?_) (fun hc312 => ?_)
                  · replace h := g_it hc312 h
                    cases h
                  · replace h := g_if hc312 h
                    refine lv_iconst (v := (1 : Int32)) hx hb dL_acts_381 (by decide) ?_
                    refine lv_goto (tgt := 386) hx hb dL_acts_382 (by decide) ?_
                    exact hJ_J308 (1 : Int32) _ _ _ hP hS (lv_sub hl [0, 1, 2, 5, 6] rfl) h
              · replace h := g_it hc310 h
                refine lv_iload hx hb dL_acts_354 (lv_at hl 1 rfl) ?_
                refine lv_bipush (v := (-3 : Int32)) hx hb dL_acts_356 (by decide) ?_
                refine lv_icmp_ne (tgt := 365) hx hb dL_acts_358 (by decide) (fun hc313 => ?_) (fun hc313 => ?_)
                · replace h := g_if hc313 h
                  cases h
                · replace h := g_it hc313 h
                  refine lv_iconst (v := (1 : Int32)) hx hb dL_acts_361 (by decide) ?_
                  refine lv_goto (tgt := 386) hx hb dL_acts_362 (by decide) ?_
                  exact hJ_J308 (1 : Int32) _ _ _ hP hS (lv_sub hl [0, 1, 2, 5, 6] rfl) h
            · replace h := g_it hc309 h
              exact hJ_J307 () _ _ _ hP hS (lv_sub hl [0, 1, 2, 5, 6] rfl) h
        refine lv_if_eq (tgt := 291) hx hb dL_acts_268 (by decide) (fun hc276 => ?_) (fun hc276 => ?_)
        · replace h := g_it hc276 h
          refine lv_iconst (v := (1 : Int32)) hx hb dL_acts_291 (by decide) ?_
          refine lv_goto (tgt := 296) hx hb dL_acts_292 (by decide) ?_
          exact hJ_J277 (1 : Int32) _ _ _ hP hS (lv_sub hl [0, 1, 2, 4, 7] rfl) h
        · replace h := g_if hc276 h
          refine lv_iload hx hb dL_acts_271 (lv_at hl 2 rfl) ?_
          refine lv_bipush (v := (7 : Int32)) hx hb dL_acts_273 (by decide) ?_
          refine lv_icmp_eq (tgt := 291) hx hb dL_acts_275 (by decide) (fun hc278 => ?_) (fun hc278 => ?_)
          · replace h := g_it hc278 h
            refine lv_iconst (v := (1 : Int32)) hx hb dL_acts_291 (by decide) ?_
            refine lv_goto (tgt := 296) hx hb dL_acts_292 (by decide) ?_
            exact hJ_J277 (1 : Int32) _ _ _ hP hS (lv_sub hl [0, 1, 2, 4, 7] rfl) h
          · replace h := g_if hc278 h
            refine lv_iload hx hb dL_acts_278 (lv_at hl 0 rfl) ?_
            refine lv_if_eq (tgt := 291) hx hb dL_acts_280 (by decide) (fun hc279 => ?_) (fun hc279 => ?_)
            · replace h := g_it hc279 h
              refine lv_iconst (v := (1 : Int32)) hx hb dL_acts_291 (by decide) ?_
              refine lv_goto (tgt := 296) hx hb dL_acts_292 (by decide) ?_
              exact hJ_J277 (1 : Int32) _ _ _ hP hS (lv_sub hl [0, 1, 2, 4, 7] rfl) h
            · replace h := g_if hc279 h
              refine lv_iload hx hb dL_acts_283 (lv_at hl 1 rfl) ?_
              refine lv_sipush (v := (365 : Int32)) hx hb dL_acts_285 (by decide) ?_
              refine lv_icmp_le (tgt := 295) hx hb dL_acts_288 (by decide) (fun hc280 => ?_) (fun hc280 => ?_)
              · replace h := g_it hc280 h
                refine lv_iconst (v := (0 : Int32)) hx hb dL_acts_295 (by decide) ?_
                exact hJ_J277 (0 : Int32) _ _ _ hP hS (lv_sub hl [0, 1, 2, 4, 7] rfl) h
              · replace h := g_if hc280 h
                refine lv_iconst (v := (1 : Int32)) hx hb dL_acts_291 (by decide) ?_
                refine lv_goto (tgt := 296) hx hb dL_acts_292 (by decide) ?_
                exact hJ_J277 (1 : Int32) _ _ _ hP hS (lv_sub hl [0, 1, 2, 4, 7] rfl) h
    · replace h := g_if hc10 h
      refine lv_aload_n hx hb dL_acts_130 rfl (lv_at hl 4 rfl) ?_
      refine lv_bipush (v := (7 : Int32)) hx hb dL_acts_131 (by decide) ?_
      obtain ⟨r326, hc327, h⟩ := bd1_s h
      refine g_callBi (As := [.int (7 : Int32)]) (rest := []) (r := r326) (bs1 := [[(g0, .inr (6, [.ref (an 0), .ref (au 0), .ref (ap 0), .ref q0, .ref x0, .ref r0, .int ke]))], [(q0, .inr (0, [.ref q1, .int lnn]))], wHa E q1 ba pm, wTx E x0 x1 x2 ch tl nu le nx, [(r0, .inr (3, [.ref (ar 0), .ref (aw 0), .int cmd, .int pos, .int rea, .int cau]))], wHuT E an xn, wHuT E au xt, wHuT E ap xp, wHuT E ar xr, wHuT E aw xw, wHuT E (ba 0) h0, wHuT E (ba 1) h1, wHuT E (ba 2) h2, wHuT E (ba 3) h3, wHuT E (ba 4) h4]) ⟨hx, hb, hml, hown, hts⟩ (kX6_count E l g0 q0 q1 x0 x1 x2 r0 an au ap ar aw ba ke lnn pm ch tl nu le nx cmd pos rea cau xn xt xp xr xw h0 h1 h2 h3 h4 (7 : Int32) r326 hc327) (cwV 1 hts gL_acts_X6_count rfl rfl rfl (by decide +kernel) ⟨Nat.le_of_ble_eq_true rfl, Nat.le_of_ble_eq_true rfl⟩) hK hP hD hS hA hG hl [0, 1, 2, 3, 4, 5, 6, 7, 8, 9, 10, 11, 12, 13, 14] 0 0 (by decide) rfl (ci := 6) rfl rfl rfl rfl rfl rfl rfl rfl rfl rfl (Nat.le_of_ble_eq_true rfl) dL_acts_133 (Nat.zero_le _) (Nat.zero_le _) (fun H locs hP hD hS => ?_)
      refine lv_istore (lv' := [(7, .int r326), (6, .int r7), (5, .int r5), (4, .int r3), (3, .int r1), (0, .ref g0), (1, .int p2), (2, .int p3)]) hx hb dL_acts_136 hl (by decide) rfl (fun ls hl => ?_)
      refine lv_aload_n hx hb dL_acts_138 rfl (lv_at hl 5 rfl) ?_
      refine lv_iconst (v := (0 : Int32)) hx hb dL_acts_139 (by decide) ?_
      refine lv_iconst (v := (4 : Int32)) hx hb dL_acts_140 (by decide) ?_
      obtain ⟨r328, hc329, h⟩ := bd1_s h
      refine g_callBi (As := [.int (0 : Int32), .int (4 : Int32)]) (rest := []) (r := r328) (bs1 := [[(g0, .inr (6, [.ref (an 0), .ref (au 0), .ref (ap 0), .ref q0, .ref x0, .ref r0, .int ke]))], [(q0, .inr (0, [.ref q1, .int lnn]))], wHa E q1 ba pm, wTx E x0 x1 x2 ch tl nu le nx, [(r0, .inr (3, [.ref (ar 0), .ref (aw 0), .int cmd, .int pos, .int rea, .int cau]))], wHuT E an xn, wHuT E au xt, wHuT E ap xp, wHuT E ar xr, wHuT E aw xw, wHuT E (ba 0) h0, wHuT E (ba 1) h1, wHuT E (ba 2) h2, wHuT E (ba 3) h3, wHuT E (ba 4) h4]) ⟨hx, hb, hml, hown, hts⟩ (kX6_storeOf E l g0 q0 q1 x0 x1 x2 r0 an au ap ar aw ba ke lnn pm ch tl nu le nx cmd pos rea cau xn xt xp xr xw h0 h1 h2 h3 h4 (0 : Int32) (4 : Int32) r328 hc329) (cwV 2 hts gL_acts_X6_storeOf rfl rfl rfl (by decide +kernel) ⟨Nat.le_of_ble_eq_true rfl, Nat.le_of_ble_eq_true rfl⟩) hK hP hD hS hA hG hl [0, 1, 2, 3, 4, 5, 6, 7, 8, 9, 10, 11, 12, 13, 14] 0 0 (by decide) rfl (ci := 6) rfl rfl rfl rfl rfl rfl rfl rfl rfl rfl (Nat.le_of_ble_eq_true rfl) dL_acts_141 (Nat.zero_le _) (Nat.zero_le _) (fun H locs hP hD hS => ?_)
      refine lv_aload_n hx hb dL_acts_144 rfl (lv_at hl 5 rfl) ?_
      refine lv_iconst (v := (1 : Int32)) hx hb dL_acts_145 (by decide) ?_
      refine lv_iconst (v := (4 : Int32)) hx hb dL_acts_146 (by decide) ?_
      obtain ⟨r330, hc331, h⟩ := bd1_s h
      refine g_callBi (As := [.int (1 : Int32), .int (4 : Int32)]) (rest := [.int r328]) (r := r330) (bs1 := [[(g0, .inr (6, [.ref (an 0), .ref (au 0), .ref (ap 0), .ref q0, .ref x0, .ref r0, .int ke]))], [(q0, .inr (0, [.ref q1, .int lnn]))], wHa E q1 ba pm, wTx E x0 x1 x2 ch tl nu le nx, [(r0, .inr (3, [.ref (ar 0), .ref (aw 0), .int cmd, .int pos, .int rea, .int cau]))], wHuT E an xn, wHuT E au xt, wHuT E ap xp, wHuT E ar xr, wHuT E aw xw, wHuT E (ba 0) h0, wHuT E (ba 1) h1, wHuT E (ba 2) h2, wHuT E (ba 3) h3, wHuT E (ba 4) h4]) ⟨hx, hb, hml, hown, hts⟩ (kX6_storeOf E l g0 q0 q1 x0 x1 x2 r0 an au ap ar aw ba ke lnn pm ch tl nu le nx cmd pos rea cau xn xt xp xr xw h0 h1 h2 h3 h4 (1 : Int32) (4 : Int32) r330 hc331) (cwV 2 hts gL_acts_X6_storeOf rfl rfl rfl (by decide +kernel) ⟨Nat.le_of_ble_eq_true rfl, Nat.le_of_ble_eq_true rfl⟩) hK hP hD hS hA hG hl [0, 1, 2, 3, 4, 5, 6, 7, 8, 9, 10, 11, 12, 13, 14] 0 0 (by decide) rfl (ci := 6) rfl rfl rfl rfl rfl rfl rfl rfl rfl rfl (Nat.le_of_ble_eq_true rfl) dL_acts_147 (Nat.zero_le _) (Nat.zero_le _) (fun H locs hP hD hS => ?_)
      refine lv_iadd hx hb dL_acts_150 ?_
      refine lv_aload_n hx hb dL_acts_151 rfl (lv_at hl 5 rfl) ?_
      refine lv_iconst (v := (2 : Int32)) hx hb dL_acts_152 (by decide) ?_
      refine lv_iconst (v := (4 : Int32)) hx hb dL_acts_153 (by decide) ?_
      obtain ⟨r332, hc333, h⟩ := bd1_s h
      refine g_callBi (As := [.int (2 : Int32), .int (4 : Int32)]) (rest := [.int (r328 + r330)]) (r := r332) (bs1 := [[(g0, .inr (6, [.ref (an 0), .ref (au 0), .ref (ap 0), .ref q0, .ref x0, .ref r0, .int ke]))], [(q0, .inr (0, [.ref q1, .int lnn]))], wHa E q1 ba pm, wTx E x0 x1 x2 ch tl nu le nx, [(r0, .inr (3, [.ref (ar 0), .ref (aw 0), .int cmd, .int pos, .int rea, .int cau]))], wHuT E an xn, wHuT E au xt, wHuT E ap xp, wHuT E ar xr, wHuT E aw xw, wHuT E (ba 0) h0, wHuT E (ba 1) h1, wHuT E (ba 2) h2, wHuT E (ba 3) h3, wHuT E (ba 4) h4]) ⟨hx, hb, hml, hown, hts⟩ (kX6_storeOf E l g0 q0 q1 x0 x1 x2 r0 an au ap ar aw ba ke lnn pm ch tl nu le nx cmd pos rea cau xn xt xp xr xw h0 h1 h2 h3 h4 (2 : Int32) (4 : Int32) r332 hc333) (cwV 2 hts gL_acts_X6_storeOf rfl rfl rfl (by decide +kernel) ⟨Nat.le_of_ble_eq_true rfl, Nat.le_of_ble_eq_true rfl⟩) hK hP hD hS hA hG hl [0, 1, 2, 3, 4, 5, 6, 7, 8, 9, 10, 11, 12, 13, 14] 0 0 (by decide) rfl (ci := 6) rfl rfl rfl rfl rfl rfl rfl rfl rfl rfl (Nat.le_of_ble_eq_true rfl) dL_acts_154 (Nat.zero_le _) (Nat.zero_le _) (fun H locs hP hD hS => ?_)
      refine lv_iadd hx hb dL_acts_157 ?_
      refine lv_topi (fun v334 e_v334 => ?_)
      replace h := jl_s e_v334 h
      refine lv_istore (lv' := [(8, .int v334), (7, .int r326), (6, .int r7), (5, .int r5), (4, .int r3), (3, .int r1), (0, .ref g0), (1, .int p2), (2, .int p3)]) hx hb dL_acts_158 hl (by decide) rfl (fun ls hl => ?_)
      refine lv_iload hx hb dL_acts_160 (lv_at hl 1 rfl) ?_
      refine mrg_e h (fun J336 hK_J336 h => ?_)
      have hJ_J336 : ∀ (v346 : Int32) (H : Heap) (locs : List Loc) (ls : Array Slot), va_P E.1 vwCl (List.flatten [[(g0, .inr (6, [.ref (an 0), .ref (au 0), .ref (ap 0), .ref q0, .ref x0, .ref r0, .int ke]))], [(q0, .inr (0, [.ref q1, .int lnn]))], wHa E q1 ba pm, wTx E x0 x1 x2 ch tl nu le nx, [(r0, .inr (3, [.ref (ar 0), .ref (aw 0), .int cmd, .int pos, .int rea, .int cau]))], wHuT E an xn, wHuT E au xt, wHuT E ap xp, wHuT E ar xr, wHuT E aw xw, wHuT E (ba 0) h0, wHuT E (ba 1) h1, wHuT E (ba 2) h2, wHuT E (ba 3) h3, wHuT E (ba 4) h4]) H → va_S A s.heap H locs → lv_has ls 14 [(0, .ref g0)] → J336 v346 = some res → W p l e ({ frames := 8, cells := 0, slots := 0, locals := 196 } : Room) s m args below meth c H locs 0 0 Q (F0 m 211 ls [.int v346]) := by
        intro v346 H locs ls hP hS hl h
        replace hD : va_D A (List.flatten [[(g0, .inr (6, [.ref (an 0), .ref (au 0), .ref (ap 0), .ref q0, .ref x0, .ref r0, .int ke]))], [(q0, .inr (0, [.ref q1, .int lnn]))], wHa E q1 ba pm, wTx E x0 x1 x2 ch tl nu le nx, [(r0, .inr (3, [.ref (ar 0), .ref (aw 0), .int cmd, .int pos, .int rea, .int cau]))], wHuT E an xn, wHuT E au xt, wHuT E ap xp, wHuT E ar xr, wHuT E aw xw, wHuT E (ba 0) h0, wHuT E (ba 1) h1, wHuT E (ba 2) h2, wHuT E (ba 3) h3, wHuT E (ba 4) h4]) := gD_same hD rfl
        subst hK_J336
        refine lv_istore (lv' := [(9, .int v346), (0, .ref g0)]) hx hb dL_acts_211 hl (by decide) rfl (fun ls hl => ?_)
        refine lv_aload_n hx hb dL_acts_213 rfl (lv_at hl 1 rfl) ?_
        obtain ⟨r347, lnn_349, pm_351, xn_353, h0_355, h1_357, h2_359, h3_361, h4_363, hc364, h⟩ := bd9_s h
        refine g_callBi (As := []) (rest := []) (r := r347) (bs1 := [[(g0, .inr (6, [.ref (an 0), .ref (au 0), .ref (ap 0), .ref q0, .ref x0, .ref r0, .int ke]))], [(q0, .inr (0, [.ref q1, .int lnn_349]))], wHa E q1 ba pm_351, wTx E x0 x1 x2 ch tl nu le nx, [(r0, .inr (3, [.ref (ar 0), .ref (aw 0), .int cmd, .int pos, .int rea, .int cau]))], wHuT E an xn_353, wHuT E au xt, wHuT E ap xp, wHuT E ar xr, wHuT E aw xw, wHuT E (ba 0) h0_355, wHuT E (ba 1) h1_357, wHuT E (ba 2) h2_359, wHuT E (ba 3) h3_361, wHuT E (ba 4) h4_363]) ⟨hx, hb, hml, hown, hts⟩ (kX6_fly E l g0 q0 q1 x0 x1 x2 r0 an au ap ar aw ba ke lnn pm ch tl nu le nx cmd pos rea cau xn xt xp xr xw h0 h1 h2 h3 h4 (r347, lnn_349, pm_351, xn_353, h0_355, h1_357, h2_359, h3_361, h4_363) hc364) (cwV 0 hts gL_acts_X6_fly rfl rfl rfl (by decide +kernel) ⟨Nat.le_of_ble_eq_true rfl, Nat.le_of_ble_eq_true rfl⟩) hK hP hD hS hA hG hl [0, 1, 2, 3, 4, 5, 6, 7, 8, 9, 10, 11, 12, 13, 14] 0 0 (by decide) rfl (ci := 6) rfl rfl rfl rfl rfl rfl rfl rfl rfl rfl (Nat.le_of_ble_eq_true rfl) dL_acts_214 (Nat.zero_le _) (Nat.zero_le _) (fun H locs hP hD hS => ?_)
        refine lv_iload hx hb dL_acts_217 (lv_at hl 0 rfl) ?_
        refine lv_icmp_ne (tgt := 226) hx hb dL_acts_219 (by decide) (fun hc365 => ?_) (fun hc365 => ?_)
        · replace h := g_if hc365 h
          cases h
        · replace h := g_it hc365 h
          refine lv_iconst (v := (1 : Int32)) hx hb dL_acts_222 (by decide) ?_
          refine lv_goto (tgt := 227) hx hb dL_acts_223 (by decide) ?_
          exact hret ((1 : Int32), ke, lnn_349, pm_351, ch, tl, nu, le, nx, cmd, pos, rea, cau, xn_353, xt, xp, xr, xw, h0_355, h1_357, h2_359, h3_361, h4_363) _ _ _ _ _ (Option.some.inj h) hP hS rfl rfl dL_acts_227
      refine lv_if_eq (tgt := 189) hx hb dL_acts_162 (by decide) (fun hc335 => ?_) (fun hc335 => ?_)
      · replace h := g_it hc335 h
        refine lv_bipush (v := (-2 : Int32)) hx hb dL_acts_189 (by decide) ?_
        refine lv_goto (tgt := 211) hx hb dL_acts_191 (by decide) ?_
        exact hJ_J336 (-2 : Int32) _ _ _ hP hS (lv_sub hl [6] rfl) h
      · replace h := g_if hc335 h
        refine lv_aload_n hx hb dL_acts_165 rfl (lv_at hl 6 rfl) ?_
        refine lv_iconst (v := (5 : Int32)) hx hb dL_acts_166 (by decide) ?_
        obtain ⟨r337, hc338, h⟩ := bd1_s h
        refine g_callBi (As := [.int (5 : Int32)]) (rest := []) (r := r337) (bs1 := [[(g0, .inr (6, [.ref (an 0), .ref (au 0), .ref (ap 0), .ref q0, .ref x0, .ref r0, .int ke]))], [(q0, .inr (0, [.ref q1, .int lnn]))], wHa E q1 ba pm, wTx E x0 x1 x2 ch tl nu le nx, [(r0, .inr (3, [.ref (ar 0), .ref (aw 0), .int cmd, .int pos, .int rea, .int cau]))], wHuT E an xn, wHuT E au xt, wHuT E ap xp, wHuT E ar xr, wHuT E aw xw, wHuT E (ba 0) h0, wHuT E (ba 1) h1, wHuT E (ba 2) h2, wHuT E (ba 3) h3, wHuT E (ba 4) h4]) ⟨hx, hb, hml, hown, hts⟩ (kX6_count E l g0 q0 q1 x0 x1 x2 r0 an au ap ar aw ba ke lnn pm ch tl nu le nx cmd pos rea cau xn xt xp xr xw h0 h1 h2 h3 h4 (5 : Int32) r337 hc338) (cwV 1 hts gL_acts_X6_count rfl rfl rfl (by decide +kernel) ⟨Nat.le_of_ble_eq_true rfl, Nat.le_of_ble_eq_true rfl⟩) hK hP hD hS hA hG hl [0, 1, 2, 3, 4, 5, 6, 7, 8, 9, 10, 11, 12, 13, 14] 0 0 (by decide) rfl (ci := 6) rfl rfl rfl rfl rfl rfl rfl rfl rfl rfl (Nat.le_of_ble_eq_true rfl) dL_acts_167 (Nat.zero_le _) (Nat.zero_le _) (fun H locs hP hD hS => ?_)
        refine lv_iconst (v := (1 : Int32)) hx hb dL_acts_170 (by decide) ?_
        refine lv_icmp_eq (tgt := 189) hx hb dL_acts_171 (by decide) (fun hc339 => ?_) (fun hc339 => ?_)
        · replace h := g_it hc339 h
          refine lv_bipush (v := (-2 : Int32)) hx hb dL_acts_189 (by decide) ?_
          refine lv_goto (tgt := 211) hx hb dL_acts_191 (by decide) ?_
          exact hJ_J336 (-2 : Int32) _ _ _ hP hS (lv_sub hl [6] rfl) h
        · replace h := g_if hc339 h
          refine lv_aload_n hx hb dL_acts_174 rfl (lv_at hl 6 rfl) ?_
          refine lv_bipush (v := (6 : Int32)) hx hb dL_acts_175 (by decide) ?_
          obtain ⟨r340, hc341, h⟩ := bd1_s h
          refine g_callBi (As := [.int (6 : Int32)]) (rest := []) (r := r340) (bs1 := [[(g0, .inr (6, [.ref (an 0), .ref (au 0), .ref (ap 0), .ref q0, .ref x0, .ref r0, .int ke]))], [(q0, .inr (0, [.ref q1, .int lnn]))], wHa E q1 ba pm, wTx E x0 x1 x2 ch tl nu le nx, [(r0, .inr (3, [.ref (ar 0), .ref (aw 0), .int cmd, .int pos, .int rea, .int cau]))], wHuT E an xn, wHuT E au xt, wHuT E ap xp, wHuT E ar xr, wHuT E aw xw, wHuT E (ba 0) h0, wHuT E (ba 1) h1, wHuT E (ba 2) h2, wHuT E (ba 3) h3, wHuT E (ba 4) h4]) ⟨hx, hb, hml, hown, hts⟩ (kX6_count E l g0 q0 q1 x0 x1 x2 r0 an au ap ar aw ba ke lnn pm ch tl nu le nx cmd pos rea cau xn xt xp xr xw h0 h1 h2 h3 h4 (6 : Int32) r340 hc341) (cwV 1 hts gL_acts_X6_count rfl rfl rfl (by decide +kernel) ⟨Nat.le_of_ble_eq_true rfl, Nat.le_of_ble_eq_true rfl⟩) hK hP hD hS hA hG hl [0, 1, 2, 3, 4, 5, 6, 7, 8, 9, 10, 11, 12, 13, 14] 0 0 (by decide) rfl (ci := 6) rfl rfl rfl rfl rfl rfl rfl rfl rfl rfl (Nat.le_of_ble_eq_true rfl) dL_acts_177 (Nat.zero_le _) (Nat.zero_le _) (fun H locs hP hD hS => ?_)
          refine lv_aload_n hx hb dL_acts_180 rfl (lv_at hl 6 rfl) ?_
          refine lv_bipush (v := (23 : Int32)) hx hb dL_acts_181 (by decide) ?_
          obtain ⟨r342, hc343, h⟩ := bd1_s h
          refine g_callBi (As := [.int (23 : Int32)]) (rest := [.int r340]) (r := r342) (bs1 := [[(g0, .inr (6, [.ref (an 0), .ref (au 0), .ref (ap 0), .ref q0, .ref x0, .ref r0, .int ke]))], [(q0, .inr (0, [.ref q1, .int lnn]))], wHa E q1 ba pm, wTx E x0 x1 x2 ch tl nu le nx, [(r0, .inr (3, [.ref (ar 0), .ref (aw 0), .int cmd, .int pos, .int rea, .int cau]))], wHuT E an xn, wHuT E au xt, wHuT E ap xp, wHuT E ar xr, wHuT E aw xw, wHuT E (ba 0) h0, wHuT E (ba 1) h1, wHuT E (ba 2) h2, wHuT E (ba 3) h3, wHuT E (ba 4) h4]) ⟨hx, hb, hml, hown, hts⟩ (kX6_count E l g0 q0 q1 x0 x1 x2 r0 an au ap ar aw ba ke lnn pm ch tl nu le nx cmd pos rea cau xn xt xp xr xw h0 h1 h2 h3 h4 (23 : Int32) r342 hc343) (cwV 1 hts gL_acts_X6_count rfl rfl rfl (by decide +kernel) ⟨Nat.le_of_ble_eq_true rfl, Nat.le_of_ble_eq_true rfl⟩) hK hP hD hS hA hG hl [0, 1, 2, 3, 4, 5, 6, 7, 8, 9, 10, 11, 12, 13, 14] 0 0 (by decide) rfl (ci := 6) rfl rfl rfl rfl rfl rfl rfl rfl rfl rfl (Nat.le_of_ble_eq_true rfl) dL_acts_183 (Nat.zero_le _) (Nat.zero_le _) (fun H locs hP hD hS => ?_)
          refine lv_icmp_lt (tgt := 194) hx hb dL_acts_186 (by decide) (fun hc344 => ?_) (fun hc344 => ?_)
          · replace h := g_it hc344 h
            refine lv_iload hx hb dL_acts_194 (lv_at hl 0 rfl) ?_
            refine lv_iload hx hb dL_acts_196 (lv_at hl 1 rfl) ?_
            refine lv_iadd hx hb dL_acts_198 ?_
            refine lv_bipush (v := (20 : Int32)) hx hb dL_acts_199 (by decide) ?_
            refine lv_icmp_le (tgt := 209) hx hb dL_acts_201 (by decide) (fun hc345 => ?_) (fun hc345 => ?_)
            · replace h := g_it hc345 h
              refine lv_iload hx hb dL_acts_209 (lv_at hl 1 rfl) ?_
              exact hJ_J336 r326 _ _ _ hP hS (lv_sub hl [6] rfl) h
            · replace h := g_if hc345 h
              refine lv_bipush (v := (-3 : Int32)) hx hb dL_acts_204 (by decide) ?_
              refine lv_goto (tgt := 211) hx hb dL_acts_206 (by decide) ?_
              exact hJ_J336 (-3 : Int32) _ _ _ hP hS (lv_sub hl [6] rfl) h
          · replace h := g_if hc344 h
            refine lv_bipush (v := (-2 : Int32)) hx hb dL_acts_189 (by decide) ?_
            refine lv_goto (tgt := 211) hx hb dL_acts_191 (by decide) ?_
            exact hJ_J336 (-2 : Int32) _ _ _ hP hS (lv_sub hl [6] rfl) h
  · replace h := g_if hc9 h
    refine lv_iload_n hx hb dL_acts_38 rfl (lv_at hl 6 rfl) ?_
    refine lv_iconst (v := (4 : Int32)) hx hb dL_acts_39 (by decide) ?_
    obtain ⟨r366, hc367, h⟩ := bd1_s h
    refine g_callSBi (As := [.int p3, .int (4 : Int32)]) (rest := []) (r := r366) (bs1 := [[(g0, .inr (6, [.ref (an 0), .ref (au 0), .ref (ap 0), .ref q0, .ref x0, .ref r0, .int ke]))], [(q0, .inr (0, [.ref q1, .int lnn]))], wHa E q1 ba pm, wTx E x0 x1 x2 ch tl nu le nx, [(r0, .inr (3, [.ref (ar 0), .ref (aw 0), .int cmd, .int pos, .int rea, .int cau]))], wHuT E an xn, wHuT E au xt, wHuT E ap xp, wHuT E ar xr, wHuT E aw xw, wHuT E (ba 0) h0, wHuT E (ba 1) h1, wHuT E (ba 2) h2, wHuT E (ba 3) h3, wHuT E (ba 4) h4]) ⟨hx, hb, hml, hown, hts⟩ (kL_low E l p3 (4 : Int32) r366 hc367) (va_cwS 2 hts gL_acts_L_low rfl rfl rfl (by decide +kernel) ⟨Nat.le_of_ble_eq_true rfl, Nat.le_of_ble_eq_true rfl⟩) hK hP hD hS hA hG hl [] (by decide) rfl rfl rfl rfl rfl rfl rfl (Nat.le_of_ble_eq_true rfl) dL_acts_40 (Nat.zero_le _) (Nat.zero_le _) (fun H locs hP hD hS => ?_)
    refine lv_istore (lv' := [(7, .int r366), (6, .int r7), (5, .int r5), (4, .int r3), (3, .int r1), (0, .ref g0), (1, .int p2), (2, .int p3)]) hx hb dL_acts_43 hl (by decide) rfl (fun ls hl => ?_)
    refine lv_iload_n hx hb dL_acts_45 rfl (lv_at hl 7 rfl) ?_
    refine lv_iconst (v := (2 : Int32)) hx hb dL_acts_46 (by decide) ?_
    refine lv_ishr hx hb dL_acts_47 ?_
    refine lv_bipush (v := (80 : Int32)) hx hb dL_acts_48 (by decide) ?_
    obtain ⟨r368, hc369, h⟩ := bd1_s h
    refine g_callSBi (As := [.int (p3 >>> ((2 : Int32) &&& 31)), .int (80 : Int32)]) (rest := []) (r := r368) (bs1 := [[(g0, .inr (6, [.ref (an 0), .ref (au 0), .ref (ap 0), .ref q0, .ref x0, .ref r0, .int ke]))], [(q0, .inr (0, [.ref q1, .int lnn]))], wHa E q1 ba pm, wTx E x0 x1 x2 ch tl nu le nx, [(r0, .inr (3, [.ref (ar 0), .ref (aw 0), .int cmd, .int pos, .int rea, .int cau]))], wHuT E an xn, wHuT E au xt, wHuT E ap xp, wHuT E ar xr, wHuT E aw xw, wHuT E (ba 0) h0, wHuT E (ba 1) h1, wHuT E (ba 2) h2, wHuT E (ba 3) h3, wHuT E (ba 4) h4]) ⟨hx, hb, hml, hown, hts⟩ (kL_low E l (p3 >>> ((2 : Int32) &&& 31)) (80 : Int32) r368 hc369) (va_cwS 2 hts gL_acts_L_low rfl rfl rfl (by decide +kernel) ⟨Nat.le_of_ble_eq_true rfl, Nat.le_of_ble_eq_true rfl⟩) hK hP hD hS hA hG hl [] (by decide) rfl rfl rfl rfl rfl rfl rfl (Nat.le_of_ble_eq_true rfl) dL_acts_50 (Nat.zero_le _) (Nat.zero_le _) (fun H locs hP hD hS => ?_)
    refine lv_istore (lv' := [(8, .int r368), (7, .int r366), (6, .int r7), (5, .int r5), (4, .int r3), (3, .int r1), (0, .ref g0), (1, .int p2), (2, .int p3)]) hx hb dL_acts_53 hl (by decide) rfl (fun ls hl => ?_)
    refine lv_iload_n hx hb dL_acts_55 rfl (lv_at hl 8 rfl) ?_
    refine lv_bipush (v := (9 : Int32)) hx hb dL_acts_56 (by decide) ?_
    refine lv_ishr hx hb dL_acts_58 ?_
    refine lv_bipush (v := (30 : Int32)) hx hb dL_acts_59 (by decide) ?_
    obtain ⟨r370, hc371, h⟩ := bd1_s h
    refine g_callSBi (As := [.int (p3 >>> ((9 : Int32) &&& 31)), .int (30 : Int32)]) (rest := []) (r := r370) (bs1 := [[(g0, .inr (6, [.ref (an 0), .ref (au 0), .ref (ap 0), .ref q0, .ref x0, .ref r0, .int ke]))], [(q0, .inr (0, [.ref q1, .int lnn]))], wHa E q1 ba pm, wTx E x0 x1 x2 ch tl nu le nx, [(r0, .inr (3, [.ref (ar 0), .ref (aw 0), .int cmd, .int pos, .int rea, .int cau]))], wHuT E an xn, wHuT E au xt, wHuT E ap xp, wHuT E ar xr, wHuT E aw xw, wHuT E (ba 0) h0, wHuT E (ba 1) h1, wHuT E (ba 2) h2, wHuT E (ba 3) h3, wHuT E (ba 4) h4]) ⟨hx, hb, hml, hown, hts⟩ (kL_low E l (p3 >>> ((9 : Int32) &&& 31)) (30 : Int32) r370 hc371) (va_cwS 2 hts gL_acts_L_low rfl rfl rfl (by decide +kernel) ⟨Nat.le_of_ble_eq_true rfl, Nat.le_of_ble_eq_true rfl⟩) hK hP hD hS hA hG hl [] (by decide) rfl rfl rfl rfl rfl rfl rfl (Nat.le_of_ble_eq_true rfl) dL_acts_61 (Nat.zero_le _) (Nat.zero_le _) (fun H locs hP hD hS => ?_)
    refine lv_istore (lv' := [(9, .int r370), (8, .int r368), (7, .int r366), (6, .int r7), (5, .int r5), (4, .int r3), (3, .int r1), (0, .ref g0), (1, .int p2), (2, .int p3)]) hx hb dL_acts_64 hl (by decide) rfl (fun ls hl => ?_)
    refine lv_aload_n hx hb dL_acts_66 rfl (lv_at hl 7 rfl) ?_
    refine lv_bipush (v := (7 : Int32)) hx hb dL_acts_67 (by decide) ?_
    obtain ⟨r372, hc373, h⟩ := bd1_s h
    refine g_callBi (As := [.int (7 : Int32)]) (rest := []) (r := r372) (bs1 := [[(g0, .inr (6, [.ref (an 0), .ref (au 0), .ref (ap 0), .ref q0, .ref x0, .ref r0, .int ke]))], [(q0, .inr (0, [.ref q1, .int lnn]))], wHa E q1 ba pm, wTx E x0 x1 x2 ch tl nu le nx, [(r0, .inr (3, [.ref (ar 0), .ref (aw 0), .int cmd, .int pos, .int rea, .int cau]))], wHuT E an xn, wHuT E au xt, wHuT E ap xp, wHuT E ar xr, wHuT E aw xw, wHuT E (ba 0) h0, wHuT E (ba 1) h1, wHuT E (ba 2) h2, wHuT E (ba 3) h3, wHuT E (ba 4) h4]) ⟨hx, hb, hml, hown, hts⟩ (kX6_count E l g0 q0 q1 x0 x1 x2 r0 an au ap ar aw ba ke lnn pm ch tl nu le nx cmd pos rea cau xn xt xp xr xw h0 h1 h2 h3 h4 (7 : Int32) r372 hc373) (cwV 1 hts gL_acts_X6_count rfl rfl rfl (by decide +kernel) ⟨Nat.le_of_ble_eq_true rfl, Nat.le_of_ble_eq_true rfl⟩) hK hP hD hS hA hG hl [0, 1, 2, 3, 4, 5, 6, 7, 8, 9, 10, 11, 12, 13, 14] 0 0 (by decide) rfl (ci := 6) rfl rfl rfl rfl rfl rfl rfl rfl rfl rfl (Nat.le_of_ble_eq_true rfl) dL_acts_69 (Nat.zero_le _) (Nat.zero_le _) (fun H locs hP hD hS => ?_)
    refine lv_istore (lv' := [(10, .int r372), (9, .int r370), (8, .int r368), (7, .int r366), (6, .int r7), (5, .int r5), (4, .int r3), (3, .int r1), (0, .ref g0), (1, .int p2), (2, .int p3)]) hx hb dL_acts_72 hl (by decide) rfl (fun ls hl => ?_)
    refine lv_aload_n hx hb dL_acts_74 rfl (lv_at hl 8 rfl) ?_
    refine lv_iload hx hb dL_acts_75 (lv_at hl 3 rfl) ?_
    refine lv_iload hx hb dL_acts_77 (lv_at hl 2 rfl) ?_
    refine lv_iload hx hb dL_acts_79 (lv_at hl 1 rfl) ?_
    obtain ⟨r374, lnn_376, pm_378, xn_380, h0_382, h1_384, h2_386, h3_388, h4_390, hc391, h⟩ := bd9_s h
    refine g_callBi (As := [.int r366, .int r368, .int r370]) (rest := []) (r := r374) (bs1 := [[(g0, .inr (6, [.ref (an 0), .ref (au 0), .ref (ap 0), .ref q0, .ref x0, .ref r0, .int ke]))], [(q0, .inr (0, [.ref q1, .int lnn_376]))], wHa E q1 ba pm_378, wTx E x0 x1 x2 ch tl nu le nx, [(r0, .inr (3, [.ref (ar 0), .ref (aw 0), .int cmd, .int pos, .int rea, .int cau]))], wHuT E an xn_380, wHuT E au xt, wHuT E ap xp, wHuT E ar xr, wHuT E aw xw, wHuT E (ba 0) h0_382, wHuT E (ba 1) h1_384, wHuT E (ba 2) h2_386, wHuT E (ba 3) h3_388, wHuT E (ba 4) h4_390]) ⟨hx, hb, hml, hown, hts⟩ (kX6_load E l g0 q0 q1 x0 x1 x2 r0 an au ap ar aw ba ke lnn pm ch tl nu le nx cmd pos rea cau xn xt xp xr xw h0 h1 h2 h3 h4 r366 r368 r370 (r374, lnn_376, pm_378, xn_380, h0_382, h1_384, h2_386, h3_388, h4_390) hc391) (cwV 3 hts gL_acts_X6_load rfl rfl rfl (by decide +kernel) ⟨Nat.le_of_ble_eq_true rfl, Nat.le_of_ble_eq_true rfl⟩) hK hP hD hS hA hG hl [0, 1, 2, 3, 4, 5, 6, 7, 8, 9, 10, 11, 12, 13, 14] 0 0 (by decide) rfl (ci := 6) rfl rfl rfl rfl rfl rfl rfl rfl rfl rfl (Nat.le_of_ble_eq_true rfl) dL_acts_81 (Nat.zero_le _) (Nat.zero_le _) (fun H locs hP hD hS => ?_)
    refine lv_iload hx hb dL_acts_84 (lv_at hl 3 rfl) ?_
    refine lv_iconst (v := (3 : Int32)) hx hb dL_acts_86 (by decide) ?_
    refine mrg_e h (fun J393 hK_J393 h => ?_)
    have hJ_J393 : ∀ (v396 : Int32) (H : Heap) (locs : List Loc) (ls : Array Slot), va_P E.1 vwCl (List.flatten [[(g0, .inr (6, [.ref (an 0), .ref (au 0), .ref (ap 0), .ref q0, .ref x0, .ref r0, .int ke]))], [(q0, .inr (0, [.ref q1, .int lnn_376]))], wHa E q1 ba pm_378, wTx E x0 x1 x2 ch tl nu le nx, [(r0, .inr (3, [.ref (ar 0), .ref (aw 0), .int cmd, .int pos, .int rea, .int cau]))], wHuT E an xn_380, wHuT E au xt, wHuT E ap xp, wHuT E ar xr, wHuT E aw xw, wHuT E (ba 0) h0_382, wHuT E (ba 1) h1_384, wHuT E (ba 2) h2_386, wHuT E (ba 3) h3_388, wHuT E (ba 4) h4_390]) H → va_S A s.heap H locs → lv_has ls 14 [] → J393 v396 = some res → W p l e ({ frames := 8, cells := 0, slots := 0, locals := 196 } : Room) s m args below meth c H locs 0 0 Q (F0 m 115 ls [.int v396, .int r374]) := by
      intro v396 H locs ls hP hS hl h
      replace hD : va_D A (List.flatten [[(g0, .inr (6, [.ref (an 0), .ref (au 0), .ref (ap 0), .ref q0, .ref x0, .ref r0, .int ke]))], [(q0, .inr (0, [.ref q1, .int lnn_376]))], wHa E q1 ba pm_378, wTx E x0 x1 x2 ch tl nu le nx, [(r0, .inr (3, [.ref (ar 0), .ref (aw 0), .int cmd, .int pos, .int rea, .int cau]))], wHuT E an xn_380, wHuT E au xt, wHuT E ap xp, wHuT E ar xr, wHuT E aw xw, wHuT E (ba 0) h0_382, wHuT E (ba 1) h1_384, wHuT E (ba 2) h2_386, wHuT E (ba 3) h3_388, wHuT E (ba 4) h4_390]) := gD_same hD rfl
      subst hK_J393
      refine lv_icmp_ne (tgt := 122) hx hb dL_acts_115 (by decide) (fun hc397 => ?_) (fun hc397 => ?_)
      · replace h := g_if hc397 h
        cases h
      · replace h := g_it hc397 h
        refine lv_iconst (v := (1 : Int32)) hx hb dL_acts_118 (by decide) ?_
        refine lv_goto (tgt := 123) hx hb dL_acts_119 (by decide) ?_
        exact hret ((1 : Int32), ke, lnn_376, pm_378, ch, tl, nu, le, nx, cmd, pos, rea, cau, xn_380, xt, xp, xr, xw, h0_382, h1_384, h2_386, h3_388, h4_390) _ _ _ _ _ (Option.some.inj h) hP hS rfl rfl dL_acts_123
    refine lv_icmp_eq (tgt := 95) hx hb dL_acts_87 (by decide) (fun hc392 => ?_) (fun hc392 => ?_)
    · replace h := g_it hc392 h
      refine lv_iconst (v := (-1 : Int32)) hx hb dL_acts_95 (by decide) ?_
      refine lv_goto (tgt := 115) hx hb dL_acts_96 (by decide) ?_
      exact hJ_J393 (-1 : Int32) _ _ _ hP hS (lv_sub hl [] rfl) h
    · replace h := g_if hc392 h
      refine lv_iload hx hb dL_acts_90 (lv_at hl 2 rfl) ?_
      refine lv_if_ne (tgt := 99) hx hb dL_acts_92 (by decide) (fun hc394 => ?_) (fun hc394 => ?_)
      · replace h := g_if hc394 h
        refine lv_iload hx hb dL_acts_99 (lv_at hl 0 rfl) ?_
        refine lv_bipush (v := (6 : Int32)) hx hb dL_acts_101 (by decide) ?_
        refine lv_icmp_ne (tgt := 111) hx hb dL_acts_103 (by decide) (fun hc395 => ?_) (fun hc395 => ?_)
        · replace h := g_if hc395 h
          refine lv_iload hx hb dL_acts_111 (lv_at hl 0 rfl) ?_
          refine lv_iconst (v := (1 : Int32)) hx hb dL_acts_113 (by decide) ?_
          refine lv_iadd hx hb dL_acts_114 ?_
          exact hJ_J393 (r372 + (1 : Int32)) _ _ _ hP hS (lv_sub hl [] rfl) h
        · replace h := g_it hc395 h
          refine lv_bipush (v := (-3 : Int32)) hx hb dL_acts_106 (by decide) ?_
          refine lv_goto (tgt := 115) hx hb dL_acts_108 (by decide) ?_
          exact hJ_J393 (-3 : Int32) _ _ _ hP hS (lv_sub hl [] rfl) h
      · replace h := g_it hc394 h
        refine lv_iconst (v := (-1 : Int32)) hx hb dL_acts_95 (by decide) ?_
        refine lv_goto (tgt := 115) hx hb dL_acts_96 (by decide) ?_
        exact hJ_J393 (-1 : Int32) _ _ _ hP hS (lv_sub hl [] rfl) h
