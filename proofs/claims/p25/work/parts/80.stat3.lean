set_option maxHeartbeats 4000000 in
set_option maxRecDepth 100000 in
theorem kL_types (E : gE) (l : Launch) (g0 q0 q1 x0 x1 x2 r0 : Nat) (an au ap ar aw : Nat → Nat) (ba : Nat → Nat → Nat) (ke : Int32) (lnn : Int32) (pm : Nat → Nat) (ch : Nat → Int32) (tl : Int32) (nu : Nat → Int32) (le : Int32) (nx : Int32) (cmd : Int32) (pos : Int32) (rea : Int32) (cau : Int32) (xn : HutS) (xt : HutS) (xp : HutS) (xr : HutS) (xw : HutS) (h0 : HutS) (h1 : HutS) (h2 : HutS) (h3 : HutS) (h4 : HutS) (p2 : Int32) (res : Int32 × (Nat → Int32) × Int32) (h : fL_types ke lnn ch tl xn p2 = some res) : gMI E l yL_types wsL_types ({ frames := 3, cells := 0, slots := 0, locals := 64 } : Room) [.ref g0, .int p2] (List.flatten [[(g0, .inr (6, [.ref (an 0), .ref (au 0), .ref (ap 0), .ref q0, .ref x0, .ref r0, .int ke]))], [(q0, .inr (0, [.ref q1, .int lnn]))], wHa E q1 ba pm, wTx E x0 x1 x2 ch tl nu le nx, [(r0, .inr (3, [.ref (ar 0), .ref (aw 0), .int cmd, .int pos, .int rea, .int cau]))], wHuT E an xn, wHuT E au xt, wHuT E ap xp, wHuT E ar xr, wHuT E aw xw, wHuT E (ba 0) h0, wHuT E (ba 1) h1, wHuT E (ba 2) h2, wHuT E (ba 3) h3, wHuT E (ba 4) h4]) (fun res : Int32 × (Nat → Int32) × Int32 => (List.flatten [[(g0, .inr (6, [.ref (an 0), .ref (au 0), .ref (ap 0), .ref q0, .ref x0, .ref r0, .int ke]))], [(q0, .inr (0, [.ref q1, .int lnn]))], wHa E q1 ba pm, wTx E x0 x1 x2 res.2.1 res.2.2 nu le nx, [(r0, .inr (3, [.ref (ar 0), .ref (aw 0), .int cmd, .int pos, .int rea, .int cau]))], wHuT E an xn, wHuT E au xt, wHuT E ap xp, wHuT E ar xr, wHuT E aw xw, wHuT E (ba 0) h0, wHuT E (ba 1) h1, wHuT E (ba 2) h2, wHuT E (ba 3) h3, wHuT E (ba 4) h4])) (fun res => res.1) res := by
  refine g_entZ (cc := cL_types) (maxL := 11) (by decide) rfl (Nat.le_of_ble_eq_true rfl) ?_
  intro p e s m args below meth c A Q ls hx hb hml hown hts hK hP hD hS hA hG hret hl
  unfold fL_types at h
  replace hl : lv_has ls 11 [(0, .ref g0), (1, .int p2)] := hl
  refine lv_iload_n hx hb dL_types_0 rfl (lv_at hl 1 rfl) ?_
  refine lv_iconst (v := (5 : Int32)) hx hb dL_types_1 (by decide) ?_
  obtain ⟨r1, hc2, h⟩ := bd1_s h
  refine g_callSBi (As := [.int p2, .int (5 : Int32)]) (rest := []) (r := r1) (bs1 := [[(g0, .inr (6, [.ref (an 0), .ref (au 0), .ref (ap 0), .ref q0, .ref x0, .ref r0, .int ke]))], [(q0, .inr (0, [.ref q1, .int lnn]))], wHa E q1 ba pm, wTx E x0 x1 x2 ch tl nu le nx, [(r0, .inr (3, [.ref (ar 0), .ref (aw 0), .int cmd, .int pos, .int rea, .int cau]))], wHuT E an xn, wHuT E au xt, wHuT E ap xp, wHuT E ar xr, wHuT E aw xw, wHuT E (ba 0) h0, wHuT E (ba 1) h1, wHuT E (ba 2) h2, wHuT E (ba 3) h3, wHuT E (ba 4) h4]) ⟨hx, hb, hml, hown, hts⟩ (kL_low E l p2 (5 : Int32) r1 hc2) (va_cwS 2 hts gL_types_L_low rfl rfl rfl (by decide +kernel) ⟨Nat.le_of_ble_eq_true rfl, Nat.le_of_ble_eq_true rfl⟩) hK hP hD hS hA hG hl [] (by decide) rfl rfl rfl rfl rfl rfl rfl (Nat.le_of_ble_eq_true rfl) dL_types_2 (Nat.zero_le _) (Nat.zero_le _) (fun H locs hP hD hS => ?_)
  refine lv_istore_n (lv' := [(2, .int r1), (0, .ref g0), (1, .int p2)]) hx hb dL_types_5 rfl hl (by decide) rfl (fun ls hl => ?_)
  refine lv_aload_n hx hb dL_types_6 rfl (lv_at hl 1 rfl) ?_
  obtain ⟨r3, tl_5, hc6, h⟩ := bd2_s h
  refine g_callBi (As := []) (rest := []) (r := r3) (bs1 := [[(g0, .inr (6, [.ref (an 0), .ref (au 0), .ref (ap 0), .ref q0, .ref x0, .ref r0, .int ke]))], [(q0, .inr (0, [.ref q1, .int lnn]))], wHa E q1 ba pm, wTx E x0 x1 x2 ch tl_5 nu le nx, [(r0, .inr (3, [.ref (ar 0), .ref (aw 0), .int cmd, .int pos, .int rea, .int cau]))], wHuT E an xn, wHuT E au xt, wHuT E ap xp, wHuT E ar xr, wHuT E aw xw, wHuT E (ba 0) h0, wHuT E (ba 1) h1, wHuT E (ba 2) h2, wHuT E (ba 3) h3, wHuT E (ba 4) h4]) ⟨hx, hb, hml, hown, hts⟩ (kX6_clearText E l g0 q0 q1 x0 x1 x2 r0 an au ap ar aw ba ke lnn pm ch tl nu le nx cmd pos rea cau xn xt xp xr xw h0 h1 h2 h3 h4 (r3, tl_5) hc6) (cwV 0 hts gL_types_X6_clearText rfl rfl rfl (by decide +kernel) ⟨Nat.le_of_ble_eq_true rfl, Nat.le_of_ble_eq_true rfl⟩) hK hP hD hS hA hG hl [0, 1, 2, 3, 4, 5, 6, 7, 8, 9, 10, 11, 12, 13, 14] 0 0 (by decide) rfl (ci := 6) rfl rfl rfl rfl rfl rfl rfl rfl rfl rfl (Nat.le_of_ble_eq_true rfl) dL_types_7 (Nat.zero_le _) (Nat.zero_le _) (fun H locs hP hD hS => ?_)
  refine lv_if_lt (tgt := 17) hx hb dL_types_10 (by decide) (fun hc7 => ?_) (fun hc7 => ?_)
  · replace h := g_it hc7 h
    cases h
  · replace h := g_if hc7 h
    refine lv_iconst (v := (1 : Int32)) hx hb dL_types_13 (by decide) ?_
    refine lv_goto (tgt := 18) hx hb dL_types_14 (by decide) ?_
    refine lv_istore_n (lv' := [(3, .int (1 : Int32)), (2, .int r1), (0, .ref g0), (1, .int p2)]) hx hb dL_types_18 rfl hl (by decide) rfl (fun ls hl => ?_)
    refine lv_iconst (v := (0 : Int32)) hx hb dL_types_19 (by decide) ?_
    refine lv_istore (lv' := [(4, .int (0 : Int32)), (3, .int (1 : Int32)), (2, .int r1), (0, .ref g0), (1, .int p2)]) hx hb dL_types_20 hl (by decide) rfl (fun ls hl => ?_)
    refine gl3_e h (fun S_rec8 hS_rec8 h => ?_)
    have hL_rec8 : ∀ (nF : Nat) (v9 : Int32) (ch10 : Nat → Int32) (tl11 : Int32) (H : Heap) (locs : List Loc) (ls : Array Slot), va_P E.1 vwCl (List.flatten [[(g0, .inr (6, [.ref (an 0), .ref (au 0), .ref (ap 0), .ref q0, .ref x0, .ref r0, .int ke]))], [(q0, .inr (0, [.ref q1, .int lnn]))], wHa E q1 ba pm, wTx E x0 x1 x2 ch10 tl11 nu le nx, [(r0, .inr (3, [.ref (ar 0), .ref (aw 0), .int cmd, .int pos, .int rea, .int cau]))], wHuT E an xn, wHuT E au xt, wHuT E ap xp, wHuT E ar xr, wHuT E aw xw, wHuT E (ba 0) h0, wHuT E (ba 1) h1, wHuT E (ba 2) h2, wHuT E (ba 3) h3, wHuT E (ba 4) h4]) H → va_S A s.heap H locs → lv_has ls 11 [(4, .int v9), (3, .int (1 : Int32)), (2, .int r1), (0, .ref g0), (1, .int p2)] → gl3 S_rec8 nF v9 ch10 tl11 = some res → W p l e ({ frames := 3, cells := 0, slots := 0, locals := 64 } : Room) s m args below meth c H locs 0 0 Q (F0 m 22 ls []) := by
      intro nF
      induction nF with
      | zero => intro v9 ch10 tl11 H locs ls hP hS hl h; exact gl3_z h
      | succ nF ih_rec8 =>
        intro v9 ch10 tl11 H locs ls hP hS hl h
        replace hD : va_D A (List.flatten [[(g0, .inr (6, [.ref (an 0), .ref (au 0), .ref (ap 0), .ref q0, .ref x0, .ref r0, .int ke]))], [(q0, .inr (0, [.ref q1, .int lnn]))], wHa E q1 ba pm, wTx E x0 x1 x2 ch10 tl11 nu le nx, [(r0, .inr (3, [.ref (ar 0), .ref (aw 0), .int cmd, .int pos, .int rea, .int cau]))], wHuT E an xn, wHuT E au xt, wHuT E ap xp, wHuT E ar xr, wHuT E aw xw, wHuT E (ba 0) h0, wHuT E (ba 1) h1, wHuT E (ba 2) h2, wHuT E (ba 3) h3, wHuT E (ba 4) h4]) := gD_same hD rfl
        replace h : S_rec8 (gl3 S_rec8 nF) v9 ch10 tl11 = some res := h
        generalize gl3 S_rec8 nF = rec8 at h ih_rec8
        subst hS_rec8
        unfold sL_types_rec8 at h
        refine lv_iload hx hb dL_types_22 (lv_at hl 0 rfl) ?_
        refine lv_iload_n hx hb dL_types_24 rfl (lv_at hl 2 rfl) ?_
        refine lv_icmp_ge (tgt := 410) hx hb dL_types_25 (by decide) (fun hc12 => ?_) (fun hc12 => ?_)
        · replace h := g_it hc12 h
          refine lv_iload_n hx hb dL_types_410 rfl (lv_at hl 1 rfl) ?_
          exact hret ((1 : Int32), ch10, tl11) _ _ _ _ _ (Option.some.inj h) hP hS rfl rfl dL_types_411
        · replace h := g_if hc12 h
          refine lv_iload_n hx hb dL_types_28 rfl (lv_at hl 4 rfl) ?_
          refine lv_iconst (v := (3 : Int32)) hx hb dL_types_29 (by decide) ?_
          refine lv_iconst (v := (5 : Int32)) hx hb dL_types_30 (by decide) ?_
          refine lv_iload hx hb dL_types_31 (lv_at hl 0 rfl) ?_
          refine lv_imul hx hb dL_types_33 ?_
          refine lv_iadd hx hb dL_types_34 ?_
          refine lv_ishr hx hb dL_types_35 ?_
          refine lv_topi (fun v13 e_v13 => ?_)
          replace h := jl_s e_v13 h
          refine lv_istore (lv' := [(5, .int v13), (4, .int v9), (3, .int (1 : Int32)), (2, .int r1), (0, .ref g0), (1, .int p2)]) hx hb dL_types_36 hl (by decide) rfl (fun ls hl => ?_)
          refine lv_iload hx hb dL_types_38 (lv_at hl 0 rfl) ?_
          refine lv_bipush (v := (9 : Int32)) hx hb dL_types_40 (by decide) ?_
          obtain ⟨r14, hc15, h⟩ := bd1_s h
          refine g_callSBi (As := [.int v13, .int (9 : Int32)]) (rest := []) (r := r14) (bs1 := [[(g0, .inr (6, [.ref (an 0), .ref (au 0), .ref (ap 0), .ref q0, .ref x0, .ref r0, .int ke]))], [(q0, .inr (0, [.ref q1, .int lnn]))], wHa E q1 ba pm, wTx E x0 x1 x2 ch10 tl11 nu le nx, [(r0, .inr (3, [.ref (ar 0), .ref (aw 0), .int cmd, .int pos, .int rea, .int cau]))], wHuT E an xn, wHuT E au xt, wHuT E ap xp, wHuT E ar xr, wHuT E aw xw, wHuT E (ba 0) h0, wHuT E (ba 1) h1, wHuT E (ba 2) h2, wHuT E (ba 3) h3, wHuT E (ba 4) h4]) ⟨hx, hb, hml, hown, hts⟩ (kL_low E l v13 (9 : Int32) r14 hc15) (va_cwS 2 hts gL_types_L_low rfl rfl rfl (by decide +kernel) ⟨Nat.le_of_ble_eq_true rfl, Nat.le_of_ble_eq_true rfl⟩) hK hP hD hS hA hG hl [] (by decide) rfl rfl rfl rfl rfl rfl rfl (Nat.le_of_ble_eq_true rfl) dL_types_42 (Nat.zero_le _) (Nat.zero_le _) (fun H locs hP hD hS => ?_)
          refine lv_istore (lv' := [(6, .int r14), (5, .int v13), (4, .int v9), (3, .int (1 : Int32)), (2, .int r1), (0, .ref g0), (1, .int p2)]) hx hb dL_types_45 hl (by decide) rfl (fun ls hl => ?_)
          refine lv_iload hx hb dL_types_47 (lv_at hl 0 rfl) ?_
          refine lv_iconst (v := (3 : Int32)) hx hb dL_types_49 (by decide) ?_
          refine mrg_e h (fun J17 hK_J17 h => ?_)
          have hJ_J17 : ∀ (v22 : Int32) (H : Heap) (locs : List Loc) (ls : Array Slot), va_P E.1 vwCl (List.flatten [[(g0, .inr (6, [.ref (an 0), .ref (au 0), .ref (ap 0), .ref q0, .ref x0, .ref r0, .int ke]))], [(q0, .inr (0, [.ref q1, .int lnn]))], wHa E q1 ba pm, wTx E x0 x1 x2 ch10 tl11 nu le nx, [(r0, .inr (3, [.ref (ar 0), .ref (aw 0), .int cmd, .int pos, .int rea, .int cau]))], wHuT E an xn, wHuT E au xt, wHuT E ap xp, wHuT E ar xr, wHuT E aw xw, wHuT E (ba 0) h0, wHuT E (ba 1) h1, wHuT E (ba 2) h2, wHuT E (ba 3) h3, wHuT E (ba 4) h4]) H → va_S A s.heap H locs → lv_has ls 11 [(6, .int r14), (5, .int v13), (4, .int v9), (3, .int (1 : Int32)), (2, .int r1), (0, .ref g0), (1, .int p2)] → J17 v22 = some res → W p l e ({ frames := 3, cells := 0, slots := 0, locals := 64 } : Room) s m args below meth c H locs 0 0 Q (F0 m 92 ls [.int v22]) := by
            intro v22 H locs ls hP hS hl h
            replace hD : va_D A (List.flatten [[(g0, .inr (6, [.ref (an 0), .ref (au 0), .ref (ap 0), .ref q0, .ref x0, .ref r0, .int ke]))], [(q0, .inr (0, [.ref q1, .int lnn]))], wHa E q1 ba pm, wTx E x0 x1 x2 ch10 tl11 nu le nx, [(r0, .inr (3, [.ref (ar 0), .ref (aw 0), .int cmd, .int pos, .int rea, .int cau]))], wHuT E an xn, wHuT E au xt, wHuT E ap xp, wHuT E ar xr, wHuT E aw xw, wHuT E (ba 0) h0, wHuT E (ba 1) h1, wHuT E (ba 2) h2, wHuT E (ba 3) h3, wHuT E (ba 4) h4]) := gD_same hD rfl
            subst hK_J17
            refine lv_istore (lv' := [(7, .int v22), (6, .int r14), (5, .int v13), (4, .int v9), (3, .int (1 : Int32)), (2, .int r1), (0, .ref g0), (1, .int p2)]) hx hb dL_types_92 hl (by decide) rfl (fun ls hl => ?_)
            refine lv_iload_n hx hb dL_types_94 rfl (lv_at hl 4 rfl) ?_
            refine lv_if_eq (tgt := 168) hx hb dL_types_95 (by decide) (fun hc => by first | exact absurd hc (by decide) | exact absurd (by decide) hc) (fun _ => ?_)
            refine lv_aload_n hx hb dL_types_98 rfl (lv_at hl 6 rfl) ?_
            refine lv_iload hx hb dL_types_99 (lv_at hl 1 rfl) ?_
            refine lv_iconst (v := (3 : Int32)) hx hb dL_types_101 (by decide) ?_
            refine mrg_e h (fun J24 hK_J24 h => ?_)
            have hJ_J24 : ∀ (v29 : Int32) (H : Heap) (locs : List Loc) (ls : Array Slot), va_P E.1 vwCl (List.flatten [[(g0, .inr (6, [.ref (an 0), .ref (au 0), .ref (ap 0), .ref q0, .ref x0, .ref r0, .int ke]))], [(q0, .inr (0, [.ref q1, .int lnn]))], wHa E q1 ba pm, wTx E x0 x1 x2 ch10 tl11 nu le nx, [(r0, .inr (3, [.ref (ar 0), .ref (aw 0), .int cmd, .int pos, .int rea, .int cau]))], wHuT E an xn, wHuT E au xt, wHuT E ap xp, wHuT E ar xr, wHuT E aw xw, wHuT E (ba 0) h0, wHuT E (ba 1) h1, wHuT E (ba 2) h2, wHuT E (ba 3) h3, wHuT E (ba 4) h4]) H → va_S A s.heap H locs → lv_has ls 11 [(7, .int v22), (6, .int r14), (5, .int v13), (4, .int v9), (2, .int r1), (0, .ref g0), (1, .int p2)] → J24 v29 = some res → W p l e ({ frames := 3, cells := 0, slots := 0, locals := 64 } : Room) s m args below meth c H locs 0 0 Q (F0 m 158 ls [.int v29, .ref g0]) := by
              intro v29 H locs ls hP hS hl h
              replace hD : va_D A (List.flatten [[(g0, .inr (6, [.ref (an 0), .ref (au 0), .ref (ap 0), .ref q0, .ref x0, .ref r0, .int ke]))], [(q0, .inr (0, [.ref q1, .int lnn]))], wHa E q1 ba pm, wTx E x0 x1 x2 ch10 tl11 nu le nx, [(r0, .inr (3, [.ref (ar 0), .ref (aw 0), .int cmd, .int pos, .int rea, .int cau]))], wHuT E an xn, wHuT E au xt, wHuT E ap xp, wHuT E ar xr, wHuT E aw xw, wHuT E (ba 0) h0, wHuT E (ba 1) h1, wHuT E (ba 2) h2, wHuT E (ba 3) h3, wHuT E (ba 4) h4]) := gD_same hD rfl
              subst hK_J24
              obtain ⟨r30, ch_32, tl_34, hc35, h⟩ := bd3_s h
              refine g_callBi (As := [.int v29]) (rest := []) (r := r30) (bs1 := [[(g0, .inr (6, [.ref (an 0), .ref (au 0), .ref (ap 0), .ref q0, .ref x0, .ref r0, .int ke]))], [(q0, .inr (0, [.ref q1, .int lnn]))], wHa E q1 ba pm, wTx E x0 x1 x2 ch_32 tl_34 nu le nx, [(r0, .inr (3, [.ref (ar 0), .ref (aw 0), .int cmd, .int pos, .int rea, .int cau]))], wHuT E an xn, wHuT E au xt, wHuT E ap xp, wHuT E ar xr, wHuT E aw xw, wHuT E (ba 0) h0, wHuT E (ba 1) h1, wHuT E (ba 2) h2, wHuT E (ba 3) h3, wHuT E (ba 4) h4]) ⟨hx, hb, hml, hown, hts⟩ (kX6_type E l g0 q0 q1 x0 x1 x2 r0 an au ap ar aw ba ke lnn pm ch10 tl11 nu le nx cmd pos rea cau xn xt xp xr xw h0 h1 h2 h3 h4 v29 (r30, ch_32, tl_34) hc35) (cwV 1 hts gL_types_X6_type rfl rfl rfl (by decide +kernel) ⟨Nat.le_of_ble_eq_true rfl, Nat.le_of_ble_eq_true rfl⟩) hK hP hD hS hA hG hl [0, 1, 2, 3, 4, 5, 6, 7, 8, 9, 10, 11, 12, 13, 14] 0 0 (by decide) rfl (ci := 6) rfl rfl rfl rfl rfl rfl rfl rfl rfl rfl (Nat.le_of_ble_eq_true rfl) dL_types_158 (Nat.zero_le _) (Nat.zero_le _) (fun H locs hP hD hS => ?_)
              refine lv_if_le (tgt := 168) hx hb dL_types_161 (by decide) (fun hc36 => ?_) (fun hc36 => ?_)
              · replace h := g_it hc36 h
                cases h
              · replace h := g_if hc36 h
                refine lv_iconst (v := (1 : Int32)) hx hb dL_types_164 (by decide) ?_
                refine lv_goto (tgt := 169) hx hb dL_types_165 (by decide) ?_
                refine lv_istore_n (lv' := [(3, .int (1 : Int32)), (7, .int v22), (6, .int r14), (5, .int v13), (4, .int v9), (2, .int r1), (0, .ref g0), (1, .int p2)]) hx hb dL_types_169 rfl hl (by decide) rfl (fun ls hl => ?_)
                refine lv_iconst (v := (0 : Int32)) hx hb dL_types_170 (by decide) ?_
                refine lv_istore (lv' := [(8, .int (0 : Int32)), (3, .int (1 : Int32)), (7, .int v22), (6, .int r14), (5, .int v13), (4, .int v9), (2, .int r1), (0, .ref g0), (1, .int p2)]) hx hb dL_types_171 hl (by decide) rfl (fun ls hl => ?_)
                refine gl3_e h (fun S_rec37 hS_rec37 h => ?_)
                have hL_rec37 : ∀ (nF : Nat) (v38 : Int32) (ch39 : Nat → Int32) (tl40 : Int32) (H : Heap) (locs : List Loc) (ls : Array Slot), va_P E.1 vwCl (List.flatten [[(g0, .inr (6, [.ref (an 0), .ref (au 0), .ref (ap 0), .ref q0, .ref x0, .ref r0, .int ke]))], [(q0, .inr (0, [.ref q1, .int lnn]))], wHa E q1 ba pm, wTx E x0 x1 x2 ch39 tl40 nu le nx, [(r0, .inr (3, [.ref (ar 0), .ref (aw 0), .int cmd, .int pos, .int rea, .int cau]))], wHuT E an xn, wHuT E au xt, wHuT E ap xp, wHuT E ar xr, wHuT E aw xw, wHuT E (ba 0) h0, wHuT E (ba 1) h1, wHuT E (ba 2) h2, wHuT E (ba 3) h3, wHuT E (ba 4) h4]) H → va_S A s.heap H locs → lv_has ls 11 [(8, .int v38), (3, .int (1 : Int32)), (7, .int v22), (6, .int r14), (5, .int v13), (4, .int v9), (2, .int r1), (0, .ref g0), (1, .int p2)] → gl3 S_rec37 nF v38 ch39 tl40 = some res → W p l e ({ frames := 3, cells := 0, slots := 0, locals := 64 } : Room) s m args below meth c H locs 0 0 Q (F0 m 173 ls []) := by
                  intro nF
                  induction nF with
                  | zero => intro v38 ch39 tl40 H locs ls hP hS hl h; exact gl3_z h
                  | succ nF ih_rec37 =>
                    intro v38 ch39 tl40 H locs ls hP hS hl h
                    replace hD : va_D A (List.flatten [[(g0, .inr (6, [.ref (an 0), .ref (au 0), .ref (ap 0), .ref q0, .ref x0, .ref r0, .int ke]))], [(q0, .inr (0, [.ref q1, .int lnn]))], wHa E q1 ba pm, wTx E x0 x1 x2 ch39 tl40 nu le nx, [(r0, .inr (3, [.ref (ar 0), .ref (aw 0), .int cmd, .int pos, .int rea, .int cau]))], wHuT E an xn, wHuT E au xt, wHuT E ap xp, wHuT E ar xr, wHuT E aw xw, wHuT E (ba 0) h0, wHuT E (ba 1) h1, wHuT E (ba 2) h2, wHuT E (ba 3) h3, wHuT E (ba 4) h4]) := gD_same hD rfl
                    replace h : S_rec37 (gl3 S_rec37 nF) v38 ch39 tl40 = some res := h
                    generalize gl3 S_rec37 nF = rec37 at h ih_rec37
                    subst hS_rec37
                    unfold sL_types_rec37 at h
                    refine lv_iload hx hb dL_types_173 (lv_at hl 0 rfl) ?_
                    refine lv_iload hx hb dL_types_175 (lv_at hl 2 rfl) ?_
                    refine lv_icmp_ge (tgt := 348) hx hb dL_types_177 (by decide) (fun hc41 => ?_) (fun hc41 => ?_)
                    · replace h := g_it hc41 h
                      refine lv_iload_n hx hb dL_types_348 rfl (lv_at hl 1 rfl) ?_
                      refine lv_if_eq (tgt := 402) hx hb dL_types_349 (by decide) (fun hc => by first | exact absurd hc (by decide) | exact absurd (by decide) hc) (fun _ => ?_)
                      refine lv_iload_n hx hb dL_types_352 rfl (lv_at hl 8 rfl) ?_
                      refine lv_bipush (v := (24 : Int32)) hx hb dL_types_353 (by decide) ?_
                      refine lv_ishr hx hb dL_types_355 ?_
                      refine lv_bipush (v := (6 : Int32)) hx hb dL_types_356 (by decide) ?_
                      obtain ⟨r42, hc43, h⟩ := bd1_s h
                      refine g_callSBi (As := [.int (p2 >>> ((24 : Int32) &&& 31)), .int (6 : Int32)]) (rest := []) (r := r42) (bs1 := [[(g0, .inr (6, [.ref (an 0), .ref (au 0), .ref (ap 0), .ref q0, .ref x0, .ref r0, .int ke]))], [(q0, .inr (0, [.ref q1, .int lnn]))], wHa E q1 ba pm, wTx E x0 x1 x2 ch39 tl40 nu le nx, [(r0, .inr (3, [.ref (ar 0), .ref (aw 0), .int cmd, .int pos, .int rea, .int cau]))], wHuT E an xn, wHuT E au xt, wHuT E ap xp, wHuT E ar xr, wHuT E aw xw, wHuT E (ba 0) h0, wHuT E (ba 1) h1, wHuT E (ba 2) h2, wHuT E (ba 3) h3, wHuT E (ba 4) h4]) ⟨hx, hb, hml, hown, hts⟩ (kL_low E l (p2 >>> ((24 : Int32) &&& 31)) (6 : Int32) r42 hc43) (va_cwS 2 hts gL_types_L_low rfl rfl rfl (by decide +kernel) ⟨Nat.le_of_ble_eq_true rfl, Nat.le_of_ble_eq_true rfl⟩) hK hP hD hS hA hG hl [] (by decide) rfl rfl rfl rfl rfl rfl rfl (Nat.le_of_ble_eq_true rfl) dL_types_358 (Nat.zero_le _) (Nat.zero_le _) (fun H locs hP hD hS => ?_)
                      refine mrg_e h (fun J45 hK_J45 h => ?_)
                      have hJ_J45 : ∀ (_ : Unit) (H : Heap) (locs : List Loc) (ls : Array Slot), va_P E.1 vwCl (List.flatten [[(g0, .inr (6, [.ref (an 0), .ref (au 0), .ref (ap 0), .ref q0, .ref x0, .ref r0, .int ke]))], [(q0, .inr (0, [.ref q1, .int lnn]))], wHa E q1 ba pm, wTx E x0 x1 x2 ch39 tl40 nu le nx, [(r0, .inr (3, [.ref (ar 0), .ref (aw 0), .int cmd, .int pos, .int rea, .int cau]))], wHuT E an xn, wHuT E au xt, wHuT E ap xp, wHuT E ar xr, wHuT E aw xw, wHuT E (ba 0) h0, wHuT E (ba 1) h1, wHuT E (ba 2) h2, wHuT E (ba 3) h3, wHuT E (ba 4) h4]) H → va_S A s.heap H locs → lv_has ls 11 [(4, .int v9), (2, .int r1), (0, .ref g0), (1, .int p2)] → J45 () = some res → W p l e ({ frames := 3, cells := 0, slots := 0, locals := 64 } : Room) s m args below meth c H locs 0 0 Q (F0 m 372 ls []) := by
                        intro _ H locs ls hP hS hl h
                        replace hD : va_D A (List.flatten [[(g0, .inr (6, [.ref (an 0), .ref (au 0), .ref (ap 0), .ref q0, .ref x0, .ref r0, .int ke]))], [(q0, .inr (0, [.ref q1, .int lnn]))], wHa E q1 ba pm, wTx E x0 x1 x2 ch39 tl40 nu le nx, [(r0, .inr (3, [.ref (ar 0), .ref (aw 0), .int cmd, .int pos, .int rea, .int cau]))], wHuT E an xn, wHuT E au xt, wHuT E ap xp, wHuT E ar xr, wHuT E aw xw, wHuT E (ba 0) h0, wHuT E (ba 1) h1, wHuT E (ba 2) h2, wHuT E (ba 3) h3, wHuT E (ba 4) h4]) := gD_same hD rfl
                        subst hK_J45
                        refine lv_aload_n hx hb dL_types_372 rfl (lv_at hl 2 rfl) ?_
                        refine lv_iload_n hx hb dL_types_373 rfl (lv_at hl 3 rfl) ?_
                        refine lv_bipush (v := (20 : Int32)) hx hb dL_types_374 (by decide) ?_
                        refine lv_ishr hx hb dL_types_376 ?_
                        refine lv_bipush (v := (11 : Int32)) hx hb dL_types_377 (by decide) ?_
                        obtain ⟨r48, hc49, h⟩ := bd1_s h
                        refine g_callSBi (As := [.int (p2 >>> ((20 : Int32) &&& 31)), .int (11 : Int32)]) (rest := [.ref g0]) (r := r48) (bs1 := [[(g0, .inr (6, [.ref (an 0), .ref (au 0), .ref (ap 0), .ref q0, .ref x0, .ref r0, .int ke]))], [(q0, .inr (0, [.ref q1, .int lnn]))], wHa E q1 ba pm, wTx E x0 x1 x2 ch39 tl40 nu le nx, [(r0, .inr (3, [.ref (ar 0), .ref (aw 0), .int cmd, .int pos, .int rea, .int cau]))], wHuT E an xn, wHuT E au xt, wHuT E ap xp, wHuT E ar xr, wHuT E aw xw, wHuT E (ba 0) h0, wHuT E (ba 1) h1, wHuT E (ba 2) h2, wHuT E (ba 3) h3, wHuT E (ba 4) h4]) ⟨hx, hb, hml, hown, hts⟩ (kL_low E l (p2 >>> ((20 : Int32) &&& 31)) (11 : Int32) r48 hc49) (va_cwS 2 hts gL_types_L_low rfl rfl rfl (by decide +kernel) ⟨Nat.le_of_ble_eq_true rfl, Nat.le_of_ble_eq_true rfl⟩) hK hP hD hS hA hG hl [] (by decide) rfl rfl rfl rfl rfl rfl rfl (Nat.le_of_ble_eq_true rfl) dL_types_379 (Nat.zero_le _) (Nat.zero_le _) (fun H locs hP hD hS => ?_)
                        refine mrg_e h (fun J51 hK_J51 h => ?_)
                        have hJ_J51 : ∀ (v52 : Int32) (H : Heap) (locs : List Loc) (ls : Array Slot), va_P E.1 vwCl (List.flatten [[(g0, .inr (6, [.ref (an 0), .ref (au 0), .ref (ap 0), .ref q0, .ref x0, .ref r0, .int ke]))], [(q0, .inr (0, [.ref q1, .int lnn]))], wHa E q1 ba pm, wTx E x0 x1 x2 ch39 tl40 nu le nx, [(r0, .inr (3, [.ref (ar 0), .ref (aw 0), .int cmd, .int pos, .int rea, .int cau]))], wHuT E an xn, wHuT E au xt, wHuT E ap xp, wHuT E ar xr, wHuT E aw xw, wHuT E (ba 0) h0, wHuT E (ba 1) h1, wHuT E (ba 2) h2, wHuT E (ba 3) h3, wHuT E (ba 4) h4]) H → va_S A s.heap H locs → lv_has ls 11 [(4, .int v9), (2, .int r1), (0, .ref g0), (1, .int p2)] → J51 v52 = some res → W p l e ({ frames := 3, cells := 0, slots := 0, locals := 64 } : Room) s m args below meth c H locs 0 0 Q (F0 m 392 ls [.int v52, .ref g0]) := by
                          intro v52 H locs ls hP hS hl h
                          replace hD : va_D A (List.flatten [[(g0, .inr (6, [.ref (an 0), .ref (au 0), .ref (ap 0), .ref q0, .ref x0, .ref r0, .int ke]))], [(q0, .inr (0, [.ref q1, .int lnn]))], wHa E q1 ba pm, wTx E x0 x1 x2 ch39 tl40 nu le nx, [(r0, .inr (3, [.ref (ar 0), .ref (aw 0), .int cmd, .int pos, .int rea, .int cau]))], wHuT E an xn, wHuT E au xt, wHuT E ap xp, wHuT E ar xr, wHuT E aw xw, wHuT E (ba 0) h0, wHuT E (ba 1) h1, wHuT E (ba 2) h2, wHuT E (ba 3) h3, wHuT E (ba 4) h4]) := gD_same hD rfl
                          subst hK_J51
                          obtain ⟨r53, ch_55, tl_57, hc58, h⟩ := bd3_s h
                          refine g_callBi (As := [.int v52]) (rest := []) (r := r53) (bs1 := [[(g0, .inr (6, [.ref (an 0), .ref (au 0), .ref (ap 0), .ref q0, .ref x0, .ref r0, .int ke]))], [(q0, .inr (0, [.ref q1, .int lnn]))], wHa E q1 ba pm, wTx E x0 x1 x2 ch_55 tl_57 nu le nx, [(r0, .inr (3, [.ref (ar 0), .ref (aw 0), .int cmd, .int pos, .int rea, .int cau]))], wHuT E an xn, wHuT E au xt, wHuT E ap xp, wHuT E ar xr, wHuT E aw xw, wHuT E (ba 0) h0, wHuT E (ba 1) h1, wHuT E (ba 2) h2, wHuT E (ba 3) h3, wHuT E (ba 4) h4]) ⟨hx, hb, hml, hown, hts⟩ (kX6_type E l g0 q0 q1 x0 x1 x2 r0 an au ap ar aw ba ke lnn pm ch39 tl40 nu le nx cmd pos rea cau xn xt xp xr xw h0 h1 h2 h3 h4 v52 (r53, ch_55, tl_57) hc58) (cwV 1 hts gL_types_X6_type rfl rfl rfl (by decide +kernel) ⟨Nat.le_of_ble_eq_true rfl, Nat.le_of_ble_eq_true rfl⟩) hK hP hD hS hA hG hl [0, 1, 2, 3, 4, 5, 6, 7, 8, 9, 10, 11, 12, 13, 14] 0 0 (by decide) rfl (ci := 6) rfl rfl rfl rfl rfl rfl rfl rfl rfl rfl (Nat.le_of_ble_eq_true rfl) dL_types_392 (Nat.zero_le _) (Nat.zero_le _) (fun H locs hP hD hS => ?_)
                          refine lv_if_le (tgt := 402) hx hb dL_types_395 (by decide) (fun hc59 => ?_) (fun hc59 => ?_)
                          · replace h := g_it hc59 h
                            cases h
                          · replace h := g_if hc59 h
                            refine lv_iconst (v := (1 : Int32)) hx hb dL_types_398 (by decide) ?_
                            refine lv_goto (tgt := 403) hx hb dL_types_399 (by decide) ?_
                            refine lv_istore_n (lv' := [(3, .int (1 : Int32)), (4, .int v9), (2, .int r1), (0, .ref g0), (1, .int p2)]) hx hb dL_types_403 rfl hl (by decide) rfl (fun ls hl => ?_)
                            obtain ⟨v60, e_v60⟩ : ∃ y : Int32, y = (v9 + (1 : Int32)) := ⟨_, rfl⟩
                            replace h := jl_s e_v60 h
                            refine lv_iinc (v := v60) (lv' := [(4, .int v60), (3, .int (1 : Int32)), (2, .int r1), (0, .ref g0), (1, .int p2)]) hx hb dL_types_404 hl (k := 1) rfl (by rw [e_v60]; rfl) (by decide) rfl (fun ls hl => ?_)
                            refine lv_goto (tgt := 22) hx hb dL_types_407 (by decide) ?_
                            exact ih_rec8 v60 ch_55 tl_57 _ _ _ hP hS (lv_sub hl [0, 1, 2, 3, 4] rfl) h
                        refine lv_if_ne (tgt := 390) hx hb dL_types_382 (by decide) (fun hc50 => ?_) (fun hc50 => ?_)
                        · replace h := g_if hc50 h
                          refine lv_bipush (v := (59 : Int32)) hx hb dL_types_390 (by decide) ?_
                          exact hJ_J51 (59 : Int32) _ _ _ hP hS (lv_sub hl [0, 1, 2, 3] rfl) h
                        · replace h := g_it hc50 h
                          refine lv_bipush (v := (46 : Int32)) hx hb dL_types_385 (by decide) ?_
                          refine lv_goto (tgt := 392) hx hb dL_types_387 (by decide) ?_
                          exact hJ_J51 (46 : Int32) _ _ _ hP hS (lv_sub hl [0, 1, 2, 3] rfl) h
                      refine lv_if_ne (tgt := 372) hx hb dL_types_361 (by decide) (fun hc44 => ?_) (fun hc44 => ?_)
                      · replace h := g_if hc44 h
                        exact hJ_J45 () _ _ _ hP hS (lv_sub hl [5, 6, 7, 8] rfl) h
                      · replace h := g_it hc44 h
                        refine lv_iload hx hb dL_types_364 (lv_at hl 5 rfl) ?_
                        refine lv_iload_n hx hb dL_types_366 rfl (lv_at hl 6 rfl) ?_
                        refine lv_iconst (v := (1 : Int32)) hx hb dL_types_367 (by decide) ?_
                        refine lv_isub hx hb dL_types_368 ?_
                        refine lv_icmp_eq (tgt := 398) hx hb dL_types_369 (by decide) (fun hc46 => ?_) (fun hc46 => ?_)
                        · replace h := g_it hc46 h
                          refine lv_iconst (v := (1 : Int32)) hx hb dL_types_398 (by decide) ?_
                          refine lv_goto (tgt := 403) hx hb dL_types_399 (by decide) ?_
                          refine lv_istore_n (lv' := [(3, .int (1 : Int32)), (8, .int v38), (7, .int v22), (6, .int r14), (5, .int v13), (4, .int v9), (2, .int r1), (0, .ref g0), (1, .int p2)]) hx hb dL_types_403 rfl hl (by decide) rfl (fun ls hl => ?_)
                          obtain ⟨v47, e_v47⟩ : ∃ y : Int32, y = (v9 + (1 : Int32)) := ⟨_, rfl⟩
                          replace h := jl_s e_v47 h
                          refine lv_iinc (v := v47) (lv' := [(4, .int v47), (3, .int (1 : Int32)), (8, .int v38), (7, .int v22), (6, .int r14), (5, .int v13), (2, .int r1), (0, .ref g0), (1, .int p2)]) hx hb dL_types_404 hl (k := 5) rfl (by rw [e_v47]; rfl) (by decide) rfl (fun ls hl => ?_)
                          refine lv_goto (tgt := 22) hx hb dL_types_407 (by decide) ?_
                          exact ih_rec8 v47 ch39 tl40 _ _ _ hP hS (lv_sub hl [0, 1, 6, 7, 8] rfl) h
                        · replace h := g_if hc46 h
                          exact hJ_J45 () _ _ _ hP hS (lv_sub hl [5, 6, 7, 8] rfl) h
                    · replace h := g_if hc41 h
                      refine lv_iload hx hb dL_types_180 (lv_at hl 3 rfl) ?_
                      refine lv_iconst (v := (3 : Int32)) hx hb dL_types_182 (by decide) ?_
                      refine mrg_e h (fun J62 hK_J62 h => ?_)
                      have hJ_J62 : ∀ (v68 : Int32) (H : Heap) (locs : List Loc) (ls : Array Slot), va_P E.1 vwCl (List.flatten [[(g0, .inr (6, [.ref (an 0), .ref (au 0), .ref (ap 0), .ref q0, .ref x0, .ref r0, .int ke]))], [(q0, .inr (0, [.ref q1, .int lnn]))], wHa E q1 ba pm, wTx E x0 x1 x2 ch39 tl40 nu le nx, [(r0, .inr (3, [.ref (ar 0), .ref (aw 0), .int cmd, .int pos, .int rea, .int cau]))], wHuT E an xn, wHuT E au xt, wHuT E ap xp, wHuT E ar xr, wHuT E aw xw, wHuT E (ba 0) h0, wHuT E (ba 1) h1, wHuT E (ba 2) h2, wHuT E (ba 3) h3, wHuT E (ba 4) h4]) H → va_S A s.heap H locs → lv_has ls 11 [(8, .int v38), (3, .int (1 : Int32)), (7, .int v22), (6, .int r14), (5, .int v13), (4, .int v9), (2, .int r1), (0, .ref g0), (1, .int p2)] → J62 v68 = some res → W p l e ({ frames := 3, cells := 0, slots := 0, locals := 64 } : Room) s m args below meth c H locs 0 0 Q (F0 m 242 ls [.int v68]) := by
                        intro v68 H locs ls hP hS hl h
                        replace hD : va_D A (List.flatten [[(g0, .inr (6, [.ref (an 0), .ref (au 0), .ref (ap 0), .ref q0, .ref x0, .ref r0, .int ke]))], [(q0, .inr (0, [.ref q1, .int lnn]))], wHa E q1 ba pm, wTx E x0 x1 x2 ch39 tl40 nu le nx, [(r0, .inr (3, [.ref (ar 0), .ref (aw 0), .int cmd, .int pos, .int rea, .int cau]))], wHuT E an xn, wHuT E au xt, wHuT E ap xp, wHuT E ar xr, wHuT E aw xw, wHuT E (ba 0) h0, wHuT E (ba 1) h1, wHuT E (ba 2) h2, wHuT E (ba 3) h3, wHuT E (ba 4) h4]) := gD_same hD rfl
                        subst hK_J62
                        refine lv_istore (lv' := [(9, .int v68), (8, .int v38), (3, .int (1 : Int32)), (7, .int v22), (6, .int r14), (5, .int v13), (4, .int v9), (2, .int r1), (0, .ref g0), (1, .int p2)]) hx hb dL_types_242 hl (by decide) rfl (fun ls hl => ?_)
                        refine lv_iload hx hb dL_types_244 (lv_at hl 4 rfl) ?_
                        refine lv_iconst (v := (4 : Int32)) hx hb dL_types_246 (by decide) ?_
                        refine mrg_e h (fun J70 hK_J70 h => ?_)
                        have hJ_J70 : ∀ (v81 : Int32) (H : Heap) (locs : List Loc) (ls : Array Slot), va_P E.1 vwCl (List.flatten [[(g0, .inr (6, [.ref (an 0), .ref (au 0), .ref (ap 0), .ref q0, .ref x0, .ref r0, .int ke]))], [(q0, .inr (0, [.ref q1, .int lnn]))], wHa E q1 ba pm, wTx E x0 x1 x2 ch39 tl40 nu le nx, [(r0, .inr (3, [.ref (ar 0), .ref (aw 0), .int cmd, .int pos, .int rea, .int cau]))], wHuT E an xn, wHuT E au xt, wHuT E ap xp, wHuT E ar xr, wHuT E aw xw, wHuT E (ba 0) h0, wHuT E (ba 1) h1, wHuT E (ba 2) h2, wHuT E (ba 3) h3, wHuT E (ba 4) h4]) H → va_S A s.heap H locs → lv_has ls 11 [(9, .int v68), (8, .int v38), (3, .int (1 : Int32)), (7, .int v22), (6, .int r14), (5, .int v13), (4, .int v9), (2, .int r1), (0, .ref g0), (1, .int p2)] → J70 v81 = some res → W p l e ({ frames := 3, cells := 0, slots := 0, locals := 64 } : Room) s m args below meth c H locs 0 0 Q (F0 m 294 ls [.int v81]) := by
                          intro v81 H locs ls hP hS hl h
                          replace hD : va_D A (List.flatten [[(g0, .inr (6, [.ref (an 0), .ref (au 0), .ref (ap 0), .ref q0, .ref x0, .ref r0, .int ke]))], [(q0, .inr (0, [.ref q1, .int lnn]))], wHa E q1 ba pm, wTx E x0 x1 x2 ch39 tl40 nu le nx, [(r0, .inr (3, [.ref (ar 0), .ref (aw 0), .int cmd, .int pos, .int rea, .int cau]))], wHuT E an xn, wHuT E au xt, wHuT E ap xp, wHuT E ar xr, wHuT E aw xw, wHuT E (ba 0) h0, wHuT E (ba 1) h1, wHuT E (ba 2) h2, wHuT E (ba 3) h3, wHuT E (ba 4) h4]) := gD_same hD rfl
                          subst hK_J70
                          refine lv_istore (lv' := [(10, .int v81), (9, .int v68), (8, .int v38), (3, .int (1 : Int32)), (7, .int v22), (6, .int r14), (5, .int v13), (4, .int v9), (2, .int r1), (0, .ref g0), (1, .int p2)]) hx hb dL_types_294 hl (by decide) rfl (fun ls hl => ?_)
                          refine lv_iload_n hx hb dL_types_296 rfl (lv_at hl 3 rfl) ?_
                          refine lv_if_eq (tgt := 340) hx hb dL_types_297 (by decide) (fun hc => by first | exact absurd hc (by decide) | exact absurd (by decide) hc) (fun _ => ?_)
                          refine lv_iload hx hb dL_types_300 (lv_at hl 2 rfl) ?_
                          refine mrg_e h (fun J83 hK_J83 h => ?_)
                          have hJ_J83 : ∀ (ch91 : Nat → Int32) (tl92 : Int32) (H : Heap) (locs : List Loc) (ls : Array Slot), va_P E.1 vwCl (List.flatten [[(g0, .inr (6, [.ref (an 0), .ref (au 0), .ref (ap 0), .ref q0, .ref x0, .ref r0, .int ke]))], [(q0, .inr (0, [.ref q1, .int lnn]))], wHa E q1 ba pm, wTx E x0 x1 x2 ch91 tl92 nu le nx, [(r0, .inr (3, [.ref (ar 0), .ref (aw 0), .int cmd, .int pos, .int rea, .int cau]))], wHuT E an xn, wHuT E au xt, wHuT E ap xp, wHuT E ar xr, wHuT E aw xw, wHuT E (ba 0) h0, wHuT E (ba 1) h1, wHuT E (ba 2) h2, wHuT E (ba 3) h3, wHuT E (ba 4) h4]) H → va_S A s.heap H locs → lv_has ls 11 [(10, .int v81), (9, .int v68), (8, .int v38), (7, .int v22), (6, .int r14), (5, .int v13), (4, .int v9), (2, .int r1), (0, .ref g0), (1, .int p2)] → J83 ch91 tl92 = some res → W p l e ({ frames := 3, cells := 0, slots := 0, locals := 64 } : Room) s m args below meth c H locs 0 0 Q (F0 m 314 ls []) := by
                            intro ch91 tl92 H locs ls hP hS hl h
                            replace hD : va_D A (List.flatten [[(g0, .inr (6, [.ref (an 0), .ref (au 0), .ref (ap 0), .ref q0, .ref x0, .ref r0, .int ke]))], [(q0, .inr (0, [.ref q1, .int lnn]))], wHa E q1 ba pm, wTx E x0 x1 x2 ch91 tl92 nu le nx, [(r0, .inr (3, [.ref (ar 0), .ref (aw 0), .int cmd, .int pos, .int rea, .int cau]))], wHuT E an xn, wHuT E au xt, wHuT E ap xp, wHuT E ar xr, wHuT E aw xw, wHuT E (ba 0) h0, wHuT E (ba 1) h1, wHuT E (ba 2) h2, wHuT E (ba 3) h3, wHuT E (ba 4) h4]) := gD_same hD rfl
                            subst hK_J83
                            refine lv_aload_n hx hb dL_types_314 rfl (lv_at hl 8 rfl) ?_
                            refine lv_iload hx hb dL_types_315 (lv_at hl 0 rfl) ?_
                            refine lv_iload hx hb dL_types_317 (lv_at hl 5 rfl) ?_
                            refine lv_iconst (v := (2 : Int32)) hx hb dL_types_319 (by decide) ?_
                            refine lv_iload hx hb dL_types_320 (lv_at hl 2 rfl) ?_
                            refine lv_iadd hx hb dL_types_322 ?_
                            refine lv_ishr hx hb dL_types_323 ?_
                            refine lv_iload hx hb dL_types_324 (lv_at hl 1 rfl) ?_
                            obtain ⟨r93, hc94, h⟩ := bd1_s h
                            refine g_callSBi (As := [.int (v13 >>> (((2 : Int32) + v38) &&& 31)), .int v68]) (rest := [.int v81, .ref g0]) (r := r93) (bs1 := [[(g0, .inr (6, [.ref (an 0), .ref (au 0), .ref (ap 0), .ref q0, .ref x0, .ref r0, .int ke]))], [(q0, .inr (0, [.ref q1, .int lnn]))], wHa E q1 ba pm, wTx E x0 x1 x2 ch91 tl92 nu le nx, [(r0, .inr (3, [.ref (ar 0), .ref (aw 0), .int cmd, .int pos, .int rea, .int cau]))], wHuT E an xn, wHuT E au xt, wHuT E ap xp, wHuT E ar xr, wHuT E aw xw, wHuT E (ba 0) h0, wHuT E (ba 1) h1, wHuT E (ba 2) h2, wHuT E (ba 3) h3, wHuT E (ba 4) h4]) ⟨hx, hb, hml, hown, hts⟩ (kL_low E l (v13 >>> (((2 : Int32) + v38) &&& 31)) v68 r93 hc94) (va_cwS 2 hts gL_types_L_low rfl rfl rfl (by decide +kernel) ⟨Nat.le_of_ble_eq_true rfl, Nat.le_of_ble_eq_true rfl⟩) hK hP hD hS hA hG hl [] (by decide) rfl rfl rfl rfl rfl rfl rfl (Nat.le_of_ble_eq_true rfl) dL_types_326 (Nat.zero_le _) (Nat.zero_le _) (fun H locs hP hD hS => ?_)
                            refine lv_iadd hx hb dL_types_329 ?_
                            obtain ⟨r95, ch_96, tl_97, hc98, h⟩ := bd3_s h
                            refine g_callSBi (As := [.ref g0, .int (v81 + r93)]) (rest := []) (r := r95) (bs1 := [[(g0, .inr (6, [.ref (an 0), .ref (au 0), .ref (ap 0), .ref q0, .ref x0, .ref r0, .int ke]))], [(q0, .inr (0, [.ref q1, .int lnn]))], wHa E q1 ba pm, wTx E x0 x1 x2 ch_96 tl_97 nu le nx, [(r0, .inr (3, [.ref (ar 0), .ref (aw 0), .int cmd, .int pos, .int rea, .int cau]))], wHuT E an xn, wHuT E au xt, wHuT E ap xp, wHuT E ar xr, wHuT E aw xw, wHuT E (ba 0) h0, wHuT E (ba 1) h1, wHuT E (ba 2) h2, wHuT E (ba 3) h3, wHuT E (ba 4) h4]) ⟨hx, hb, hml, hown, hts⟩ (kL_digits E l g0 q0 q1 x0 x1 x2 r0 an au ap ar aw ba ke lnn pm ch91 tl92 nu le nx cmd pos rea cau xn xt xp xr xw h0 h1 h2 h3 h4 (v81 + r93) (r95, ch_96, tl_97) hc98) (va_cwS 2 hts gL_types_L_digits rfl rfl rfl (by decide +kernel) ⟨Nat.le_of_ble_eq_true rfl, Nat.le_of_ble_eq_true rfl⟩) hK hP hD hS hA hG hl [0, 1, 2, 3, 4, 5, 6, 7, 8, 9, 10, 11, 12, 13, 14] (by decide) rfl rfl rfl rfl rfl rfl rfl (Nat.le_of_ble_eq_true rfl) dL_types_330 (Nat.zero_le _) (Nat.zero_le _) (fun H locs hP hD hS => ?_)
                            refine lv_if_eq (tgt := 340) hx hb dL_types_333 (by decide) (fun hc99 => ?_) (fun hc99 => ?_)
                            · replace h := g_it hc99 h
                              cases h
                            · replace h := g_if hc99 h
                              refine lv_iconst (v := (1 : Int32)) hx hb dL_types_336 (by decide) ?_
                              refine lv_goto (tgt := 341) hx hb dL_types_337 (by decide) ?_
                              refine lv_istore_n (lv' := [(3, .int (1 : Int32)), (10, .int v81), (9, .int v68), (8, .int v38), (7, .int v22), (6, .int r14), (5, .int v13), (4, .int v9), (2, .int r1), (0, .ref g0), (1, .int p2)]) hx hb dL_types_341 rfl hl (by decide) rfl (fun ls hl => ?_)
                              obtain ⟨v100, e_v100⟩ : ∃ y : Int32, y = (v38 + (1 : Int32)) := ⟨_, rfl⟩
                              replace h := jl_s e_v100 h
                              refine lv_iinc (v := v100) (lv' := [(8, .int v100), (3, .int (1 : Int32)), (10, .int v81), (9, .int v68), (7, .int v22), (6, .int r14), (5, .int v13), (4, .int v9), (2, .int r1), (0, .ref g0), (1, .int p2)]) hx hb dL_types_342 hl (k := 3) rfl (by rw [e_v100]; rfl) (by decide) rfl (fun ls hl => ?_)
                              refine lv_goto (tgt := 173) hx hb dL_types_345 (by decide) ?_
                              exact ih_rec37 v100 ch_96 tl_97 _ _ _ hP hS (lv_sub hl [0, 1, 4, 5, 6, 7, 8, 9, 10] rfl) h
                          refine lv_if_eq (tgt := 314) hx hb dL_types_302 (by decide) (fun hc82 => ?_) (fun hc82 => ?_)
                          · replace h := g_it hc82 h
                            exact hJ_J83 ch39 tl40 _ _ _ hP hS (lv_sub hl [0, 1, 2, 4, 5, 6, 7, 8, 9, 10] rfl) h
                          · replace h := g_if hc82 h
                            refine lv_aload_n hx hb dL_types_305 rfl (lv_at hl 9 rfl) ?_
                            refine lv_bipush (v := (44 : Int32)) hx hb dL_types_306 (by decide) ?_
                            obtain ⟨r84, ch_86, tl_88, hc89, h⟩ := bd3_s h
                            refine g_callBi (As := [.int (44 : Int32)]) (rest := []) (r := r84) (bs1 := [[(g0, .inr (6, [.ref (an 0), .ref (au 0), .ref (ap 0), .ref q0, .ref x0, .ref r0, .int ke]))], [(q0, .inr (0, [.ref q1, .int lnn]))], wHa E q1 ba pm, wTx E x0 x1 x2 ch_86 tl_88 nu le nx, [(r0, .inr (3, [.ref (ar 0), .ref (aw 0), .int cmd, .int pos, .int rea, .int cau]))], wHuT E an xn, wHuT E au xt, wHuT E ap xp, wHuT E ar xr, wHuT E aw xw, wHuT E (ba 0) h0, wHuT E (ba 1) h1, wHuT E (ba 2) h2, wHuT E (ba 3) h3, wHuT E (ba 4) h4]) ⟨hx, hb, hml, hown, hts⟩ (kX6_type E l g0 q0 q1 x0 x1 x2 r0 an au ap ar aw ba ke lnn pm ch39 tl40 nu le nx cmd pos rea cau xn xt xp xr xw h0 h1 h2 h3 h4 (44 : Int32) (r84, ch_86, tl_88) hc89) (cwV 1 hts gL_types_X6_type rfl rfl rfl (by decide +kernel) ⟨Nat.le_of_ble_eq_true rfl, Nat.le_of_ble_eq_true rfl⟩) hK hP hD hS hA hG hl [0, 1, 2, 3, 4, 5, 6, 7, 8, 9, 10, 11, 12, 13, 14] 0 0 (by decide) rfl (ci := 6) rfl rfl rfl rfl rfl rfl rfl rfl rfl rfl (Nat.le_of_ble_eq_true rfl) dL_types_308 (Nat.zero_le _) (Nat.zero_le _) (fun H locs hP hD hS => ?_)
                            refine lv_if_le (tgt := 340) hx hb dL_types_311 (by decide) (fun hc90 => ?_) (fun hc90 => ?_)
                            · replace h := g_it hc90 h
                              cases h
                            · replace h := g_if hc90 h
                              exact hJ_J83 ch_86 tl_88 _ _ _ hP hS (lv_sub hl [0, 1, 2, 4, 5, 6, 7, 8, 9, 10] rfl) h
                        refine lv_icmp_le (tgt := 293) hx hb dL_types_247 (by decide) (fun hc69 => ?_) (fun hc69 => ?_)
                        · replace h := g_it hc69 h
                          refine lv_iconst (v := (0 : Int32)) hx hb dL_types_293 (by decide) ?_
                          exact hJ_J70 (0 : Int32) _ _ _ hP hS (lv_sub hl [0, 1, 2, 3, 4, 5, 6, 7, 8, 9] rfl) h
                        · replace h := g_if hc69 h
                          refine lv_iload hx hb dL_types_250 (lv_at hl 4 rfl) ?_
                          refine lv_bipush (v := (8 : Int32)) hx hb dL_types_252 (by decide) ?_
                          refine lv_icmp_ge (tgt := 293) hx hb dL_types_254 (by decide) (fun hc71 => ?_) (fun hc71 => ?_)
                          · replace h := g_it hc71 h
                            refine lv_iconst (v := (0 : Int32)) hx hb dL_types_293 (by decide) ?_
                            exact hJ_J70 (0 : Int32) _ _ _ hP hS (lv_sub hl [0, 1, 2, 3, 4, 5, 6, 7, 8, 9] rfl) h
                          · replace h := g_if hc71 h
                            refine lv_iload hx hb dL_types_257 (lv_at hl 1 rfl) ?_
                            refine lv_iload hx hb dL_types_259 (lv_at hl 4 rfl) ?_
                            refine lv_bipush (v := (7 : Int32)) hx hb dL_types_261 (by decide) ?_
                            refine mrg_e h (fun J73 hK_J73 h => ?_)
                            have hJ_J73 : ∀ (v74 : Int32) (H : Heap) (locs : List Loc) (ls : Array Slot), va_P E.1 vwCl (List.flatten [[(g0, .inr (6, [.ref (an 0), .ref (au 0), .ref (ap 0), .ref q0, .ref x0, .ref r0, .int ke]))], [(q0, .inr (0, [.ref q1, .int lnn]))], wHa E q1 ba pm, wTx E x0 x1 x2 ch39 tl40 nu le nx, [(r0, .inr (3, [.ref (ar 0), .ref (aw 0), .int cmd, .int pos, .int rea, .int cau]))], wHuT E an xn, wHuT E au xt, wHuT E ap xp, wHuT E ar xr, wHuT E aw xw, wHuT E (ba 0) h0, wHuT E (ba 1) h1, wHuT E (ba 2) h2, wHuT E (ba 3) h3, wHuT E (ba 4) h4]) H → va_S A s.heap H locs → lv_has ls 11 [(9, .int v68), (8, .int v38), (3, .int (1 : Int32)), (7, .int v22), (6, .int r14), (5, .int v13), (4, .int v9), (2, .int r1), (0, .ref g0), (1, .int p2)] → J73 v74 = some res → W p l e ({ frames := 3, cells := 0, slots := 0, locals := 64 } : Room) s m args below meth c H locs 0 0 Q (F0 m 271 ls [.int v74, .int v38]) := by
                              intro v74 H locs ls hP hS hl h
                              replace hD : va_D A (List.flatten [[(g0, .inr (6, [.ref (an 0), .ref (au 0), .ref (ap 0), .ref q0, .ref x0, .ref r0, .int ke]))], [(q0, .inr (0, [.ref q1, .int lnn]))], wHa E q1 ba pm, wTx E x0 x1 x2 ch39 tl40 nu le nx, [(r0, .inr (3, [.ref (ar 0), .ref (aw 0), .int cmd, .int pos, .int rea, .int cau]))], wHuT E an xn, wHuT E au xt, wHuT E ap xp, wHuT E ar xr, wHuT E aw xw, wHuT E (ba 0) h0, wHuT E (ba 1) h1, wHuT E (ba 2) h2, wHuT E (ba 3) h3, wHuT E (ba 4) h4]) := gD_same hD rfl
                              subst hK_J73
                              refine lv_icmp_ne (tgt := 293) hx hb dL_types_271 (by decide) (fun hc75 => ?_) (fun hc75 => ?_)
                              · replace h := g_if hc75 h
                                refine lv_iconst (v := (0 : Int32)) hx hb dL_types_293 (by decide) ?_
                                exact hJ_J70 (0 : Int32) _ _ _ hP hS (lv_sub hl [0, 1, 2, 3, 4, 5, 6, 7, 8, 9] rfl) h
                              · replace h := g_it hc75 h
                                refine lv_aload_n hx hb dL_types_274 rfl (lv_at hl 8 rfl) ?_
                                refine lv_iconst (v := (4 : Int32)) hx hb dL_types_275 (by decide) ?_
                                obtain ⟨r76, hc77, h⟩ := bd1_s h
                                refine g_callBi (As := [.int (4 : Int32)]) (rest := []) (r := r76) (bs1 := [[(g0, .inr (6, [.ref (an 0), .ref (au 0), .ref (ap 0), .ref q0, .ref x0, .ref r0, .int ke]))], [(q0, .inr (0, [.ref q1, .int lnn]))], wHa E q1 ba pm, wTx E x0 x1 x2 ch39 tl40 nu le nx, [(r0, .inr (3, [.ref (ar 0), .ref (aw 0), .int cmd, .int pos, .int rea, .int cau]))], wHuT E an xn, wHuT E au xt, wHuT E ap xp, wHuT E ar xr, wHuT E aw xw, wHuT E (ba 0) h0, wHuT E (ba 1) h1, wHuT E (ba 2) h2, wHuT E (ba 3) h3, wHuT E (ba 4) h4]) ⟨hx, hb, hml, hown, hts⟩ (kX6_count E l g0 q0 q1 x0 x1 x2 r0 an au ap ar aw ba ke lnn pm ch39 tl40 nu le nx cmd pos rea cau xn xt xp xr xw h0 h1 h2 h3 h4 (4 : Int32) r76 hc77) (cwV 1 hts gL_types_X6_count rfl rfl rfl (by decide +kernel) ⟨Nat.le_of_ble_eq_true rfl, Nat.le_of_ble_eq_true rfl⟩) hK hP hD hS hA hG hl [0, 1, 2, 3, 4, 5, 6, 7, 8, 9, 10, 11, 12, 13, 14] 0 0 (by decide) rfl (ci := 6) rfl rfl rfl rfl rfl rfl rfl rfl rfl rfl (Nat.le_of_ble_eq_true rfl) dL_types_276 (Nat.zero_le _) (Nat.zero_le _) (fun H locs hP hD hS => ?_)
                                refine lv_sipush (v := (350 : Int32)) hx hb dL_types_279 (by decide) ?_
                                refine lv_icmp_ge (tgt := 293) hx hb dL_types_282 (by decide) (fun hc78 => ?_) (fun hc78 => ?_)
                                · replace h := g_it hc78 h
                                  refine lv_iconst (v := (0 : Int32)) hx hb dL_types_293 (by decide) ?_
                                  exact hJ_J70 (0 : Int32) _ _ _ hP hS (lv_sub hl [0, 1, 2, 3, 4, 5, 6, 7, 8, 9] rfl) h
                                · replace h := g_if hc78 h
                                  refine lv_aload_n hx hb dL_types_285 rfl (lv_at hl 8 rfl) ?_
                                  refine lv_iconst (v := (4 : Int32)) hx hb dL_types_286 (by decide) ?_
                                  obtain ⟨r79, hc80, h⟩ := bd1_s h
                                  refine g_callBi (As := [.int (4 : Int32)]) (rest := []) (r := r79) (bs1 := [[(g0, .inr (6, [.ref (an 0), .ref (au 0), .ref (ap 0), .ref q0, .ref x0, .ref r0, .int ke]))], [(q0, .inr (0, [.ref q1, .int lnn]))], wHa E q1 ba pm, wTx E x0 x1 x2 ch39 tl40 nu le nx, [(r0, .inr (3, [.ref (ar 0), .ref (aw 0), .int cmd, .int pos, .int rea, .int cau]))], wHuT E an xn, wHuT E au xt, wHuT E ap xp, wHuT E ar xr, wHuT E aw xw, wHuT E (ba 0) h0, wHuT E (ba 1) h1, wHuT E (ba 2) h2, wHuT E (ba 3) h3, wHuT E (ba 4) h4]) ⟨hx, hb, hml, hown, hts⟩ (kX6_count E l g0 q0 q1 x0 x1 x2 r0 an au ap ar aw ba ke lnn pm ch39 tl40 nu le nx cmd pos rea cau xn xt xp xr xw h0 h1 h2 h3 h4 (4 : Int32) r79 hc80) (cwV 1 hts gL_types_X6_count rfl rfl rfl (by decide +kernel) ⟨Nat.le_of_ble_eq_true rfl, Nat.le_of_ble_eq_true rfl⟩) hK hP hD hS hA hG hl [0, 1, 2, 3, 4, 5, 6, 7, 8, 9, 10, 11, 12, 13, 14] 0 0 (by decide) rfl (ci := 6) rfl rfl rfl rfl rfl rfl rfl rfl rfl rfl (Nat.le_of_ble_eq_true rfl) dL_types_287 (Nat.zero_le _) (Nat.zero_le _) (fun H locs hP hD hS => ?_)
                                  refine lv_goto (tgt := 294) hx hb dL_types_290 (by decide) ?_
                                  exact hJ_J70 r79 _ _ _ hP hS (lv_sub hl [0, 1, 2, 3, 4, 5, 6, 7, 8, 9] rfl) h
                            refine lv_icmp_ne (tgt := 270) hx hb dL_types_263 (by decide) (fun hc72 => ?_) (fun hc72 => ?_)
                            · replace h := g_if hc72 h
                              refine lv_iconst (v := (1 : Int32)) hx hb dL_types_270 (by decide) ?_
                              exact hJ_J73 (1 : Int32) _ _ _ hP hS (lv_sub hl [0, 1, 2, 3, 4, 5, 6, 7, 8, 9] rfl) h
                            · replace h := g_it hc72 h
                              refine lv_iconst (v := (0 : Int32)) hx hb dL_types_266 (by decide) ?_
                              refine lv_goto (tgt := 271) hx hb dL_types_267 (by decide) ?_
                              exact hJ_J73 (0 : Int32) _ _ _ hP hS (lv_sub hl [0, 1, 2, 3, 4, 5, 6, 7, 8, 9] rfl) h
                      refine lv_icmp_ge (tgt := 211) hx hb dL_types_183 (by decide) (fun hc61 => ?_) (fun hc61 => ?_)
                      · replace h := g_it hc61 h
                        refine lv_iload hx hb dL_types_211 (lv_at hl 3 rfl) ?_
                        refine lv_iconst (v := (4 : Int32)) hx hb dL_types_213 (by decide) ?_
                        refine lv_icmp_eq (tgt := 224) hx hb dL_types_214 (by decide) (fun hc63 => ?_) (fun hc63 => ?_)
                        · replace h := g_it hc63 h
                          refine lv_bipush (v := (7 : Int32)) hx hb dL_types_224 (by decide) ?_
                          refine lv_goto (tgt := 242) hx hb dL_types_226 (by decide) ?_
                          exact hJ_J62 (7 : Int32) _ _ _ hP hS (lv_sub hl [0, 1, 2, 3, 4, 5, 6, 7, 8] rfl) h
                        · replace h := g_if hc63 h
                          refine lv_iload hx hb dL_types_217 (lv_at hl 3 rfl) ?_
                          refine lv_bipush (v := (8 : Int32)) hx hb dL_types_219 (by decide) ?_
                          refine lv_icmp_ne (tgt := 229) hx hb dL_types_221 (by decide) (fun hc64 => ?_) (fun hc64 => ?_)
                          · replace h := g_if hc64 h
                            refine lv_iload hx hb dL_types_229 (lv_at hl 0 rfl) ?_
                            refine lv_iconst (v := (1 : Int32)) hx hb dL_types_231 (by decide) ?_
                            refine lv_icmp_ne (tgt := 240) hx hb dL_types_232 (by decide) (fun hc65 => ?_) (fun hc65 => ?_)
                            · replace h := g_if hc65 h
                              refine lv_bipush (v := (7 : Int32)) hx hb dL_types_240 (by decide) ?_
                              exact hJ_J62 (7 : Int32) _ _ _ hP hS (lv_sub hl [0, 1, 2, 3, 4, 5, 6, 7, 8] rfl) h
                            · replace h := g_it hc65 h
                              refine lv_bipush (v := (12 : Int32)) hx hb dL_types_235 (by decide) ?_
                              refine lv_goto (tgt := 242) hx hb dL_types_237 (by decide) ?_
                              exact hJ_J62 (12 : Int32) _ _ _ hP hS (lv_sub hl [0, 1, 2, 3, 4, 5, 6, 7, 8] rfl) h
                          · replace h := g_it hc64 h
                            refine lv_bipush (v := (7 : Int32)) hx hb dL_types_224 (by decide) ?_
                            refine lv_goto (tgt := 242) hx hb dL_types_226 (by decide) ?_
                            exact hJ_J62 (7 : Int32) _ _ _ hP hS (lv_sub hl [0, 1, 2, 3, 4, 5, 6, 7, 8] rfl) h
                      · replace h := g_if hc61 h
                        refine lv_iload hx hb dL_types_186 (lv_at hl 0 rfl) ?_
                        refine lv_if_ne (tgt := 195) hx hb dL_types_188 (by decide) (fun hc66 => ?_) (fun hc66 => ?_)
                        · replace h := g_if hc66 h
                          refine lv_iload hx hb dL_types_195 (lv_at hl 0 rfl) ?_
                          refine lv_iconst (v := (1 : Int32)) hx hb dL_types_197 (by decide) ?_
                          refine lv_icmp_ne (tgt := 206) hx hb dL_types_198 (by decide) (fun hc67 => ?_) (fun hc67 => ?_)
                          · replace h := g_if hc67 h
                            refine lv_bipush (v := (20 : Int32)) hx hb dL_types_206 (by decide) ?_
                            refine lv_goto (tgt := 242) hx hb dL_types_208 (by decide) ?_
                            exact hJ_J62 (20 : Int32) _ _ _ hP hS (lv_sub hl [0, 1, 2, 3, 4, 5, 6, 7, 8] rfl) h
                          · replace h := g_it hc67 h
                            refine lv_bipush (v := (60 : Int32)) hx hb dL_types_201 (by decide) ?_
                            refine lv_goto (tgt := 242) hx hb dL_types_203 (by decide) ?_
                            exact hJ_J62 (60 : Int32) _ _ _ hP hS (lv_sub hl [0, 1, 2, 3, 4, 5, 6, 7, 8] rfl) h
                        · replace h := g_it hc66 h
                          refine lv_iconst (v := (4 : Int32)) hx hb dL_types_191 (by decide) ?_
                          refine lv_goto (tgt := 242) hx hb dL_types_192 (by decide) ?_
                          exact hJ_J62 (4 : Int32) _ _ _ hP hS (lv_sub hl [0, 1, 2, 3, 4, 5, 6, 7, 8] rfl) h
                exact hL_rec37 gFU (0 : Int32) ch_32 tl_34 _ _ _ hP hS (lv_sub hl [0, 1, 2, 3, 4, 5, 6, 7, 8] rfl) h
            refine lv_icmp_ge (tgt := 110) hx hb dL_types_102 (by decide) (fun hc23 => ?_) (fun hc23 => ?_)
            · replace h := g_it hc23 h
              refine lv_iload hx hb dL_types_110 (lv_at hl 1 rfl) ?_
              refine lv_iconst (v := (3 : Int32)) hx hb dL_types_112 (by decide) ?_
              refine lv_icmp_ne (tgt := 121) hx hb dL_types_113 (by decide) (fun hc25 => ?_) (fun hc25 => ?_)
              · replace h := g_if hc25 h
                refine lv_iload hx hb dL_types_121 (lv_at hl 1 rfl) ?_
                refine lv_iconst (v := (5 : Int32)) hx hb dL_types_123 (by decide) ?_
                refine lv_icmp_ge (tgt := 132) hx hb dL_types_124 (by decide) (fun hc26 => ?_) (fun hc26 => ?_)
                · replace h := g_it hc26 h
                  refine lv_iload hx hb dL_types_132 (lv_at hl 1 rfl) ?_
                  refine lv_bipush (v := (7 : Int32)) hx hb dL_types_134 (by decide) ?_
                  refine lv_icmp_ge (tgt := 144) hx hb dL_types_136 (by decide) (fun hc27 => ?_) (fun hc27 => ?_)
                  · replace h := g_it hc27 h
                    refine lv_iload hx hb dL_types_144 (lv_at hl 1 rfl) ?_
                    refine lv_bipush (v := (7 : Int32)) hx hb dL_types_146 (by decide) ?_
                    refine lv_icmp_ne (tgt := 156) hx hb dL_types_148 (by decide) (fun hc28 => ?_) (fun hc28 => ?_)
                    · replace h := g_if hc28 h
                      refine lv_bipush (v := (120 : Int32)) hx hb dL_types_156 (by decide) ?_
                      exact hJ_J24 (120 : Int32) _ _ _ hP hS (lv_sub hl [0, 1, 2, 3, 5, 6, 7] rfl) h
                    · replace h := g_it hc28 h
                      refine lv_bipush (v := (115 : Int32)) hx hb dL_types_151 (by decide) ?_
                      refine lv_goto (tgt := 158) hx hb dL_types_153 (by decide) ?_
                      exact hJ_J24 (115 : Int32) _ _ _ hP hS (lv_sub hl [0, 1, 2, 3, 5, 6, 7] rfl) h
                  · replace h := g_if hc27 h
                    refine lv_bipush (v := (98 : Int32)) hx hb dL_types_139 (by decide) ?_
                    refine lv_goto (tgt := 158) hx hb dL_types_141 (by decide) ?_
                    exact hJ_J24 (98 : Int32) _ _ _ hP hS (lv_sub hl [0, 1, 2, 3, 5, 6, 7] rfl) h
                · replace h := g_if hc26 h
                  refine lv_bipush (v := (110 : Int32)) hx hb dL_types_127 (by decide) ?_
                  refine lv_goto (tgt := 158) hx hb dL_types_129 (by decide) ?_
                  exact hJ_J24 (110 : Int32) _ _ _ hP hS (lv_sub hl [0, 1, 2, 3, 5, 6, 7] rfl) h
              · replace h := g_it hc25 h
                refine lv_bipush (v := (102 : Int32)) hx hb dL_types_116 (by decide) ?_
                refine lv_goto (tgt := 158) hx hb dL_types_118 (by decide) ?_
                exact hJ_J24 (102 : Int32) _ _ _ hP hS (lv_sub hl [0, 1, 2, 3, 5, 6, 7] rfl) h
            · replace h := g_if hc23 h
              refine lv_bipush (v := (108 : Int32)) hx hb dL_types_105 (by decide) ?_
              refine lv_goto (tgt := 158) hx hb dL_types_107 (by decide) ?_
              exact hJ_J24 (108 : Int32) _ _ _ hP hS (lv_sub hl [0, 1, 2, 3, 5, 6, 7] rfl) h
          refine lv_icmp_lt (tgt := 66) hx hb dL_types_50 (by decide) (fun hc16 => ?_) (fun hc16 => ?_)
          · replace h := g_it hc16 h
            refine lv_iconst (v := (3 : Int32)) hx hb dL_types_66 (by decide) ?_
            refine lv_goto (tgt := 92) hx hb dL_types_67 (by decide) ?_
            exact hJ_J17 (3 : Int32) _ _ _ hP hS (lv_sub hl [0, 1, 2, 3, 4, 5, 6] rfl) h
          · replace h := g_if hc16 h
            refine lv_iload hx hb dL_types_53 (lv_at hl 0 rfl) ?_
            refine lv_iconst (v := (5 : Int32)) hx hb dL_types_55 (by decide) ?_
            refine lv_icmp_eq (tgt := 66) hx hb dL_types_56 (by decide) (fun hc18 => ?_) (fun hc18 => ?_)
            · replace h := g_it hc18 h
              refine lv_iconst (v := (3 : Int32)) hx hb dL_types_66 (by decide) ?_
              refine lv_goto (tgt := 92) hx hb dL_types_67 (by decide) ?_
              exact hJ_J17 (3 : Int32) _ _ _ hP hS (lv_sub hl [0, 1, 2, 3, 4, 5, 6] rfl) h
            · replace h := g_if hc18 h
              refine lv_iload hx hb dL_types_59 (lv_at hl 0 rfl) ?_
              refine lv_bipush (v := (6 : Int32)) hx hb dL_types_61 (by decide) ?_
              refine lv_icmp_ne (tgt := 70) hx hb dL_types_63 (by decide) (fun hc19 => ?_) (fun hc19 => ?_)
              · replace h := g_if hc19 h
                refine lv_iload hx hb dL_types_70 (lv_at hl 0 rfl) ?_
                refine lv_iconst (v := (3 : Int32)) hx hb dL_types_72 (by decide) ?_
                refine lv_icmp_ne (tgt := 80) hx hb dL_types_73 (by decide) (fun hc20 => ?_) (fun hc20 => ?_)
                · replace h := g_if hc20 h
                  refine lv_iload hx hb dL_types_80 (lv_at hl 0 rfl) ?_
                  refine lv_bipush (v := (7 : Int32)) hx hb dL_types_82 (by decide) ?_
                  refine lv_icmp_ne (tgt := 91) hx hb dL_types_84 (by decide) (fun hc21 => ?_) (fun hc21 => ?_)
                  · replace h := g_if hc21 h
                    refine lv_iconst (v := (1 : Int32)) hx hb dL_types_91 (by decide) ?_
                    exact hJ_J17 (1 : Int32) _ _ _ hP hS (lv_sub hl [0, 1, 2, 3, 4, 5, 6] rfl) h
                  · replace h := g_it hc21 h
                    refine lv_iconst (v := (2 : Int32)) hx hb dL_types_87 (by decide) ?_
                    refine lv_goto (tgt := 92) hx hb dL_types_88 (by decide) ?_
                    exact hJ_J17 (2 : Int32) _ _ _ hP hS (lv_sub hl [0, 1, 2, 3, 4, 5, 6] rfl) h
                · replace h := g_it hc20 h
                  refine lv_iconst (v := (0 : Int32)) hx hb dL_types_76 (by decide) ?_
                  refine lv_goto (tgt := 92) hx hb dL_types_77 (by decide) ?_
                  exact hJ_J17 (0 : Int32) _ _ _ hP hS (lv_sub hl [0, 1, 2, 3, 4, 5, 6] rfl) h
              · replace h := g_it hc19 h
                refine lv_iconst (v := (3 : Int32)) hx hb dL_types_66 (by decide) ?_
                refine lv_goto (tgt := 92) hx hb dL_types_67 (by decide) ?_
                exact hJ_J17 (3 : Int32) _ _ _ hP hS (lv_sub hl [0, 1, 2, 3, 4, 5, 6] rfl) h
    exact hL_rec8 gFU (0 : Int32) ch tl_5 _ _ _ hP hS (lv_sub hl [0, 1, 2, 3, 4] rfl) h
set_option maxHeartbeats 4000000 in
set_option maxRecDepth 100000 in
theorem kL_reads (E : gE) (l : Launch) (g0 q0 q1 x0 x1 x2 r0 : Nat) (an au ap ar aw : Nat → Nat) (ba : Nat → Nat → Nat) (ke : Int32) (lnn : Int32) (pm : Nat → Nat) (ch : Nat → Int32) (tl : Int32) (nu : Nat → Int32) (le : Int32) (nx : Int32) (cmd : Int32) (pos : Int32) (rea : Int32) (cau : Int32) (xn : HutS) (xt : HutS) (xp : HutS) (xr : HutS) (xw : HutS) (h0 : HutS) (h1 : HutS) (h2 : HutS) (h3 : HutS) (h4 : HutS)  (res : Int32 × Int32 × (Nat → Nat) × (Nat → Int32) × Int32 × Int32 × Int32 × Int32 × Int32 × Int32 × HutS × HutS × HutS × HutS × HutS × HutS × HutS × HutS) (h : fL_reads ke lnn pm ch tl nu le nx cmd pos rea cau xn xr xw h0 h1 h2 h3 h4  = some res) : gMI E l yL_reads wsL_reads ({ frames := 7, cells := 0, slots := 0, locals := 169 } : Room) [.ref g0] (List.flatten [[(g0, .inr (6, [.ref (an 0), .ref (au 0), .ref (ap 0), .ref q0, .ref x0, .ref r0, .int ke]))], [(q0, .inr (0, [.ref q1, .int lnn]))], wHa E q1 ba pm, wTx E x0 x1 x2 ch tl nu le nx, [(r0, .inr (3, [.ref (ar 0), .ref (aw 0), .int cmd, .int pos, .int rea, .int cau]))], wHuT E an xn, wHuT E au xt, wHuT E ap xp, wHuT E ar xr, wHuT E aw xw, wHuT E (ba 0) h0, wHuT E (ba 1) h1, wHuT E (ba 2) h2, wHuT E (ba 3) h3, wHuT E (ba 4) h4]) (fun res : Int32 × Int32 × (Nat → Nat) × (Nat → Int32) × Int32 × Int32 × Int32 × Int32 × Int32 × Int32 × HutS × HutS × HutS × HutS × HutS × HutS × HutS × HutS => (List.flatten [[(g0, .inr (6, [.ref (an 0), .ref (au 0), .ref (ap 0), .ref q0, .ref x0, .ref r0, .int ke]))], [(q0, .inr (0, [.ref q1, .int res.2.1]))], wHa E q1 ba res.2.2.1, wTx E x0 x1 x2 ch tl res.2.2.2.1 res.2.2.2.2.1 res.2.2.2.2.2.1, [(r0, .inr (3, [.ref (ar 0), .ref (aw 0), .int res.2.2.2.2.2.2.1, .int res.2.2.2.2.2.2.2.1, .int res.2.2.2.2.2.2.2.2.1, .int res.2.2.2.2.2.2.2.2.2.1]))], wHuT E an res.2.2.2.2.2.2.2.2.2.2.1, wHuT E au xt, wHuT E ap xp, wHuT E ar res.2.2.2.2.2.2.2.2.2.2.2.1, wHuT E aw res.2.2.2.2.2.2.2.2.2.2.2.2.1, wHuT E (ba 0) res.2.2.2.2.2.2.2.2.2.2.2.2.2.1, wHuT E (ba 1) res.2.2.2.2.2.2.2.2.2.2.2.2.2.2.1, wHuT E (ba 2) res.2.2.2.2.2.2.2.2.2.2.2.2.2.2.2.1, wHuT E (ba 3) res.2.2.2.2.2.2.2.2.2.2.2.2.2.2.2.2.1, wHuT E (ba 4) res.2.2.2.2.2.2.2.2.2.2.2.2.2.2.2.2.2])) (fun res => res.1) res := by
  refine g_entZ (cc := cL_reads) (maxL := 8) (by decide) rfl (Nat.le_of_ble_eq_true rfl) ?_
  intro p e s m args below meth c A Q ls hx hb hml hown hts hK hP hD hS hA hG hret hl
  unfold fL_reads at h
  replace hl : lv_has ls 8 [(0, .ref g0)] := hl
  refine lv_aload_n hx hb dL_reads_0 rfl (lv_at hl 0 rfl) ?_
  refine lv_iconst (v := (0 : Int32)) hx hb dL_reads_1 (by decide) ?_
  obtain ⟨r1, nu_3, le_5, nx_7, cmd_9, pos_11, rea_13, cau_15, xr_17, xw_19, hc20, h⟩ := bd10_s h
  refine g_callBi (As := [.int (0 : Int32)]) (rest := []) (r := r1) (bs1 := [[(g0, .inr (6, [.ref (an 0), .ref (au 0), .ref (ap 0), .ref q0, .ref x0, .ref r0, .int ke]))], [(q0, .inr (0, [.ref q1, .int lnn]))], wHa E q1 ba pm, wTx E x0 x1 x2 ch tl nu_3 le_5 nx_7, [(r0, .inr (3, [.ref (ar 0), .ref (aw 0), .int cmd_9, .int pos_11, .int rea_13, .int cau_15]))], wHuT E an xn, wHuT E au xt, wHuT E ap xp, wHuT E ar xr_17, wHuT E aw xw_19, wHuT E (ba 0) h0, wHuT E (ba 1) h1, wHuT E (ba 2) h2, wHuT E (ba 3) h3, wHuT E (ba 4) h4]) ⟨hx, hb, hml, hown, hts⟩ (kX6_fault E l g0 q0 q1 x0 x1 x2 r0 an au ap ar aw ba ke lnn pm ch tl nu le nx cmd pos rea cau xn xt xp xr xw h0 h1 h2 h3 h4 (0 : Int32) (r1, nu_3, le_5, nx_7, cmd_9, pos_11, rea_13, cau_15, xr_17, xw_19) hc20) (cwV 1 hts gL_reads_X6_fault rfl rfl rfl (by decide +kernel) ⟨Nat.le_of_ble_eq_true rfl, Nat.le_of_ble_eq_true rfl⟩) hK hP hD hS hA hG hl [0, 1, 2, 3, 4, 5, 6, 7, 8, 9, 10, 11, 12, 13, 14] 0 0 (by decide) rfl (ci := 6) rfl rfl rfl rfl rfl rfl rfl rfl rfl rfl (Nat.le_of_ble_eq_true rfl) dL_reads_2 (Nat.zero_le _) (Nat.zero_le _) (fun H locs hP hD hS => ?_)
  refine lv_istore_n (lv' := [(1, .int r1), (0, .ref g0)]) hx hb dL_reads_5 rfl hl (by decide) rfl (fun ls hl => ?_)
  refine lv_aload_n hx hb dL_reads_6 rfl (lv_at hl 1 rfl) ?_
  refine lv_iconst (v := (1 : Int32)) hx hb dL_reads_7 (by decide) ?_
  obtain ⟨r21, nu_23, le_25, nx_27, cmd_29, pos_31, rea_33, cau_35, xr_37, xw_39, hc40, h⟩ := bd10_s h
  refine g_callBi (As := [.int (1 : Int32)]) (rest := []) (r := r21) (bs1 := [[(g0, .inr (6, [.ref (an 0), .ref (au 0), .ref (ap 0), .ref q0, .ref x0, .ref r0, .int ke]))], [(q0, .inr (0, [.ref q1, .int lnn]))], wHa E q1 ba pm, wTx E x0 x1 x2 ch tl nu_23 le_25 nx_27, [(r0, .inr (3, [.ref (ar 0), .ref (aw 0), .int cmd_29, .int pos_31, .int rea_33, .int cau_35]))], wHuT E an xn, wHuT E au xt, wHuT E ap xp, wHuT E ar xr_37, wHuT E aw xw_39, wHuT E (ba 0) h0, wHuT E (ba 1) h1, wHuT E (ba 2) h2, wHuT E (ba 3) h3, wHuT E (ba 4) h4]) ⟨hx, hb, hml, hown, hts⟩ (kX6_fault E l g0 q0 q1 x0 x1 x2 r0 an au ap ar aw ba ke lnn pm ch tl nu_3 le_5 nx_7 cmd_9 pos_11 rea_13 cau_15 xn xt xp xr_17 xw_19 h0 h1 h2 h3 h4 (1 : Int32) (r21, nu_23, le_25, nx_27, cmd_29, pos_31, rea_33, cau_35, xr_37, xw_39) hc40) (cwV 1 hts gL_reads_X6_fault rfl rfl rfl (by decide +kernel) ⟨Nat.le_of_ble_eq_true rfl, Nat.le_of_ble_eq_true rfl⟩) hK hP hD hS hA hG hl [0, 1, 2, 3, 4, 5, 6, 7, 8, 9, 10, 11, 12, 13, 14] 0 0 (by decide) rfl (ci := 6) rfl rfl rfl rfl rfl rfl rfl rfl rfl rfl (Nat.le_of_ble_eq_true rfl) dL_reads_8 (Nat.zero_le _) (Nat.zero_le _) (fun H locs hP hD hS => ?_)
  refine lv_istore_n (lv' := [(2, .int r21), (1, .int r1), (0, .ref g0)]) hx hb dL_reads_11 rfl hl (by decide) rfl (fun ls hl => ?_)
  refine lv_aload_n hx hb dL_reads_12 rfl (lv_at hl 2 rfl) ?_
  refine lv_iconst (v := (2 : Int32)) hx hb dL_reads_13 (by decide) ?_
  obtain ⟨r41, nu_43, le_45, nx_47, cmd_49, pos_51, rea_53, cau_55, xr_57, xw_59, hc60, h⟩ := bd10_s h
  refine g_callBi (As := [.int (2 : Int32)]) (rest := []) (r := r41) (bs1 := [[(g0, .inr (6, [.ref (an 0), .ref (au 0), .ref (ap 0), .ref q0, .ref x0, .ref r0, .int ke]))], [(q0, .inr (0, [.ref q1, .int lnn]))], wHa E q1 ba pm, wTx E x0 x1 x2 ch tl nu_43 le_45 nx_47, [(r0, .inr (3, [.ref (ar 0), .ref (aw 0), .int cmd_49, .int pos_51, .int rea_53, .int cau_55]))], wHuT E an xn, wHuT E au xt, wHuT E ap xp, wHuT E ar xr_57, wHuT E aw xw_59, wHuT E (ba 0) h0, wHuT E (ba 1) h1, wHuT E (ba 2) h2, wHuT E (ba 3) h3, wHuT E (ba 4) h4]) ⟨hx, hb, hml, hown, hts⟩ (kX6_fault E l g0 q0 q1 x0 x1 x2 r0 an au ap ar aw ba ke lnn pm ch tl nu_23 le_25 nx_27 cmd_29 pos_31 rea_33 cau_35 xn xt xp xr_37 xw_39 h0 h1 h2 h3 h4 (2 : Int32) (r41, nu_43, le_45, nx_47, cmd_49, pos_51, rea_53, cau_55, xr_57, xw_59) hc60) (cwV 1 hts gL_reads_X6_fault rfl rfl rfl (by decide +kernel) ⟨Nat.le_of_ble_eq_true rfl, Nat.le_of_ble_eq_true rfl⟩) hK hP hD hS hA hG hl [0, 1, 2, 3, 4, 5, 6, 7, 8, 9, 10, 11, 12, 13, 14] 0 0 (by decide) rfl (ci := 6) rfl rfl rfl rfl rfl rfl rfl rfl rfl rfl (Nat.le_of_ble_eq_true rfl) dL_reads_14 (Nat.zero_le _) (Nat.zero_le _) (fun H locs hP hD hS => ?_)
  refine lv_istore_n (lv' := [(3, .int r41), (2, .int r21), (1, .int r1), (0, .ref g0)]) hx hb dL_reads_17 rfl hl (by decide) rfl (fun ls hl => ?_)
  refine lv_aload_n hx hb dL_reads_18 rfl (lv_at hl 3 rfl) ?_
  refine lv_bipush (v := (13 : Int32)) hx hb dL_reads_19 (by decide) ?_
  obtain ⟨r61, hc62, h⟩ := bd1_s h
  refine g_callBi (As := [.int (13 : Int32)]) (rest := []) (r := r61) (bs1 := [[(g0, .inr (6, [.ref (an 0), .ref (au 0), .ref (ap 0), .ref q0, .ref x0, .ref r0, .int ke]))], [(q0, .inr (0, [.ref q1, .int lnn]))], wHa E q1 ba pm, wTx E x0 x1 x2 ch tl nu_43 le_45 nx_47, [(r0, .inr (3, [.ref (ar 0), .ref (aw 0), .int cmd_49, .int pos_51, .int rea_53, .int cau_55]))], wHuT E an xn, wHuT E au xt, wHuT E ap xp, wHuT E ar xr_57, wHuT E aw xw_59, wHuT E (ba 0) h0, wHuT E (ba 1) h1, wHuT E (ba 2) h2, wHuT E (ba 3) h3, wHuT E (ba 4) h4]) ⟨hx, hb, hml, hown, hts⟩ (kX6_count E l g0 q0 q1 x0 x1 x2 r0 an au ap ar aw ba ke lnn pm ch tl nu_43 le_45 nx_47 cmd_49 pos_51 rea_53 cau_55 xn xt xp xr_57 xw_59 h0 h1 h2 h3 h4 (13 : Int32) r61 hc62) (cwV 1 hts gL_reads_X6_count rfl rfl rfl (by decide +kernel) ⟨Nat.le_of_ble_eq_true rfl, Nat.le_of_ble_eq_true rfl⟩) hK hP hD hS hA hG hl [0, 1, 2, 3, 4, 5, 6, 7, 8, 9, 10, 11, 12, 13, 14] 0 0 (by decide) rfl (ci := 6) rfl rfl rfl rfl rfl rfl rfl rfl rfl rfl (Nat.le_of_ble_eq_true rfl) dL_reads_21 (Nat.zero_le _) (Nat.zero_le _) (fun H locs hP hD hS => ?_)
  refine lv_istore (lv' := [(4, .int r61), (3, .int r41), (2, .int r21), (1, .int r1), (0, .ref g0)]) hx hb dL_reads_24 hl (by decide) rfl (fun ls hl => ?_)
  refine lv_aload_n hx hb dL_reads_26 rfl (lv_at hl 4 rfl) ?_
  obtain ⟨r63, lnn_65, pm_67, nu_69, le_71, nx_73, cmd_75, pos_77, rea_79, cau_81, xn_83, xr_85, xw_87, h0_89, h1_91, h2_93, h3_95, h4_97, hc98, h⟩ := bd18_s h
  refine g_callBi (As := []) (rest := []) (r := r63) (bs1 := [[(g0, .inr (6, [.ref (an 0), .ref (au 0), .ref (ap 0), .ref q0, .ref x0, .ref r0, .int ke]))], [(q0, .inr (0, [.ref q1, .int lnn_65]))], wHa E q1 ba pm_67, wTx E x0 x1 x2 ch tl nu_69 le_71 nx_73, [(r0, .inr (3, [.ref (ar 0), .ref (aw 0), .int cmd_75, .int pos_77, .int rea_79, .int cau_81]))], wHuT E an xn_83, wHuT E au xt, wHuT E ap xp, wHuT E ar xr_85, wHuT E aw xw_87, wHuT E (ba 0) h0_89, wHuT E (ba 1) h1_91, wHuT E (ba 2) h2_93, wHuT E (ba 3) h3_95, wHuT E (ba 4) h4_97]) ⟨hx, hb, hml, hown, hts⟩ (kX6_play E l g0 q0 q1 x0 x1 x2 r0 an au ap ar aw ba ke lnn pm ch tl nu_43 le_45 nx_47 cmd_49 pos_51 rea_53 cau_55 xn xt xp xr_57 xw_59 h0 h1 h2 h3 h4 (r63, lnn_65, pm_67, nu_69, le_71, nx_73, cmd_75, pos_77, rea_79, cau_81, xn_83, xr_85, xw_87, h0_89, h1_91, h2_93, h3_95, h4_97) hc98) (cwV 0 hts gL_reads_X6_play rfl rfl rfl (by decide +kernel) ⟨Nat.le_of_ble_eq_true rfl, Nat.le_of_ble_eq_true rfl⟩) hK hP hD hS hA hG hl [0, 1, 2, 3, 4, 5, 6, 7, 8, 9, 10, 11, 12, 13, 14] 0 0 (by decide) rfl (ci := 6) rfl rfl rfl rfl rfl rfl rfl rfl rfl rfl (Nat.le_of_ble_eq_true rfl) dL_reads_27 (Nat.zero_le _) (Nat.zero_le _) (fun H locs hP hD hS => ?_)
  refine lv_istore (lv' := [(5, .int r63), (4, .int r61), (3, .int r41), (2, .int r21), (1, .int r1), (0, .ref g0)]) hx hb dL_reads_30 hl (by decide) rfl (fun ls hl => ?_)
  refine lv_iload_n hx hb dL_reads_32 rfl (lv_at hl 4 rfl) ?_
  refine lv_bipush (v := (-4 : Int32)) hx hb dL_reads_33 (by decide) ?_
  refine mrg_e h (fun J100 hK_J100 h => ?_)
  have hJ_J100 : ∀ (v105 : Int32) (H : Heap) (locs : List Loc) (ls : Array Slot), va_P E.1 vwCl (List.flatten [[(g0, .inr (6, [.ref (an 0), .ref (au 0), .ref (ap 0), .ref q0, .ref x0, .ref r0, .int ke]))], [(q0, .inr (0, [.ref q1, .int lnn_65]))], wHa E q1 ba pm_67, wTx E x0 x1 x2 ch tl nu_69 le_71 nx_73, [(r0, .inr (3, [.ref (ar 0), .ref (aw 0), .int cmd_75, .int pos_77, .int rea_79, .int cau_81]))], wHuT E an xn_83, wHuT E au xt, wHuT E ap xp, wHuT E ar xr_85, wHuT E aw xw_87, wHuT E (ba 0) h0_89, wHuT E (ba 1) h1_91, wHuT E (ba 2) h2_93, wHuT E (ba 3) h3_95, wHuT E (ba 4) h4_97]) H → va_S A s.heap H locs → lv_has ls 8 [(5, .int r63), (4, .int r61), (3, .int r41), (2, .int r21), (1, .int r1), (0, .ref g0)] → J100 v105 = some res → W p l e ({ frames := 7, cells := 0, slots := 0, locals := 169 } : Room) s m args below meth c H locs 0 0 Q (F0 m 69 ls [.int v105]) := by
    intro v105 H locs ls hP hS hl h
    replace hD : va_D A (List.flatten [[(g0, .inr (6, [.ref (an 0), .ref (au 0), .ref (ap 0), .ref q0, .ref x0, .ref r0, .int ke]))], [(q0, .inr (0, [.ref q1, .int lnn_65]))], wHa E q1 ba pm_67, wTx E x0 x1 x2 ch tl nu_69 le_71 nx_73, [(r0, .inr (3, [.ref (ar 0), .ref (aw 0), .int cmd_75, .int pos_77, .int rea_79, .int cau_81]))], wHuT E an xn_83, wHuT E au xt, wHuT E ap xp, wHuT E ar xr_85, wHuT E aw xw_87, wHuT E (ba 0) h0_89, wHuT E (ba 1) h1_91, wHuT E (ba 2) h2_93, wHuT E (ba 3) h3_95, wHuT E (ba 4) h4_97]) := gD_same hD rfl
    subst hK_J100
    refine lv_istore (lv' := [(6, .int v105), (5, .int r63), (4, .int r61), (3, .int r41), (2, .int r21), (1, .int r1), (0, .ref g0)]) hx hb dL_reads_69 hl (by decide) rfl (fun ls hl => ?_)
    refine lv_iload_n hx hb dL_reads_71 rfl (lv_at hl 5 rfl) ?_
    refine mrg_e h (fun J107 hK_J107 h => ?_)
    have hJ_J107 : ∀ (v116 : Int32) (H : Heap) (locs : List Loc) (ls : Array Slot), va_P E.1 vwCl (List.flatten [[(g0, .inr (6, [.ref (an 0), .ref (au 0), .ref (ap 0), .ref q0, .ref x0, .ref r0, .int ke]))], [(q0, .inr (0, [.ref q1, .int lnn_65]))], wHa E q1 ba pm_67, wTx E x0 x1 x2 ch tl nu_69 le_71 nx_73, [(r0, .inr (3, [.ref (ar 0), .ref (aw 0), .int cmd_75, .int pos_77, .int rea_79, .int cau_81]))], wHuT E an xn_83, wHuT E au xt, wHuT E ap xp, wHuT E ar xr_85, wHuT E aw xw_87, wHuT E (ba 0) h0_89, wHuT E (ba 1) h1_91, wHuT E (ba 2) h2_93, wHuT E (ba 3) h3_95, wHuT E (ba 4) h4_97]) H → va_S A s.heap H locs → lv_has ls 8 [(6, .int v105), (4, .int r61), (0, .ref g0)] → J107 v116 = some res → W p l e ({ frames := 7, cells := 0, slots := 0, locals := 169 } : Room) s m args below meth c H locs 0 0 Q (F0 m 119 ls [.int v116]) := by
      intro v116 H locs ls hP hS hl h
      replace hD : va_D A (List.flatten [[(g0, .inr (6, [.ref (an 0), .ref (au 0), .ref (ap 0), .ref q0, .ref x0, .ref r0, .int ke]))], [(q0, .inr (0, [.ref q1, .int lnn_65]))], wHa E q1 ba pm_67, wTx E x0 x1 x2 ch tl nu_69 le_71 nx_73, [(r0, .inr (3, [.ref (ar 0), .ref (aw 0), .int cmd_75, .int pos_77, .int rea_79, .int cau_81]))], wHuT E an xn_83, wHuT E au xt, wHuT E ap xp, wHuT E ar xr_85, wHuT E aw xw_87, wHuT E (ba 0) h0_89, wHuT E (ba 1) h1_91, wHuT E (ba 2) h2_93, wHuT E (ba 3) h3_95, wHuT E (ba 4) h4_97]) := gD_same hD rfl
      subst hK_J107
      refine lv_istore (lv' := [(7, .int v116), (6, .int v105), (4, .int r61), (0, .ref g0)]) hx hb dL_reads_119 hl (by decide) rfl (fun ls hl => ?_)
      refine lv_iload hx hb dL_reads_121 (lv_at hl 1 rfl) ?_
      refine mrg_e h (fun J118 hK_J118 h => ?_)
      have hJ_J118 : ∀ (_ : Unit) (H : Heap) (locs : List Loc) (ls : Array Slot), va_P E.1 vwCl (List.flatten [[(g0, .inr (6, [.ref (an 0), .ref (au 0), .ref (ap 0), .ref q0, .ref x0, .ref r0, .int ke]))], [(q0, .inr (0, [.ref q1, .int lnn_65]))], wHa E q1 ba pm_67, wTx E x0 x1 x2 ch tl nu_69 le_71 nx_73, [(r0, .inr (3, [.ref (ar 0), .ref (aw 0), .int cmd_75, .int pos_77, .int rea_79, .int cau_81]))], wHuT E an xn_83, wHuT E au xt, wHuT E ap xp, wHuT E ar xr_85, wHuT E aw xw_87, wHuT E (ba 0) h0_89, wHuT E (ba 1) h1_91, wHuT E (ba 2) h2_93, wHuT E (ba 3) h3_95, wHuT E (ba 4) h4_97]) H → va_S A s.heap H locs → lv_has ls 8 [(4, .int r61), (0, .ref g0)] → J118 () = some res → W p l e ({ frames := 7, cells := 0, slots := 0, locals := 169 } : Room) s m args below meth c H locs 0 0 Q (F0 m 131 ls []) := by
        intro _ H locs ls hP hS hl h
        replace hD : va_D A (List.flatten [[(g0, .inr (6, [.ref (an 0), .ref (au 0), .ref (ap 0), .ref q0, .ref x0, .ref r0, .int ke]))], [(q0, .inr (0, [.ref q1, .int lnn_65]))], wHa E q1 ba pm_67, wTx E x0 x1 x2 ch tl nu_69 le_71 nx_73, [(r0, .inr (3, [.ref (ar 0), .ref (aw 0), .int cmd_75, .int pos_77, .int rea_79, .int cau_81]))], wHuT E an xn_83, wHuT E au xt, wHuT E ap xp, wHuT E ar xr_85, wHuT E aw xw_87, wHuT E (ba 0) h0_89, wHuT E (ba 1) h1_91, wHuT E (ba 2) h2_93, wHuT E (ba 3) h3_95, wHuT E (ba 4) h4_97]) := gD_same hD rfl
        subst hK_J118
        refine lv_aload_n hx hb dL_reads_131 rfl (lv_at hl 1 rfl) ?_
        refine lv_bipush (v := (13 : Int32)) hx hb dL_reads_132 (by decide) ?_
        obtain ⟨r120, hc121, h⟩ := bd1_s h
        refine g_callBi (As := [.int (13 : Int32)]) (rest := []) (r := r120) (bs1 := [[(g0, .inr (6, [.ref (an 0), .ref (au 0), .ref (ap 0), .ref q0, .ref x0, .ref r0, .int ke]))], [(q0, .inr (0, [.ref q1, .int lnn_65]))], wHa E q1 ba pm_67, wTx E x0 x1 x2 ch tl nu_69 le_71 nx_73, [(r0, .inr (3, [.ref (ar 0), .ref (aw 0), .int cmd_75, .int pos_77, .int rea_79, .int cau_81]))], wHuT E an xn_83, wHuT E au xt, wHuT E ap xp, wHuT E ar xr_85, wHuT E aw xw_87, wHuT E (ba 0) h0_89, wHuT E (ba 1) h1_91, wHuT E (ba 2) h2_93, wHuT E (ba 3) h3_95, wHuT E (ba 4) h4_97]) ⟨hx, hb, hml, hown, hts⟩ (kX6_count E l g0 q0 q1 x0 x1 x2 r0 an au ap ar aw ba ke lnn_65 pm_67 ch tl nu_69 le_71 nx_73 cmd_75 pos_77 rea_79 cau_81 xn_83 xt xp xr_85 xw_87 h0_89 h1_91 h2_93 h3_95 h4_97 (13 : Int32) r120 hc121) (cwV 1 hts gL_reads_X6_count rfl rfl rfl (by decide +kernel) ⟨Nat.le_of_ble_eq_true rfl, Nat.le_of_ble_eq_true rfl⟩) hK hP hD hS hA hG hl [0, 1, 2, 3, 4, 5, 6, 7, 8, 9, 10, 11, 12, 13, 14] 0 0 (by decide) rfl (ci := 6) rfl rfl rfl rfl rfl rfl rfl rfl rfl rfl (Nat.le_of_ble_eq_true rfl) dL_reads_134 (Nat.zero_le _) (Nat.zero_le _) (fun H locs hP hD hS => ?_)
        refine lv_iload hx hb dL_reads_137 (lv_at hl 0 rfl) ?_
        refine lv_icmp_ne (tgt := 146) hx hb dL_reads_139 (by decide) (fun hc122 => ?_) (fun hc122 => ?_)
        · replace h := g_if hc122 h
          cases h
        · replace h := g_it hc122 h
          refine lv_iconst (v := (1 : Int32)) hx hb dL_reads_142 (by decide) ?_
          refine lv_goto (tgt := 147) hx hb dL_reads_143 (by decide) ?_
          exact hret ((1 : Int32), lnn_65, pm_67, nu_69, le_71, nx_73, cmd_75, pos_77, rea_79, cau_81, xn_83, xr_85, xw_87, h0_89, h1_91, h2_93, h3_95, h4_97) _ _ _ _ _ (Option.some.inj h) hP hS rfl rfl dL_reads_147
      refine lv_if_ne (tgt := 131) hx hb dL_reads_123 (by decide) (fun hc117 => ?_) (fun hc117 => ?_)
      · replace h := g_if hc117 h
        exact hJ_J118 () _ _ _ hP hS (lv_sub hl [2, 3] rfl) h
      · replace h := g_it hc117 h
        refine lv_iload hx hb dL_reads_126 (lv_at hl 0 rfl) ?_
        refine lv_if_eq (tgt := 146) hx hb dL_reads_128 (by decide) (fun hc119 => ?_) (fun hc119 => ?_)
        · replace h := g_it hc119 h
          cases h
        · replace h := g_if hc119 h
          exact hJ_J118 () _ _ _ hP hS (lv_sub hl [2, 3] rfl) h
    refine lv_if_lt (tgt := 118) hx hb dL_reads_72 (by decide) (fun hc106 => ?_) (fun hc106 => ?_)
    · replace h := g_it hc106 h
      refine lv_iconst (v := (0 : Int32)) hx hb dL_reads_118 (by decide) ?_
      exact hJ_J107 (0 : Int32) _ _ _ hP hS (lv_sub hl [0, 2, 6] rfl) h
    · replace h := g_if hc106 h
      refine lv_iload_n hx hb dL_reads_75 rfl (lv_at hl 5 rfl) ?_
      refine lv_iload hx hb dL_reads_76 (lv_at hl 2 rfl) ?_
      refine lv_icmp_ge (tgt := 118) hx hb dL_reads_78 (by decide) (fun hc108 => ?_) (fun hc108 => ?_)
      · replace h := g_it hc108 h
        refine lv_iconst (v := (0 : Int32)) hx hb dL_reads_118 (by decide) ?_
        exact hJ_J107 (0 : Int32) _ _ _ hP hS (lv_sub hl [0, 2, 6] rfl) h
      · replace h := g_if hc108 h
        refine lv_iload hx hb dL_reads_81 (lv_at hl 1 rfl) ?_
        refine lv_bipush (v := (-2 : Int32)) hx hb dL_reads_83 (by decide) ?_
        refine lv_icmp_ne (tgt := 118) hx hb dL_reads_85 (by decide) (fun hc109 => ?_) (fun hc109 => ?_)
        · replace h := g_if hc109 h
          refine lv_iconst (v := (0 : Int32)) hx hb dL_reads_118 (by decide) ?_
          exact hJ_J107 (0 : Int32) _ _ _ hP hS (lv_sub hl [0, 2, 6] rfl) h
        · replace h := g_it hc109 h
          refine lv_iload_n hx hb dL_reads_88 rfl (lv_at hl 4 rfl) ?_
          refine lv_iconst (v := (1 : Int32)) hx hb dL_reads_89 (by decide) ?_
          refine mrg_e h (fun J111 hK_J111 h => ?_)
          have hJ_J111 : ∀ (_ : Unit) (H : Heap) (locs : List Loc) (ls : Array Slot), va_P E.1 vwCl (List.flatten [[(g0, .inr (6, [.ref (an 0), .ref (au 0), .ref (ap 0), .ref q0, .ref x0, .ref r0, .int ke]))], [(q0, .inr (0, [.ref q1, .int lnn_65]))], wHa E q1 ba pm_67, wTx E x0 x1 x2 ch tl nu_69 le_71 nx_73, [(r0, .inr (3, [.ref (ar 0), .ref (aw 0), .int cmd_75, .int pos_77, .int rea_79, .int cau_81]))], wHuT E an xn_83, wHuT E au xt, wHuT E ap xp, wHuT E ar xr_85, wHuT E aw xw_87, wHuT E (ba 0) h0_89, wHuT E (ba 1) h1_91, wHuT E (ba 2) h2_93, wHuT E (ba 3) h3_95, wHuT E (ba 4) h4_97]) H → va_S A s.heap H locs → lv_has ls 8 [(6, .int v105), (4, .int r61), (3, .int r41), (2, .int r21), (0, .ref g0)] → J111 () = some res → W p l e ({ frames := 7, cells := 0, slots := 0, locals := 169 } : Room) s m args below meth c H locs 0 0 Q (F0 m 99 ls []) := by
            intro _ H locs ls hP hS hl h
            replace hD : va_D A (List.flatten [[(g0, .inr (6, [.ref (an 0), .ref (au 0), .ref (ap 0), .ref q0, .ref x0, .ref r0, .int ke]))], [(q0, .inr (0, [.ref q1, .int lnn_65]))], wHa E q1 ba pm_67, wTx E x0 x1 x2 ch tl nu_69 le_71 nx_73, [(r0, .inr (3, [.ref (ar 0), .ref (aw 0), .int cmd_75, .int pos_77, .int rea_79, .int cau_81]))], wHuT E an xn_83, wHuT E au xt, wHuT E ap xp, wHuT E ar xr_85, wHuT E aw xw_87, wHuT E (ba 0) h0_89, wHuT E (ba 1) h1_91, wHuT E (ba 2) h2_93, wHuT E (ba 3) h3_95, wHuT E (ba 4) h4_97]) := gD_same hD rfl
            subst hK_J111
            refine lv_iload_n hx hb dL_reads_99 rfl (lv_at hl 3 rfl) ?_
            refine lv_iconst (v := (2 : Int32)) hx hb dL_reads_100 (by decide) ?_
            refine lv_icmp_ne (tgt := 118) hx hb dL_reads_101 (by decide) (fun hc113 => ?_) (fun hc113 => ?_)
            · replace h := g_if hc113 h
              refine lv_iconst (v := (0 : Int32)) hx hb dL_reads_118 (by decide) ?_
              exact hJ_J107 (0 : Int32) _ _ _ hP hS (lv_sub hl [0, 1, 4] rfl) h
            · replace h := g_it hc113 h
              refine lv_iload_n hx hb dL_reads_104 rfl (lv_at hl 2 rfl) ?_
              refine lv_if_ge (tgt := 118) hx hb dL_reads_105 (by decide) (fun hc114 => ?_) (fun hc114 => ?_)
              · replace h := g_it hc114 h
                refine lv_iconst (v := (0 : Int32)) hx hb dL_reads_118 (by decide) ?_
                exact hJ_J107 (0 : Int32) _ _ _ hP hS (lv_sub hl [0, 1, 4] rfl) h
              · replace h := g_if hc114 h
                refine lv_iload_n hx hb dL_reads_108 rfl (lv_at hl 2 rfl) ?_
                refine lv_bipush (v := (-4 : Int32)) hx hb dL_reads_109 (by decide) ?_
                refine lv_icmp_le (tgt := 118) hx hb dL_reads_111 (by decide) (fun hc115 => ?_) (fun hc115 => ?_)
                · replace h := g_it hc115 h
                  refine lv_iconst (v := (0 : Int32)) hx hb dL_reads_118 (by decide) ?_
                  exact hJ_J107 (0 : Int32) _ _ _ hP hS (lv_sub hl [0, 1, 4] rfl) h
                · replace h := g_if hc115 h
                  refine lv_iconst (v := (1 : Int32)) hx hb dL_reads_114 (by decide) ?_
                  refine lv_goto (tgt := 119) hx hb dL_reads_115 (by decide) ?_
                  exact hJ_J107 (1 : Int32) _ _ _ hP hS (lv_sub hl [0, 1, 4] rfl) h
          refine lv_icmp_ne (tgt := 99) hx hb dL_reads_90 (by decide) (fun hc110 => ?_) (fun hc110 => ?_)
          · replace h := g_if hc110 h
            exact hJ_J111 () _ _ _ hP hS (lv_sub hl [0, 2, 3, 4, 6] rfl) h
          · replace h := g_it hc110 h
            refine lv_iload_n hx hb dL_reads_93 rfl (lv_at hl 3 rfl) ?_
            refine lv_bipush (v := (-4 : Int32)) hx hb dL_reads_94 (by decide) ?_
            refine lv_icmp_eq (tgt := 114) hx hb dL_reads_96 (by decide) (fun hc112 => ?_) (fun hc112 => ?_)
            · replace h := g_it hc112 h
              refine lv_iconst (v := (1 : Int32)) hx hb dL_reads_114 (by decide) ?_
              refine lv_goto (tgt := 119) hx hb dL_reads_115 (by decide) ?_
              exact hJ_J107 (1 : Int32) _ _ _ hP hS (lv_sub hl [0, 2, 6] rfl) h
            · replace h := g_if hc112 h
              exact hJ_J111 () _ _ _ hP hS (lv_sub hl [0, 2, 3, 4, 6] rfl) h
  refine lv_icmp_ne (tgt := 68) hx hb dL_reads_35 (by decide) (fun hc99 => ?_) (fun hc99 => ?_)
  · replace h := g_if hc99 h
    refine lv_iconst (v := (0 : Int32)) hx hb dL_reads_68 (by decide) ?_
    exact hJ_J100 (0 : Int32) _ _ _ hP hS (lv_sub hl [0, 1, 2, 3, 4, 5] rfl) h
  · replace h := g_it hc99 h
    refine lv_iload_n hx hb dL_reads_38 rfl (lv_at hl 3 rfl) ?_
    refine lv_bipush (v := (-4 : Int32)) hx hb dL_reads_39 (by decide) ?_
    refine lv_icmp_ne (tgt := 68) hx hb dL_reads_41 (by decide) (fun hc101 => ?_) (fun hc101 => ?_)
    · replace h := g_if hc101 h
      refine lv_iconst (v := (0 : Int32)) hx hb dL_reads_68 (by decide) ?_
      exact hJ_J100 (0 : Int32) _ _ _ hP hS (lv_sub hl [0, 1, 2, 3, 4, 5] rfl) h
    · replace h := g_it hc101 h
      refine lv_iload_n hx hb dL_reads_44 rfl (lv_at hl 2 rfl) ?_
      refine lv_bipush (v := (-4 : Int32)) hx hb dL_reads_45 (by decide) ?_
      refine lv_icmp_ne (tgt := 68) hx hb dL_reads_47 (by decide) (fun hc102 => ?_) (fun hc102 => ?_)
      · replace h := g_if hc102 h
        refine lv_iconst (v := (0 : Int32)) hx hb dL_reads_68 (by decide) ?_
        exact hJ_J100 (0 : Int32) _ _ _ hP hS (lv_sub hl [0, 1, 2, 3, 4, 5] rfl) h
      · replace h := g_it hc102 h
        refine lv_iload hx hb dL_reads_50 (lv_at hl 0 rfl) ?_
        refine lv_if_lt (tgt := 68) hx hb dL_reads_52 (by decide) (fun hc103 => ?_) (fun hc103 => ?_)
        · replace h := g_it hc103 h
          refine lv_iconst (v := (0 : Int32)) hx hb dL_reads_68 (by decide) ?_
          exact hJ_J100 (0 : Int32) _ _ _ hP hS (lv_sub hl [0, 1, 2, 3, 4, 5] rfl) h
        · replace h := g_if hc103 h
          refine lv_iconst (v := (2 : Int32)) hx hb dL_reads_55 (by decide) ?_
          refine lv_iload hx hb dL_reads_56 (lv_at hl 0 rfl) ?_
          refine lv_imul hx hb dL_reads_58 ?_
          refine lv_iload hx hb dL_reads_59 (lv_at hl 1 rfl) ?_
          refine lv_icmp_gt (tgt := 68) hx hb dL_reads_61 (by decide) (fun hc104 => ?_) (fun hc104 => ?_)
          · replace h := g_it hc104 h
            refine lv_iconst (v := (0 : Int32)) hx hb dL_reads_68 (by decide) ?_
            exact hJ_J100 (0 : Int32) _ _ _ hP hS (lv_sub hl [0, 1, 2, 3, 4, 5] rfl) h
          · replace h := g_if hc104 h
            refine lv_iconst (v := (1 : Int32)) hx hb dL_reads_64 (by decide) ?_
            refine lv_goto (tgt := 69) hx hb dL_reads_65 (by decide) ?_
            exact hJ_J100 (1 : Int32) _ _ _ hP hS (lv_sub hl [0, 1, 2, 3, 4, 5] rfl) h
