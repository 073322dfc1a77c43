set_option maxHeartbeats 4000000 in
set_option maxRecDepth 100000 in
theorem kL_holds (E : gE) (l : Launch) (g0 q0 q1 x0 x1 x2 r0 : Nat) (an au ap ar aw : Nat → Nat) (ba : Nat → Nat → Nat) (ke : Int32) (lnn : Int32) (pm : Nat → Nat) (ch : Nat → Int32) (tl : Int32) (nu : Nat → Int32) (le : Int32) (nx : Int32) (cmd : Int32) (pos : Int32) (rea : Int32) (cau : Int32) (xn : HutS) (xt : HutS) (xp : HutS) (xr : HutS) (xw : HutS) (h0 : HutS) (h1 : HutS) (h2 : HutS) (h3 : HutS) (h4 : HutS) (p2 : Int32) (res : Int32 × HutS) (h : fL_holds ke lnn tl xn xt p2 = some res) : gMI E l yL_holds wsL_holds ({ frames := 4, cells := 0, slots := 0, locals := 97 } : Room) [.ref g0, .int p2] (List.flatten [[(g0, .inr (6, [.ref (an 0), .ref (au 0), .ref (ap 0), .ref q0, .ref x0, .ref r0, .int ke]))], [(q0, .inr (0, [.ref q1, .int lnn]))], wHa E q1 ba pm, wTx E x0 x1 x2 ch tl nu le nx, [(r0, .inr (3, [.ref (ar 0), .ref (aw 0), .int cmd, .int pos, .int rea, .int cau]))], wHuT E an xn, wHuT E au xt, wHuT E ap xp, wHuT E ar xr, wHuT E aw xw, wHuT E (ba 0) h0, wHuT E (ba 1) h1, wHuT E (ba 2) h2, wHuT E (ba 3) h3, wHuT E (ba 4) h4]) (fun res : Int32 × HutS => (List.flatten [[(g0, .inr (6, [.ref (an 0), .ref (au 0), .ref (ap 0), .ref q0, .ref x0, .ref r0, .int ke]))], [(q0, .inr (0, [.ref q1, .int lnn]))], wHa E q1 ba pm, wTx E x0 x1 x2 ch tl nu le nx, [(r0, .inr (3, [.ref (ar 0), .ref (aw 0), .int cmd, .int pos, .int rea, .int cau]))], wHuT E an xn, wHuT E au res.2, wHuT E ap xp, wHuT E ar xr, wHuT E aw xw, wHuT E (ba 0) h0, wHuT E (ba 1) h1, wHuT E (ba 2) h2, wHuT E (ba 3) h3, wHuT E (ba 4) h4])) (fun res => res.1) res := by
  refine g_entZ (cc := cL_holds) (maxL := 10) (by decide) rfl (Nat.le_of_ble_eq_true rfl) ?_
  intro p e s m args below meth c A Q ls hx hb hml hown hts hK hP hD hS hA hG hret hl
  unfold fL_holds at h
  replace hl : lv_has ls 10 [(0, .ref g0), (1, .int p2)] := hl
  refine lv_iconst (v := (0 : Int32)) hx hb dL_holds_0 (by decide) ?_
  refine lv_istore_n (lv' := [(2, .int (0 : Int32)), (0, .ref g0), (1, .int p2)]) hx hb dL_holds_1 rfl hl (by decide) rfl (fun ls hl => ?_)
  refine lv_iconst (v := (0 : Int32)) hx hb dL_holds_2 (by decide) ?_
  refine lv_istore_n (lv' := [(3, .int (0 : Int32)), (2, .int (0 : Int32)), (0, .ref g0), (1, .int p2)]) hx hb dL_holds_3 rfl hl (by decide) rfl (fun ls hl => ?_)
  refine lv_iconst (v := (0 : Int32)) hx hb dL_holds_4 (by decide) ?_
  refine lv_istore (lv' := [(4, .int (0 : Int32)), (3, .int (0 : Int32)), (2, .int (0 : Int32)), (0, .ref g0), (1, .int p2)]) hx hb dL_holds_5 hl (by decide) rfl (fun ls hl => ?_)
  refine lv_iconst (v := (0 : Int32)) hx hb dL_holds_7 (by decide) ?_
  refine lv_istore (lv' := [(5, .int (0 : Int32)), (4, .int (0 : Int32)), (3, .int (0 : Int32)), (2, .int (0 : Int32)), (0, .ref g0), (1, .int p2)]) hx hb dL_holds_8 hl (by decide) rfl (fun ls hl => ?_)
  refine lv_iconst (v := (0 : Int32)) hx hb dL_holds_10 (by decide) ?_
  refine lv_istore (lv' := [(6, .int (0 : Int32)), (5, .int (0 : Int32)), (4, .int (0 : Int32)), (3, .int (0 : Int32)), (2, .int (0 : Int32)), (0, .ref g0), (1, .int p2)]) hx hb dL_holds_11 hl (by decide) rfl (fun ls hl => ?_)
  refine gl6_e h (fun S_rec1 hS_rec1 h => ?_)
  have hL_rec1 : ∀ (nF : Nat) (v2 : Int32) (v3 : Int32) (v4 : Int32) (v5 : Int32) (v6 : Int32) (xt7 : HutS) (H : Heap) (locs : List Loc) (ls : Array Slot), va_P E.1 vwCl (List.flatten [[(g0, .inr (6, [.ref (an 0), .ref (au 0), .ref (ap 0), .ref q0, .ref x0, .ref r0, .int ke]))], [(q0, .inr (0, [.ref q1, .int lnn]))], wHa E q1 ba pm, wTx E x0 x1 x2 ch tl nu le nx, [(r0, .inr (3, [.ref (ar 0), .ref (aw 0), .int cmd, .int pos, .int rea, .int cau]))], wHuT E an xn, wHuT E au xt7, wHuT E ap xp, wHuT E ar xr, wHuT E aw xw, wHuT E (ba 0) h0, wHuT E (ba 1) h1, wHuT E (ba 2) h2, wHuT E (ba 3) h3, wHuT E (ba 4) h4]) H → va_S A s.heap H locs → lv_has ls 10 [(6, .int v2), (5, .int v3), (4, .int v4), (3, .int v5), (2, .int v6), (0, .ref g0)] → gl6 S_rec1 nF v2 v3 v4 v5 v6 xt7 = some res → W p l e ({ frames := 4, cells := 0, slots := 0, locals := 97 } : Room) s m args below meth c H locs 0 0 Q (F0 m 13 ls []) := by
    intro nF
    induction nF with
    | zero => intro v2 v3 v4 v5 v6 xt7 H locs ls hP hS hl h; exact gl6_z h
    | succ nF ih_rec1 =>
      intro v2 v3 v4 v5 v6 xt7 H locs ls hP hS hl h
      replace hD : va_D A (List.flatten [[(g0, .inr (6, [.ref (an 0), .ref (au 0), .ref (ap 0), .ref q0, .ref x0, .ref r0, .int ke]))], [(q0, .inr (0, [.ref q1, .int lnn]))], wHa E q1 ba pm, wTx E x0 x1 x2 ch tl nu le nx, [(r0, .inr (3, [.ref (ar 0), .ref (aw 0), .int cmd, .int pos, .int rea, .int cau]))], wHuT E an xn, wHuT E au xt7, wHuT E ap xp, wHuT E ar xr, wHuT E aw xw, wHuT E (ba 0) h0, wHuT E (ba 1) h1, wHuT E (ba 2) h2, wHuT E (ba 3) h3, wHuT E (ba 4) h4]) := gD_same hD rfl
      replace h : S_rec1 (gl6 S_rec1 nF) v2 v3 v4 v5 v6 xt7 = some res := h
      generalize gl6 S_rec1 nF = rec1 at h ih_rec1
      subst hS_rec1
      unfold sL_holds_rec1 at h
      refine lv_iload hx hb dL_holds_13 (lv_at hl 0 rfl) ?_
      refine lv_aload_n hx hb dL_holds_15 rfl (lv_at hl 5 rfl) ?_
      refine lv_iconst (v := (0 : Int32)) hx hb dL_holds_16 (by decide) ?_
      obtain ⟨r8, hc9, h⟩ := bd1_s h
      refine g_callBi (As := [.int (0 : Int32)]) (rest := [.int v2]) (r := r8) (bs1 := [[(g0, .inr (6, [.ref (an 0), .ref (au 0), .ref (ap 0), .ref q0, .ref x0, .ref r0, .int ke]))], [(q0, .inr (0, [.ref q1, .int lnn]))], wHa E q1 ba pm, wTx E x0 x1 x2 ch tl nu le nx, [(r0, .inr (3, [.ref (ar 0), .ref (aw 0), .int cmd, .int pos, .int rea, .int cau]))], wHuT E an xn, wHuT E au xt7, wHuT E ap xp, wHuT E ar xr, wHuT E aw xw, wHuT E (ba 0) h0, wHuT E (ba 1) h1, wHuT E (ba 2) h2, wHuT E (ba 3) h3, wHuT E (ba 4) h4]) ⟨hx, hb, hml, hown, hts⟩ (kX6_count E l g0 q0 q1 x0 x1 x2 r0 an au ap ar aw ba ke lnn pm ch tl nu le nx cmd pos rea cau xn xt7 xp xr xw h0 h1 h2 h3 h4 (0 : Int32) r8 hc9) (cwV 1 hts gL_holds_X6_count rfl rfl rfl (by decide +kernel) ⟨Nat.le_of_ble_eq_true rfl, Nat.le_of_ble_eq_true rfl⟩) hK hP hD hS hA hG hl [0, 1, 2, 3, 4, 5, 6, 7, 8, 9, 10, 11, 12, 13, 14] 0 0 (by decide) rfl (ci := 6) rfl rfl rfl rfl rfl rfl rfl rfl rfl rfl (Nat.le_of_ble_eq_true rfl) dL_holds_17 (Nat.zero_le _) (Nat.zero_le _) (fun H locs hP hD hS => ?_)
      refine lv_icmp_ge (tgt := 288) hx hb dL_holds_20 (by decide) (fun hc10 => ?_) (fun hc10 => ?_)
      · replace h := g_it hc10 h
        refine lv_iconst (v := (0 : Int32)) hx hb dL_holds_288 (by decide) ?_
        refine lv_istore (lv' := [(6, .int (0 : Int32)), (5, .int v3), (4, .int v4), (3, .int v5), (2, .int v6), (0, .ref g0)]) hx hb dL_holds_289 hl (by decide) rfl (fun ls hl => ?_)
        refine lv_iconst (v := (0 : Int32)) hx hb dL_holds_291 (by decide) ?_
        refine lv_istore (lv' := [(7, .int (0 : Int32)), (6, .int (0 : Int32)), (5, .int v3), (4, .int v4), (3, .int v5), (2, .int v6), (0, .ref g0)]) hx hb dL_holds_292 hl (by decide) rfl (fun ls hl => ?_)
        refine gl3_e h (fun S_rec11 hS_rec11 h => ?_)
        have hL_rec11 : ∀ (nF : Nat) (v12 : Int32) (v13 : Int32) (xt14 : HutS) (H : Heap) (locs : List Loc) (ls : Array Slot), va_P E.1 vwCl (List.flatten [[(g0, .inr (6, [.ref (an 0), .ref (au 0), .ref (ap 0), .ref q0, .ref x0, .ref r0, .int ke]))], [(q0, .inr (0, [.ref q1, .int lnn]))], wHa E q1 ba pm, wTx E x0 x1 x2 ch tl nu le nx, [(r0, .inr (3, [.ref (ar 0), .ref (aw 0), .int cmd, .int pos, .int rea, .int cau]))], wHuT E an xn, wHuT E au xt14, wHuT E ap xp, wHuT E ar xr, wHuT E aw xw, wHuT E (ba 0) h0, wHuT E (ba 1) h1, wHuT E (ba 2) h2, wHuT E (ba 3) h3, wHuT E (ba 4) h4]) H → va_S A s.heap H locs → lv_has ls 10 [(7, .int v12), (6, .int v13), (5, .int v3), (4, .int v4), (3, .int v5), (2, .int v6), (0, .ref g0)] → gl3 S_rec11 nF v12 v13 xt14 = some res → W p l e ({ frames := 4, cells := 0, slots := 0, locals := 97 } : Room) s m args below meth c H locs 0 0 Q (F0 m 294 ls []) := by
          intro nF
          induction nF with
          | zero => intro v12 v13 xt14 H locs ls hP hS hl h; exact gl3_z h
          | succ nF ih_rec11 =>
            intro v12 v13 xt14 H locs ls hP hS hl h
            replace hD : va_D A (List.flatten [[(g0, .inr (6, [.ref (an 0), .ref (au 0), .ref (ap 0), .ref q0, .ref x0, .ref r0, .int ke]))], [(q0, .inr (0, [.ref q1, .int lnn]))], wHa E q1 ba pm, wTx E x0 x1 x2 ch tl nu le nx, [(r0, .inr (3, [.ref (ar 0), .ref (aw 0), .int cmd, .int pos, .int rea, .int cau]))], wHuT E an xn, wHuT E au xt14, wHuT E ap xp, wHuT E ar xr, wHuT E aw xw, wHuT E (ba 0) h0, wHuT E (ba 1) h1, wHuT E (ba 2) h2, wHuT E (ba 3) h3, wHuT E (ba 4) h4]) := gD_same hD rfl
            replace h : S_rec11 (gl3 S_rec11 nF) v12 v13 xt14 = some res := h
            generalize gl3 S_rec11 nF = rec11 at h ih_rec11
            subst hS_rec11
            unfold sL_holds_rec11 at h
            refine lv_iload hx hb dL_holds_294 (lv_at hl 0 rfl) ?_
            refine lv_iconst (v := (3 : Int32)) hx hb dL_holds_296 (by decide) ?_
            refine lv_icmp_ge (tgt := 384) hx hb dL_holds_297 (by decide) (fun hc15 => ?_) (fun hc15 => ?_)
            · replace h := g_it hc15 h
              refine lv_iload_n hx hb dL_holds_384 rfl (lv_at hl 5 rfl) ?_
              refine lv_aload_n hx hb dL_holds_385 rfl (lv_at hl 6 rfl) ?_
              refine lv_iconst (v := (1 : Int32)) hx hb dL_holds_386 (by decide) ?_
              obtain ⟨r16, hc17, h⟩ := bd1_s h
              refine g_callBi (As := [.int (1 : Int32)]) (rest := [.int v6]) (r := r16) (bs1 := [[(g0, .inr (6, [.ref (an 0), .ref (au 0), .ref (ap 0), .ref q0, .ref x0, .ref r0, .int ke]))], [(q0, .inr (0, [.ref q1, .int lnn]))], wHa E q1 ba pm, wTx E x0 x1 x2 ch tl nu le nx, [(r0, .inr (3, [.ref (ar 0), .ref (aw 0), .int cmd, .int pos, .int rea, .int cau]))], wHuT E an xn, wHuT E au xt14, wHuT E ap xp, wHuT E ar xr, wHuT E aw xw, wHuT E (ba 0) h0, wHuT E (ba 1) h1, wHuT E (ba 2) h2, wHuT E (ba 3) h3, wHuT E (ba 4) h4]) ⟨hx, hb, hml, hown, hts⟩ (kX6_count E l g0 q0 q1 x0 x1 x2 r0 an au ap ar aw ba ke lnn pm ch tl nu le nx cmd pos rea cau xn xt14 xp xr xw h0 h1 h2 h3 h4 (1 : Int32) r16 hc17) (cwV 1 hts gL_holds_X6_count rfl rfl rfl (by decide +kernel) ⟨Nat.le_of_ble_eq_true rfl, Nat.le_of_ble_eq_true rfl⟩) hK hP hD hS hA hG hl [0, 1, 2, 3, 4, 5, 6, 7, 8, 9, 10, 11, 12, 13, 14] 0 0 (by decide) rfl (ci := 6) rfl rfl rfl rfl rfl rfl rfl rfl rfl rfl (Nat.le_of_ble_eq_true rfl) dL_holds_387 (Nat.zero_le _) (Nat.zero_le _) (fun H locs hP hD hS => ?_)
              refine lv_icmp_ne (tgt := 445) hx hb dL_holds_390 (by decide) (fun hc18 => ?_) (fun hc18 => ?_)
              · replace h := g_if hc18 h
                cases h
              · replace h := g_it hc18 h
                refine lv_iload_n hx hb dL_holds_393 rfl (lv_at hl 4 rfl) ?_
                refine lv_aload_n hx hb dL_holds_394 rfl (lv_at hl 6 rfl) ?_
                refine lv_iconst (v := (2 : Int32)) hx hb dL_holds_395 (by decide) ?_
                obtain ⟨r19, hc20, h⟩ := bd1_s h
                refine g_callBi (As := [.int (2 : Int32)]) (rest := [.int v5]) (r := r19) (bs1 := [[(g0, .inr (6, [.ref (an 0), .ref (au 0), .ref (ap 0), .ref q0, .ref x0, .ref r0, .int ke]))], [(q0, .inr (0, [.ref q1, .int lnn]))], wHa E q1 ba pm, wTx E x0 x1 x2 ch tl nu le nx, [(r0, .inr (3, [.ref (ar 0), .ref (aw 0), .int cmd, .int pos, .int rea, .int cau]))], wHuT E an xn, wHuT E au xt14, wHuT E ap xp, wHuT E ar xr, wHuT E aw xw, wHuT E (ba 0) h0, wHuT E (ba 1) h1, wHuT E (ba 2) h2, wHuT E (ba 3) h3, wHuT E (ba 4) h4]) ⟨hx, hb, hml, hown, hts⟩ (kX6_count E l g0 q0 q1 x0 x1 x2 r0 an au ap ar aw ba ke lnn pm ch tl nu le nx cmd pos rea cau xn xt14 xp xr xw h0 h1 h2 h3 h4 (2 : Int32) r19 hc20) (cwV 1 hts gL_holds_X6_count rfl rfl rfl (by decide +kernel) ⟨Nat.le_of_ble_eq_true rfl, Nat.le_of_ble_eq_true rfl⟩) hK hP hD hS hA hG hl [0, 1, 2, 3, 4, 5, 6, 7, 8, 9, 10, 11, 12, 13, 14] 0 0 (by decide) rfl (ci := 6) rfl rfl rfl rfl rfl rfl rfl rfl rfl rfl (Nat.le_of_ble_eq_true rfl) dL_holds_396 (Nat.zero_le _) (Nat.zero_le _) (fun H locs hP hD hS => ?_)
                refine lv_icmp_ne (tgt := 445) hx hb dL_holds_399 (by decide) (fun hc21 => ?_) (fun hc21 => ?_)
                · replace h := g_if hc21 h
                  cases h
                · replace h := g_it hc21 h
                  refine lv_iload hx hb dL_holds_402 (lv_at hl 3 rfl) ?_
                  refine lv_aload_n hx hb dL_holds_404 rfl (lv_at hl 6 rfl) ?_
                  refine lv_iconst (v := (3 : Int32)) hx hb dL_holds_405 (by decide) ?_
                  obtain ⟨r22, hc23, h⟩ := bd1_s h
                  refine g_callBi (As := [.int (3 : Int32)]) (rest := [.int v4]) (r := r22) (bs1 := [[(g0, .inr (6, [.ref (an 0), .ref (au 0), .ref (ap 0), .ref q0, .ref x0, .ref r0, .int ke]))], [(q0, .inr (0, [.ref q1, .int lnn]))], wHa E q1 ba pm, wTx E x0 x1 x2 ch tl nu le nx, [(r0, .inr (3, [.ref (ar 0), .ref (aw 0), .int cmd, .int pos, .int rea, .int cau]))], wHuT E an xn, wHuT E au xt14, wHuT E ap xp, wHuT E ar xr, wHuT E aw xw, wHuT E (ba 0) h0, wHuT E (ba 1) h1, wHuT E (ba 2) h2, wHuT E (ba 3) h3, wHuT E (ba 4) h4]) ⟨hx, hb, hml, hown, hts⟩ (kX6_count E l g0 q0 q1 x0 x1 x2 r0 an au ap ar aw ba ke lnn pm ch tl nu le nx cmd pos rea cau xn xt14 xp xr xw h0 h1 h2 h3 h4 (3 : Int32) r22 hc23) (cwV 1 hts gL_holds_X6_count rfl rfl rfl (by decide +kernel) ⟨Nat.le_of_ble_eq_true rfl, Nat.le_of_ble_eq_true rfl⟩) hK hP hD hS hA hG hl [0, 1, 2, 3, 4, 5, 6, 7, 8, 9, 10, 11, 12, 13, 14] 0 0 (by decide) rfl (ci := 6) rfl rfl rfl rfl rfl rfl rfl rfl rfl rfl (Nat.le_of_ble_eq_true rfl) dL_holds_406 (Nat.zero_le _) (Nat.zero_le _) (fun H locs hP hD hS => ?_)
                  refine lv_icmp_ne (tgt := 445) hx hb dL_holds_409 (by decide) (fun hc24 => ?_) (fun hc24 => ?_)
                  · replace h := g_if hc24 h
                    cases h
                  · replace h := g_it hc24 h
                    refine lv_iload hx hb dL_holds_412 (lv_at hl 2 rfl) ?_
                    refine lv_aload_n hx hb dL_holds_414 rfl (lv_at hl 6 rfl) ?_
                    refine lv_bipush (v := (10 : Int32)) hx hb dL_holds_415 (by decide) ?_
                    obtain ⟨r25, hc26, h⟩ := bd1_s h
                    refine g_callBi (As := [.int (10 : Int32)]) (rest := [.int v3]) (r := r25) (bs1 := [[(g0, .inr (6, [.ref (an 0), .ref (au 0), .ref (ap 0), .ref q0, .ref x0, .ref r0, .int ke]))], [(q0, .inr (0, [.ref q1, .int lnn]))], wHa E q1 ba pm, wTx E x0 x1 x2 ch tl nu le nx, [(r0, .inr (3, [.ref (ar 0), .ref (aw 0), .int cmd, .int pos, .int rea, .int cau]))], wHuT E an xn, wHuT E au xt14, wHuT E ap xp, wHuT E ar xr, wHuT E aw xw, wHuT E (ba 0) h0, wHuT E (ba 1) h1, wHuT E (ba 2) h2, wHuT E (ba 3) h3, wHuT E (ba 4) h4]) ⟨hx, hb, hml, hown, hts⟩ (kX6_count E l g0 q0 q1 x0 x1 x2 r0 an au ap ar aw ba ke lnn pm ch tl nu le nx cmd pos rea cau xn xt14 xp xr xw h0 h1 h2 h3 h4 (10 : Int32) r25 hc26) (cwV 1 hts gL_holds_X6_count rfl rfl rfl (by decide +kernel) ⟨Nat.le_of_ble_eq_true rfl, Nat.le_of_ble_eq_true rfl⟩) hK hP hD hS hA hG hl [0, 1, 2, 3, 4, 5, 6, 7, 8, 9, 10, 11, 12, 13, 14] 0 0 (by decide) rfl (ci := 6) rfl rfl rfl rfl rfl rfl rfl rfl rfl rfl (Nat.le_of_ble_eq_true rfl) dL_holds_417 (Nat.zero_le _) (Nat.zero_le _) (fun H locs hP hD hS => ?_)
                    refine lv_icmp_ne (tgt := 445) hx hb dL_holds_420 (by decide) (fun hc27 => ?_) (fun hc27 => ?_)
                    · replace h := g_if hc27 h
                      cases h
                    · replace h := g_it hc27 h
                      refine lv_iload hx hb dL_holds_423 (lv_at hl 1 rfl) ?_
                      refine lv_bipush (v := (20 : Int32)) hx hb dL_holds_425 (by decide) ?_
                      refine lv_icmp_gt (tgt := 445) hx hb dL_holds_427 (by decide) (fun hc28 => ?_) (fun hc28 => ?_)
                      · replace h := g_it hc28 h
                        cases h
                      · replace h := g_if hc28 h
                        refine lv_aload_n hx hb dL_holds_430 rfl (lv_at hl 6 rfl) ?_
                        refine lv_bipush (v := (7 : Int32)) hx hb dL_holds_431 (by decide) ?_
                        obtain ⟨r29, hc30, h⟩ := bd1_s h
                        refine g_callBi (As := [.int (7 : Int32)]) (rest := []) (r := r29) (bs1 := [[(g0, .inr (6, [.ref (an 0), .ref (au 0), .ref (ap 0), .ref q0, .ref x0, .ref r0, .int ke]))], [(q0, .inr (0, [.ref q1, .int lnn]))], wHa E q1 ba pm, wTx E x0 x1 x2 ch tl nu le nx, [(r0, .inr (3, [.ref (ar 0), .ref (aw 0), .int cmd, .int pos, .int rea, .int cau]))], wHuT E an xn, wHuT E au xt14, wHuT E ap xp, wHuT E ar xr, wHuT E aw xw, wHuT E (ba 0) h0, wHuT E (ba 1) h1, wHuT E (ba 2) h2, wHuT E (ba 3) h3, wHuT E (ba 4) h4]) ⟨hx, hb, hml, hown, hts⟩ (kX6_count E l g0 q0 q1 x0 x1 x2 r0 an au ap ar aw ba ke lnn pm ch tl nu le nx cmd pos rea cau xn xt14 xp xr xw h0 h1 h2 h3 h4 (7 : Int32) r29 hc30) (cwV 1 hts gL_holds_X6_count rfl rfl rfl (by decide +kernel) ⟨Nat.le_of_ble_eq_true rfl, Nat.le_of_ble_eq_true rfl⟩) hK hP hD hS hA hG hl [0, 1, 2, 3, 4, 5, 6, 7, 8, 9, 10, 11, 12, 13, 14] 0 0 (by decide) rfl (ci := 6) rfl rfl rfl rfl rfl rfl rfl rfl rfl rfl (Nat.le_of_ble_eq_true rfl) dL_holds_433 (Nat.zero_le _) (Nat.zero_le _) (fun H locs hP hD hS => ?_)
                        refine lv_bipush (v := (6 : Int32)) hx hb dL_holds_436 (by decide) ?_
                        refine lv_icmp_gt (tgt := 445) hx hb dL_holds_438 (by decide) (fun hc31 => ?_) (fun hc31 => ?_)
                        · replace h := g_it hc31 h
                          cases h
                        · replace h := g_if hc31 h
                          refine lv_iconst (v := (1 : Int32)) hx hb dL_holds_441 (by decide) ?_
                          refine lv_goto (tgt := 446) hx hb dL_holds_442 (by decide) ?_
                          exact hret ((1 : Int32), xt14) _ _ _ _ _ (Option.some.inj h) hP hS rfl rfl dL_holds_446
            · replace h := g_if hc15 h
              refine lv_iload hx hb dL_holds_300 (lv_at hl 1 rfl) ?_
              refine lv_aload_n hx hb dL_holds_302 rfl (lv_at hl 6 rfl) ?_
              refine lv_iload hx hb dL_holds_303 (lv_at hl 0 rfl) ?_
              refine lv_iconst (v := (4 : Int32)) hx hb dL_holds_305 (by decide) ?_
              obtain ⟨r32, hc33, h⟩ := bd1_s h
              refine g_callBi (As := [.int v12, .int (4 : Int32)]) (rest := [.int v13]) (r := r32) (bs1 := [[(g0, .inr (6, [.ref (an 0), .ref (au 0), .ref (ap 0), .ref q0, .ref x0, .ref r0, .int ke]))], [(q0, .inr (0, [.ref q1, .int lnn]))], wHa E q1 ba pm, wTx E x0 x1 x2 ch tl nu le nx, [(r0, .inr (3, [.ref (ar 0), .ref (aw 0), .int cmd, .int pos, .int rea, .int cau]))], wHuT E an xn, wHuT E au xt14, wHuT E ap xp, wHuT E ar xr, wHuT E aw xw, wHuT E (ba 0) h0, wHuT E (ba 1) h1, wHuT E (ba 2) h2, wHuT E (ba 3) h3, wHuT E (ba 4) h4]) ⟨hx, hb, hml, hown, hts⟩ (kX6_storeOf E l g0 q0 q1 x0 x1 x2 r0 an au ap ar aw ba ke lnn pm ch tl nu le nx cmd pos rea cau xn xt14 xp xr xw h0 h1 h2 h3 h4 v12 (4 : Int32) r32 hc33) (cwV 2 hts gL_holds_X6_storeOf rfl rfl rfl (by decide +kernel) ⟨Nat.le_of_ble_eq_true rfl, Nat.le_of_ble_eq_true rfl⟩) hK hP hD hS hA hG hl [0, 1, 2, 3, 4, 5, 6, 7, 8, 9, 10, 11, 12, 13, 14] 0 0 (by decide) rfl (ci := 6) rfl rfl rfl rfl rfl rfl rfl rfl rfl rfl (Nat.le_of_ble_eq_true rfl) dL_holds_306 (Nat.zero_le _) (Nat.zero_le _) (fun H locs hP hD hS => ?_)
              refine lv_iadd hx hb dL_holds_309 ?_
              refine lv_topi (fun v34 e_v34 => ?_)
              replace h := jl_s e_v34 h
              refine lv_istore (lv' := [(6, .int v34), (7, .int v12), (5, .int v3), (4, .int v4), (3, .int v5), (2, .int v6), (0, .ref g0)]) hx hb dL_holds_310 hl (by decide) rfl (fun ls hl => ?_)
              refine lv_aload_n hx hb dL_holds_312 rfl (lv_at hl 6 rfl) ?_
              refine lv_iload hx hb dL_holds_313 (lv_at hl 1 rfl) ?_
              obtain ⟨r35, xt_37, hc38, h⟩ := bd2_s h
              refine g_callBi (As := [.int v12]) (rest := []) (r := r35) (bs1 := [[(g0, .inr (6, [.ref (an 0), .ref (au 0), .ref (ap 0), .ref q0, .ref x0, .ref r0, .int ke]))], [(q0, .inr (0, [.ref q1, .int lnn]))], wHa E q1 ba pm, wTx E x0 x1 x2 ch tl nu le nx, [(r0, .inr (3, [.ref (ar 0), .ref (aw 0), .int cmd, .int pos, .int rea, .int cau]))], wHuT E an xn, wHuT E au xt_37, wHuT E ap xp, wHuT E ar xr, wHuT E aw xw, wHuT E (ba 0) h0, wHuT E (ba 1) h1, wHuT E (ba 2) h2, wHuT E (ba 3) h3, wHuT E (ba 4) h4]) ⟨hx, hb, hml, hown, hts⟩ (kX6_outOn E l g0 q0 q1 x0 x1 x2 r0 an au ap ar aw ba ke lnn pm ch tl nu le nx cmd pos rea cau xn xt14 xp xr xw h0 h1 h2 h3 h4 v12 (r35, xt_37) hc38) (cwV 1 hts gL_holds_X6_outOn rfl rfl rfl (by decide +kernel) ⟨Nat.le_of_ble_eq_true rfl, Nat.le_of_ble_eq_true rfl⟩) hK hP hD hS hA hG hl [0, 1, 2, 3, 4, 5, 6, 7, 8, 9, 10, 11, 12, 13, 14] 0 0 (by decide) rfl (ci := 6) rfl rfl rfl rfl rfl rfl rfl rfl rfl rfl (Nat.le_of_ble_eq_true rfl) dL_holds_315 (Nat.zero_le _) (Nat.zero_le _) (fun H locs hP hD hS => ?_)
              refine lv_istore (lv' := [(8, .int r35), (6, .int v34), (7, .int v12), (5, .int v3), (4, .int v4), (3, .int v5), (2, .int v6), (0, .ref g0)]) hx hb dL_holds_318 hl (by decide) rfl (fun ls hl => ?_)
              refine lv_aload_n hx hb dL_holds_320 rfl (lv_at hl 7 rfl) ?_
              refine lv_iload hx hb dL_holds_321 (lv_at hl 2 rfl) ?_
              refine lv_iconst (v := (1 : Int32)) hx hb dL_holds_323 (by decide) ?_
              obtain ⟨r39, hc40, h⟩ := bd1_s h
              refine g_callBi (As := [.int v12, .int (1 : Int32)]) (rest := []) (r := r39) (bs1 := [[(g0, .inr (6, [.ref (an 0), .ref (au 0), .ref (ap 0), .ref q0, .ref x0, .ref r0, .int ke]))], [(q0, .inr (0, [.ref q1, .int lnn]))], wHa E q1 ba pm, wTx E x0 x1 x2 ch tl nu le nx, [(r0, .inr (3, [.ref (ar 0), .ref (aw 0), .int cmd, .int pos, .int rea, .int cau]))], wHuT E an xn, wHuT E au xt_37, wHuT E ap xp, wHuT E ar xr, wHuT E aw xw, wHuT E (ba 0) h0, wHuT E (ba 1) h1, wHuT E (ba 2) h2, wHuT E (ba 3) h3, wHuT E (ba 4) h4]) ⟨hx, hb, hml, hown, hts⟩ (kX6_storeOf E l g0 q0 q1 x0 x1 x2 r0 an au ap ar aw ba ke lnn pm ch tl nu le nx cmd pos rea cau xn xt_37 xp xr xw h0 h1 h2 h3 h4 v12 (1 : Int32) r39 hc40) (cwV 2 hts gL_holds_X6_storeOf rfl rfl rfl (by decide +kernel) ⟨Nat.le_of_ble_eq_true rfl, Nat.le_of_ble_eq_true rfl⟩) hK hP hD hS hA hG hl [0, 1, 2, 3, 4, 5, 6, 7, 8, 9, 10, 11, 12, 13, 14] 0 0 (by decide) rfl (ci := 6) rfl rfl rfl rfl rfl rfl rfl rfl rfl rfl (Nat.le_of_ble_eq_true rfl) dL_holds_324 (Nat.zero_le _) (Nat.zero_le _) (fun H locs hP hD hS => ?_)
              refine lv_aload_n hx hb dL_holds_327 rfl (lv_at hl 7 rfl) ?_
              refine lv_iload hx hb dL_holds_328 (lv_at hl 2 rfl) ?_
              refine lv_iconst (v := (0 : Int32)) hx hb dL_holds_330 (by decide) ?_
              obtain ⟨r41, hc42, h⟩ := bd1_s h
              refine g_callBi (As := [.int v12, .int (0 : Int32)]) (rest := [.int r39]) (r := r41) (bs1 := [[(g0, .inr (6, [.ref (an 0), .ref (au 0), .ref (ap 0), .ref q0, .ref x0, .ref r0, .int ke]))], [(q0, .inr (0, [.ref q1, .int lnn]))], wHa E q1 ba pm, wTx E x0 x1 x2 ch tl nu le nx, [(r0, .inr (3, [.ref (ar 0), .ref (aw 0), .int cmd, .int pos, .int rea, .int cau]))], wHuT E an xn, wHuT E au xt_37, wHuT E ap xp, wHuT E ar xr, wHuT E aw xw, wHuT E (ba 0) h0, wHuT E (ba 1) h1, wHuT E (ba 2) h2, wHuT E (ba 3) h3, wHuT E (ba 4) h4]) ⟨hx, hb, hml, hown, hts⟩ (kX6_storeOf E l g0 q0 q1 x0 x1 x2 r0 an au ap ar aw ba ke lnn pm ch tl nu le nx cmd pos rea cau xn xt_37 xp xr xw h0 h1 h2 h3 h4 v12 (0 : Int32) r41 hc42) (cwV 2 hts gL_holds_X6_storeOf rfl rfl rfl (by decide +kernel) ⟨Nat.le_of_ble_eq_true rfl, Nat.le_of_ble_eq_true rfl⟩) hK hP hD hS hA hG hl [0, 1, 2, 3, 4, 5, 6, 7, 8, 9, 10, 11, 12, 13, 14] 0 0 (by decide) rfl (ci := 6) rfl rfl rfl rfl rfl rfl rfl rfl rfl rfl (Nat.le_of_ble_eq_true rfl) dL_holds_331 (Nat.zero_le _) (Nat.zero_le _) (fun H locs hP hD hS => ?_)
              refine lv_aload_n hx hb dL_holds_334 rfl (lv_at hl 7 rfl) ?_
              refine lv_iload hx hb dL_holds_335 (lv_at hl 2 rfl) ?_
              refine lv_iconst (v := (2 : Int32)) hx hb dL_holds_337 (by decide) ?_
              obtain ⟨r43, hc44, h⟩ := bd1_s h
              refine g_callBi (As := [.int v12, .int (2 : Int32)]) (rest := [.int r41, .int r39]) (r := r43) (bs1 := [[(g0, .inr (6, [.ref (an 0), .ref (au 0), .ref (ap 0), .ref q0, .ref x0, .ref r0, .int ke]))], [(q0, .inr (0, [.ref q1, .int lnn]))], wHa E q1 ba pm, wTx E x0 x1 x2 ch tl nu le nx, [(r0, .inr (3, [.ref (ar 0), .ref (aw 0), .int cmd, .int pos, .int rea, .int cau]))], wHuT E an xn, wHuT E au xt_37, wHuT E ap xp, wHuT E ar xr, wHuT E aw xw, wHuT E (ba 0) h0, wHuT E (ba 1) h1, wHuT E (ba 2) h2, wHuT E (ba 3) h3, wHuT E (ba 4) h4]) ⟨hx, hb, hml, hown, hts⟩ (kX6_storeOf E l g0 q0 q1 x0 x1 x2 r0 an au ap ar aw ba ke lnn pm ch tl nu le nx cmd pos rea cau xn xt_37 xp xr xw h0 h1 h2 h3 h4 v12 (2 : Int32) r43 hc44) (cwV 2 hts gL_holds_X6_storeOf rfl rfl rfl (by decide +kernel) ⟨Nat.le_of_ble_eq_true rfl, Nat.le_of_ble_eq_true rfl⟩) hK hP hD hS hA hG hl [0, 1, 2, 3, 4, 5, 6, 7, 8, 9, 10, 11, 12, 13, 14] 0 0 (by decide) rfl (ci := 6) rfl rfl rfl rfl rfl rfl rfl rfl rfl rfl (Nat.le_of_ble_eq_true rfl) dL_holds_338 (Nat.zero_le _) (Nat.zero_le _) (fun H locs hP hD hS => ?_)
              refine lv_iadd hx hb dL_holds_341 ?_
              refine lv_aload_n hx hb dL_holds_342 rfl (lv_at hl 7 rfl) ?_
              refine lv_iload hx hb dL_holds_343 (lv_at hl 2 rfl) ?_
              refine lv_iconst (v := (3 : Int32)) hx hb dL_holds_345 (by decide) ?_
              obtain ⟨r45, hc46, h⟩ := bd1_s h
              refine g_callBi (As := [.int v12, .int (3 : Int32)]) (rest := [.int (r41 + r43), .int r39]) (r := r45) (bs1 := [[(g0, .inr (6, [.ref (an 0), .ref (au 0), .ref (ap 0), .ref q0, .ref x0, .ref r0, .int ke]))], [(q0, .inr (0, [.ref q1, .int lnn]))], wHa E q1 ba pm, wTx E x0 x1 x2 ch tl nu le nx, [(r0, .inr (3, [.ref (ar 0), .ref (aw 0), .int cmd, .int pos, .int rea, .int cau]))], wHuT E an xn, wHuT E au xt_37, wHuT E ap xp, wHuT E ar xr, wHuT E aw xw, wHuT E (ba 0) h0, wHuT E (ba 1) h1, wHuT E (ba 2) h2, wHuT E (ba 3) h3, wHuT E (ba 4) h4]) ⟨hx, hb, hml, hown, hts⟩ (kX6_storeOf E l g0 q0 q1 x0 x1 x2 r0 an au ap ar aw ba ke lnn pm ch tl nu le nx cmd pos rea cau xn xt_37 xp xr xw h0 h1 h2 h3 h4 v12 (3 : Int32) r45 hc46) (cwV 2 hts gL_holds_X6_storeOf rfl rfl rfl (by decide +kernel) ⟨Nat.le_of_ble_eq_true rfl, Nat.le_of_ble_eq_true rfl⟩) hK hP hD hS hA hG hl [0, 1, 2, 3, 4, 5, 6, 7, 8, 9, 10, 11, 12, 13, 14] 0 0 (by decide) rfl (ci := 6) rfl rfl rfl rfl rfl rfl rfl rfl rfl rfl (Nat.le_of_ble_eq_true rfl) dL_holds_346 (Nat.zero_le _) (Nat.zero_le _) (fun H locs hP hD hS => ?_)
              refine lv_iadd hx hb dL_holds_349 ?_
              refine lv_icmp_ne (tgt := 376) hx hb dL_holds_350 (by decide) (fun hc47 => ?_) (fun hc47 => ?_)
              · replace h := g_if hc47 h
                cases h
              · replace h := g_it hc47 h
                refine lv_iload hx hb dL_holds_353 (lv_at hl 0 rfl) ?_
                refine lv_bipush (v := (-4 : Int32)) hx hb dL_holds_355 (by decide) ?_
                refine lv_icmp_eq (tgt := 378) hx hb dL_holds_357 (by decide) (fun hc48 => ?_) (fun hc48 => ?_)
                · replace h := g_it hc48 h
                  obtain ⟨v49, e_v49⟩ : ∃ y : Int32, y = (v12 + (1 : Int32)) := ⟨_, rfl⟩
                  replace h := jl_s e_v49 h
                  refine lv_iinc (v := v49) (lv' := [(7, .int v49), (8, .int r35), (6, .int v34), (5, .int v3), (4, .int v4), (3, .int v5), (2, .int v6), (0, .ref g0)]) hx hb dL_holds_378 hl (k := 2) rfl (by rw [e_v49]; rfl) (by decide) rfl (fun ls hl => ?_)
                  refine lv_goto (tgt := 294) hx hb dL_holds_381 (by decide) ?_
                  exact ih_rec11 v49 v34 xt_37 _ _ _ hP hS (lv_sub hl [0, 2, 3, 4, 5, 6, 7] rfl) h
                · replace h := g_if hc48 h
                  refine lv_iload hx hb dL_holds_360 (lv_at hl 0 rfl) ?_
                  refine lv_aload_n hx hb dL_holds_362 rfl (lv_at hl 7 rfl) ?_
                  refine lv_iconst (v := (4 : Int32)) hx hb dL_holds_363 (by decide) ?_
                  obtain ⟨r50, hc51, h⟩ := bd1_s h
                  refine g_callBi (As := [.int (4 : Int32)]) (rest := [.int r35]) (r := r50) (bs1 := [[(g0, .inr (6, [.ref (an 0), .ref (au 0), .ref (ap 0), .ref q0, .ref x0, .ref r0, .int ke]))], [(q0, .inr (0, [.ref q1, .int lnn]))], wHa E q1 ba pm, wTx E x0 x1 x2 ch tl nu le nx, [(r0, .inr (3, [.ref (ar 0), .ref (aw 0), .int cmd, .int pos, .int rea, .int cau]))], wHuT E an xn, wHuT E au xt_37, wHuT E ap xp, wHuT E ar xr, wHuT E aw xw, wHuT E (ba 0) h0, wHuT E (ba 1) h1, wHuT E (ba 2) h2, wHuT E (ba 3) h3, wHuT E (ba 4) h4]) ⟨hx, hb, hml, hown, hts⟩ (kX6_count E l g0 q0 q1 x0 x1 x2 r0 an au ap ar aw ba ke lnn pm ch tl nu le nx cmd pos rea cau xn xt_37 xp xr xw h0 h1 h2 h3 h4 (4 : Int32) r50 hc51) (cwV 1 hts gL_holds_X6_count rfl rfl rfl (by decide +kernel) ⟨Nat.le_of_ble_eq_true rfl, Nat.le_of_ble_eq_true rfl⟩) hK hP hD hS hA hG hl [0, 1, 2, 3, 4, 5, 6, 7, 8, 9, 10, 11, 12, 13, 14] 0 0 (by decide) rfl (ci := 6) rfl rfl rfl rfl rfl rfl rfl rfl rfl rfl (Nat.le_of_ble_eq_true rfl) dL_holds_364 (Nat.zero_le _) (Nat.zero_le _) (fun H locs hP hD hS => ?_)
                  refine lv_icmp_lt (tgt := 376) hx hb dL_holds_367 (by decide) (fun hc52 => ?_) (fun hc52 => ?_)
                  · replace h := g_it hc52 h
                    cases h
                  · replace h := g_if hc52 h
                    refine lv_iload_n hx hb dL_holds_370 rfl (lv_at hl 6 rfl) ?_
                    refine lv_iload_n hx hb dL_holds_371 rfl (lv_at hl 5 rfl) ?_
                    refine lv_iadd hx hb dL_holds_372 ?_
                    refine lv_if_ne (tgt := 378) hx hb dL_holds_373 (by decide) (fun hc53 => ?_) (fun hc53 => ?_)
                    · replace h := g_if hc53 h
                      obtain ⟨v54, e_v54⟩ : ∃ y : Int32, y = (v12 + (1 : Int32)) := ⟨_, rfl⟩
                      replace h := jl_s e_v54 h
                      refine lv_iinc (v := v54) (lv' := [(7, .int v54), (8, .int r35), (6, .int v34), (5, .int v3), (4, .int v4), (3, .int v5), (2, .int v6), (0, .ref g0)]) hx hb dL_holds_378 hl (k := 2) rfl (by rw [e_v54]; rfl) (by decide) rfl (fun ls hl => ?_)
                      refine lv_goto (tgt := 294) hx hb dL_holds_381 (by decide) ?_
                      exact ih_rec11 v54 v34 xt_37 _ _ _ hP hS (lv_sub hl [0, 2, 3, 4, 5, 6, 7] rfl) h
                    · replace h := g_it hc53 h
                      cases h
        exact hL_rec11 gFU (0 : Int32) (0 : Int32) xt7 _ _ _ hP hS (lv_sub hl [0, 1, 2, 3, 4, 5, 6] rfl) h
      · replace h := g_if hc10 h
        refine lv_aload_n hx hb dL_holds_23 rfl (lv_at hl 5 rfl) ?_
        refine lv_iload hx hb dL_holds_24 (lv_at hl 0 rfl) ?_
        refine lv_iconst (v := (3 : Int32)) hx hb dL_holds_26 (by decide) ?_
        obtain ⟨r55, hc56, h⟩ := bd1_s h
        refine g_callBi (As := [.int v2, .int (3 : Int32)]) (rest := []) (r := r55) (bs1 := [[(g0, .inr (6, [.ref (an 0), .ref (au 0), .ref (ap 0), .ref q0, .ref x0, .ref r0, .int ke]))], [(q0, .inr (0, [.ref q1, .int lnn]))], wHa E q1 ba pm, wTx E x0 x1 x2 ch tl nu le nx, [(r0, .inr (3, [.ref (ar 0), .ref (aw 0), .int cmd, .int pos, .int rea, .int cau]))], wHuT E an xn, wHuT E au xt7, wHuT E ap xp, wHuT E ar xr, wHuT E aw xw, wHuT E (ba 0) h0, wHuT E (ba 1) h1, wHuT E (ba 2) h2, wHuT E (ba 3) h3, wHuT E (ba 4) h4]) ⟨hx, hb, hml, hown, hts⟩ (kX6_partyOf E l g0 q0 q1 x0 x1 x2 r0 an au ap ar aw ba ke lnn pm ch tl nu le nx cmd pos rea cau xn xt7 xp xr xw h0 h1 h2 h3 h4 v2 (3 : Int32) r55 hc56) (cwV 2 hts gL_holds_X6_partyOf rfl rfl rfl (by decide +kernel) ⟨Nat.le_of_ble_eq_true rfl, Nat.le_of_ble_eq_true rfl⟩) hK hP hD hS hA hG hl [0, 1, 2, 3, 4, 5, 6, 7, 8, 9, 10, 11, 12, 13, 14] 0 0 (by decide) rfl (ci := 6) rfl rfl rfl rfl rfl rfl rfl rfl rfl rfl (Nat.le_of_ble_eq_true rfl) dL_holds_27 (Nat.zero_le _) (Nat.zero_le _) (fun H locs hP hD hS => ?_)
        refine lv_istore (lv' := [(7, .int r55), (6, .int v2), (5, .int v3), (4, .int v4), (3, .int v5), (2, .int v6), (0, .ref g0)]) hx hb dL_holds_30 hl (by decide) rfl (fun ls hl => ?_)
        refine lv_aload_n hx hb dL_holds_32 rfl (lv_at hl 6 rfl) ?_
        refine lv_iload hx hb dL_holds_33 (lv_at hl 1 rfl) ?_
        refine lv_iconst (v := (4 : Int32)) hx hb dL_holds_35 (by decide) ?_
        obtain ⟨r57, hc58, h⟩ := bd1_s h
        refine g_callBi (As := [.int v2, .int (4 : Int32)]) (rest := []) (r := r57) (bs1 := [[(g0, .inr (6, [.ref (an 0), .ref (au 0), .ref (ap 0), .ref q0, .ref x0, .ref r0, .int ke]))], [(q0, .inr (0, [.ref q1, .int lnn]))], wHa E q1 ba pm, wTx E x0 x1 x2 ch tl nu le nx, [(r0, .inr (3, [.ref (ar 0), .ref (aw 0), .int cmd, .int pos, .int rea, .int cau]))], wHuT E an xn, wHuT E au xt7, wHuT E ap xp, wHuT E ar xr, wHuT E aw xw, wHuT E (ba 0) h0, wHuT E (ba 1) h1, wHuT E (ba 2) h2, wHuT E (ba 3) h3, wHuT E (ba 4) h4]) ⟨hx, hb, hml, hown, hts⟩ (kX6_partyOf E l g0 q0 q1 x0 x1 x2 r0 an au ap ar aw ba ke lnn pm ch tl nu le nx cmd pos rea cau xn xt7 xp xr xw h0 h1 h2 h3 h4 v2 (4 : Int32) r57 hc58) (cwV 2 hts gL_holds_X6_partyOf rfl rfl rfl (by decide +kernel) ⟨Nat.le_of_ble_eq_true rfl, Nat.le_of_ble_eq_true rfl⟩) hK hP hD hS hA hG hl [0, 1, 2, 3, 4, 5, 6, 7, 8, 9, 10, 11, 12, 13, 14] 0 0 (by decide) rfl (ci := 6) rfl rfl rfl rfl rfl rfl rfl rfl rfl rfl (Nat.le_of_ble_eq_true rfl) dL_holds_36 (Nat.zero_le _) (Nat.zero_le _) (fun H locs hP hD hS => ?_)
        refine lv_istore (lv' := [(8, .int r57), (7, .int r55), (6, .int v2), (5, .int v3), (4, .int v4), (3, .int v5), (2, .int v6), (0, .ref g0)]) hx hb dL_holds_39 hl (by decide) rfl (fun ls hl => ?_)
        refine lv_iload_n hx hb dL_holds_41 rfl (lv_at hl 6 rfl) ?_
        refine lv_iload hx hb dL_holds_42 (lv_at hl 1 rfl) ?_
        refine mrg_e h (fun J60 hK_J60 h => ?_)
        have hJ_J60 : ∀ (v61 : Int32) (H : Heap) (locs : List Loc) (ls : Array Slot), va_P E.1 vwCl (List.flatten [[(g0, .inr (6, [.ref (an 0), .ref (au 0), .ref (ap 0), .ref q0, .ref x0, .ref r0, .int ke]))], [(q0, .inr (0, [.ref q1, .int lnn]))], wHa E q1 ba pm, wTx E x0 x1 x2 ch tl nu le nx, [(r0, .inr (3, [.ref (ar 0), .ref (aw 0), .int cmd, .int pos, .int rea, .int cau]))], wHuT E an xn, wHuT E au xt7, wHuT E ap xp, wHuT E ar xr, wHuT E aw xw, wHuT E (ba 0) h0, wHuT E (ba 1) h1, wHuT E (ba 2) h2, wHuT E (ba 3) h3, wHuT E (ba 4) h4]) H → va_S A s.heap H locs → lv_has ls 10 [(8, .int r57), (7, .int r55), (6, .int v2), (5, .int v3), (4, .int v4), (3, .int v5), (0, .ref g0)] → J60 v61 = some res → W p l e ({ frames := 4, cells := 0, slots := 0, locals := 97 } : Room) s m args below meth c H locs 0 0 Q (F0 m 52 ls [.int v61, .int v6]) := by
          intro v61 H locs ls hP hS hl h
          replace hD : va_D A (List.flatten [[(g0, .inr (6, [.ref (an 0), .ref (au 0), .ref (ap 0), .ref q0, .ref x0, .ref r0, .int ke]))], [(q0, .inr (0, [.ref q1, .int lnn]))], wHa E q1 ba pm, wTx E x0 x1 x2 ch tl nu le nx, [(r0, .inr (3, [.ref (ar 0), .ref (aw 0), .int cmd, .int pos, .int rea, .int cau]))], wHuT E an xn, wHuT E au xt7, wHuT E ap xp, wHuT E ar xr, wHuT E aw xw, wHuT E (ba 0) h0, wHuT E (ba 1) h1, wHuT E (ba 2) h2, wHuT E (ba 3) h3, wHuT E (ba 4) h4]) := gD_same hD rfl
          subst hK_J60
          refine lv_iadd hx hb dL_holds_52 ?_
          refine lv_topi (fun v62 e_v62 => ?_)
          replace h := jl_s e_v62 h
          refine lv_istore_n (lv' := [(2, .int v62), (8, .int r57), (7, .int r55), (6, .int v2), (5, .int v3), (4, .int v4), (3, .int v5), (0, .ref g0)]) hx hb dL_holds_53 rfl hl (by decide) rfl (fun ls hl => ?_)
          refine lv_iload_n hx hb dL_holds_54 rfl (lv_at hl 6 rfl) ?_
          refine lv_iload hx hb dL_holds_55 (lv_at hl 2 rfl) ?_
          refine lv_iconst (v := (1 : Int32)) hx hb dL_holds_57 (by decide) ?_
          refine mrg_e h (fun J64 hK_J64 h => ?_)
          have hJ_J64 : ∀ (v65 : Int32) (H : Heap) (locs : List Loc) (ls : Array Slot), va_P E.1 vwCl (List.flatten [[(g0, .inr (6, [.ref (an 0), .ref (au 0), .ref (ap 0), .ref q0, .ref x0, .ref r0, .int ke]))], [(q0, .inr (0, [.ref q1, .int lnn]))], wHa E q1 ba pm, wTx E x0 x1 x2 ch tl nu le nx, [(r0, .inr (3, [.ref (ar 0), .ref (aw 0), .int cmd, .int pos, .int rea, .int cau]))], wHuT E an xn, wHuT E au xt7, wHuT E ap xp, wHuT E ar xr, wHuT E aw xw, wHuT E (ba 0) h0, wHuT E (ba 1) h1, wHuT E (ba 2) h2, wHuT E (ba 3) h3, wHuT E (ba 4) h4]) H → va_S A s.heap H locs → lv_has ls 10 [(2, .int v62), (8, .int r57), (7, .int r55), (6, .int v2), (5, .int v3), (4, .int v4), (0, .ref g0)] → J64 v65 = some res → W p l e ({ frames := 4, cells := 0, slots := 0, locals := 97 } : Room) s m args below meth c H locs 0 0 Q (F0 m 66 ls [.int v65, .int v5]) := by
            intro v65 H locs ls hP hS hl h
            replace hD : va_D A (List.flatten [[(g0, .inr (6, [.ref (an 0), .ref (au 0), .ref (ap 0), .ref q0, .ref x0, .ref r0, .int ke]))], [(q0, .inr (0, [.ref q1, .int lnn]))], wHa E q1 ba pm, wTx E x0 x1 x2 ch tl nu le nx, [(r0, .inr (3, [.ref (ar 0), .ref (aw 0), .int cmd, .int pos, .int rea, .int cau]))], wHuT E an xn, wHuT E au xt7, wHuT E ap xp, wHuT E ar xr, wHuT E aw xw, wHuT E (ba 0) h0, wHuT E (ba 1) h1, wHuT E (ba 2) h2, wHuT E (ba 3) h3, wHuT E (ba 4) h4]) := gD_same hD rfl
            subst hK_J64
            refine lv_iadd hx hb dL_holds_66 ?_
            refine lv_topi (fun v66 e_v66 => ?_)
            replace h := jl_s e_v66 h
            refine lv_istore_n (lv' := [(3, .int v66), (2, .int v62), (8, .int r57), (7, .int r55), (6, .int v2), (5, .int v3), (4, .int v4), (0, .ref g0)]) hx hb dL_holds_67 rfl hl (by decide) rfl (fun ls hl => ?_)
            refine lv_iload hx hb dL_holds_68 (lv_at hl 6 rfl) ?_
            refine lv_iload hx hb dL_holds_70 (lv_at hl 3 rfl) ?_
            refine lv_iconst (v := (1 : Int32)) hx hb dL_holds_72 (by decide) ?_
            refine mrg_e h (fun J68 hK_J68 h => ?_)
            have hJ_J68 : ∀ (v71 : Int32) (H : Heap) (locs : List Loc) (ls : Array Slot), va_P E.1 vwCl (List.flatten [[(g0, .inr (6, [.ref (an 0), .ref (au 0), .ref (ap 0), .ref q0, .ref x0, .ref r0, .int ke]))], [(q0, .inr (0, [.ref q1, .int lnn]))], wHa E q1 ba pm, wTx E x0 x1 x2 ch tl nu le nx, [(r0, .inr (3, [.ref (ar 0), .ref (aw 0), .int cmd, .int pos, .int rea, .int cau]))], wHuT E an xn, wHuT E au xt7, wHuT E ap xp, wHuT E ar xr, wHuT E aw xw, wHuT E (ba 0) h0, wHuT E (ba 1) h1, wHuT E (ba 2) h2, wHuT E (ba 3) h3, wHuT E (ba 4) h4]) H → va_S A s.heap H locs → lv_has ls 10 [(3, .int v66), (2, .int v62), (8, .int r57), (7, .int r55), (6, .int v2), (5, .int v3), (0, .ref g0)] → J68 v71 = some res → W p l e ({ frames := 4, cells := 0, slots := 0, locals := 97 } : Room) s m args below meth c H locs 0 0 Q (F0 m 87 ls [.int v71, .int v4]) := by
              intro v71 H locs ls hP hS hl h
              replace hD : va_D A (List.flatten [[(g0, .inr (6, [.ref (an 0), .ref (au 0), .ref (ap 0), .ref q0, .ref x0, .ref r0, .int ke]))], [(q0, .inr (0, [.ref q1, .int lnn]))], wHa E q1 ba pm, wTx E x0 x1 x2 ch tl nu le nx, [(r0, .inr (3, [.ref (ar 0), .ref (aw 0), .int cmd, .int pos, .int rea, .int cau]))], wHuT E an xn, wHuT E au xt7, wHuT E ap xp, wHuT E ar xr, wHuT E aw xw, wHuT E (ba 0) h0, wHuT E (ba 1) h1, wHuT E (ba 2) h2, wHuT E (ba 3) h3, wHuT E (ba 4) h4]) := gD_same hD rfl
              subst hK_J68
              refine lv_iadd hx hb dL_holds_87 ?_
              refine lv_topi (fun v72 e_v72 => ?_)
              replace h := jl_s e_v72 h
              refine lv_istore (lv' := [(4, .int v72), (3, .int v66), (2, .int v62), (8, .int r57), (7, .int r55), (6, .int v2), (5, .int v3), (0, .ref g0)]) hx hb dL_holds_88 hl (by decide) rfl (fun ls hl => ?_)
              refine lv_iload hx hb dL_holds_90 (lv_at hl 6 rfl) ?_
              refine lv_iload hx hb dL_holds_92 (lv_at hl 3 rfl) ?_
              refine lv_aload_n hx hb dL_holds_94 rfl (lv_at hl 7 rfl) ?_
              refine lv_iload hx hb dL_holds_95 (lv_at hl 5 rfl) ?_
              refine lv_iconst (v := (0 : Int32)) hx hb dL_holds_97 (by decide) ?_
              obtain ⟨r73, hc74, h⟩ := bd1_s h
              refine g_callBi (As := [.int v2, .int (0 : Int32)]) (rest := [.int r57, .int v3]) (r := r73) (bs1 := [[(g0, .inr (6, [.ref (an 0), .ref (au 0), .ref (ap 0), .ref q0, .ref x0, .ref r0, .int ke]))], [(q0, .inr (0, [.ref q1, .int lnn]))], wHa E q1 ba pm, wTx E x0 x1 x2 ch tl nu le nx, [(r0, .inr (3, [.ref (ar 0), .ref (aw 0), .int cmd, .int pos, .int rea, .int cau]))], wHuT E an xn, wHuT E au xt7, wHuT E ap xp, wHuT E ar xr, wHuT E aw xw, wHuT E (ba 0) h0, wHuT E (ba 1) h1, wHuT E (ba 2) h2, wHuT E (ba 3) h3, wHuT E (ba 4) h4]) ⟨hx, hb, hml, hown, hts⟩ (kX6_partyOf E l g0 q0 q1 x0 x1 x2 r0 an au ap ar aw ba ke lnn pm ch tl nu le nx cmd pos rea cau xn xt7 xp xr xw h0 h1 h2 h3 h4 v2 (0 : Int32) r73 hc74) (cwV 2 hts gL_holds_X6_partyOf rfl rfl rfl (by decide +kernel) ⟨Nat.le_of_ble_eq_true rfl, Nat.le_of_ble_eq_true rfl⟩) hK hP hD hS hA hG hl [0, 1, 2, 3, 4, 5, 6, 7, 8, 9, 10, 11, 12, 13, 14] 0 0 (by decide) rfl (ci := 6) rfl rfl rfl rfl rfl rfl rfl rfl rfl rfl (Nat.le_of_ble_eq_true rfl) dL_holds_98 (Nat.zero_le _) (Nat.zero_le _) (fun H locs hP hD hS => ?_)
              refine lv_imul hx hb dL_holds_101 ?_
              refine lv_iadd hx hb dL_holds_102 ?_
              refine lv_topi (fun v75 e_v75 => ?_)
              replace h := jl_s e_v75 h
              refine lv_istore (lv' := [(5, .int v75), (4, .int v72), (3, .int v66), (2, .int v62), (8, .int r57), (7, .int r55), (6, .int v2), (0, .ref g0)]) hx hb dL_holds_103 hl (by decide) rfl (fun ls hl => ?_)
              refine lv_iload hx hb dL_holds_105 (lv_at hl 5 rfl) ?_
              refine mrg_e h (fun J78 hK_J78 h => ?_)
              have hJ_J78 : ∀ (_ : Unit) (H : Heap) (locs : List Loc) (ls : Array Slot), va_P E.1 vwCl (List.flatten [[(g0, .inr (6, [.ref (an 0), .ref (au 0), .ref (ap 0), .ref q0, .ref x0, .ref r0, .int ke]))], [(q0, .inr (0, [.ref q1, .int lnn]))], wHa E q1 ba pm, wTx E x0 x1 x2 ch tl nu le nx, [(r0, .inr (3, [.ref (ar 0), .ref (aw 0), .int cmd, .int pos, .int rea, .int cau]))], wHuT E an xn, wHuT E au xt7, wHuT E ap xp, wHuT E ar xr, wHuT E aw xw, wHuT E (ba 0) h0, wHuT E (ba 1) h1, wHuT E (ba 2) h2, wHuT E (ba 3) h3, wHuT E (ba 4) h4]) H → va_S A s.heap H locs → lv_has ls 10 [(5, .int v75), (4, .int v72), (3, .int v66), (2, .int v62), (8, .int r57), (7, .int r55), (6, .int v2), (0, .ref g0)] → J78 () = some res → W p l e ({ frames := 4, cells := 0, slots := 0, locals := 97 } : Room) s m args below meth c H locs 0 0 Q (F0 m 121 ls []) := by
                intro _ H locs ls hP hS hl h
                replace hD : va_D A (List.flatten [[(g0, .inr (6, [.ref (an 0), .ref (au 0), .ref (ap 0), .ref q0, .ref x0, .ref r0, .int ke]))], [(q0, .inr (0, [.ref q1, .int lnn]))], wHa E q1 ba pm, wTx E x0 x1 x2 ch tl nu le nx, [(r0, .inr (3, [.ref (ar 0), .ref (aw 0), .int cmd, .int pos, .int rea, .int cau]))], wHuT E an xn, wHuT E au xt7, wHuT E ap xp, wHuT E ar xr, wHuT E aw xw, wHuT E (ba 0) h0, wHuT E (ba 1) h1, wHuT E (ba 2) h2, wHuT E (ba 3) h3, wHuT E (ba 4) h4]) := gD_same hD rfl
                subst hK_J78
                refine lv_iconst (v := (1 : Int32)) hx hb dL_holds_121 (by decide) ?_
                refine lv_goto (tgt := 126) hx hb dL_holds_122 (by decide) ?_
                refine lv_istore (lv' := [(9, .int (1 : Int32)), (5, .int v75), (4, .int v72), (3, .int v66), (2, .int v62), (8, .int r57), (7, .int r55), (6, .int v2), (0, .ref g0)]) hx hb dL_holds_126 hl (by decide) rfl (fun ls hl => ?_)
                refine lv_iload hx hb dL_holds_128 (lv_at hl 0 rfl) ?_
                refine lv_if_eq (tgt := 222) hx hb dL_holds_130 (by decide) (fun hc => by first | exact absurd hc (by decide) | exact absurd (by decide) hc) (fun _ => ?_)
                refine lv_iload hx hb dL_holds_133 (lv_at hl 6 rfl) ?_
                refine lv_iconst (v := (2 : Int32)) hx hb dL_holds_135 (by decide) ?_
                refine mrg_e h (fun J82 hK_J82 h => ?_)
                have hJ_J82 : ∀ (_ : Unit) (H : Heap) (locs : List Loc) (ls : Array Slot), va_P E.1 vwCl (List.flatten [[(g0, .inr (6, [.ref (an 0), .ref (au 0), .ref (ap 0), .ref q0, .ref x0, .ref r0, .int ke]))], [(q0, .inr (0, [.ref q1, .int lnn]))], wHa E q1 ba pm, wTx E x0 x1 x2 ch tl nu le nx, [(r0, .inr (3, [.ref (ar 0), .ref (aw 0), .int cmd, .int pos, .int rea, .int cau]))], wHuT E an xn, wHuT E au xt7, wHuT E ap xp, wHuT E ar xr, wHuT E aw xw, wHuT E (ba 0) h0, wHuT E (ba 1) h1, wHuT E (ba 2) h2, wHuT E (ba 3) h3, wHuT E (ba 4) h4]) H → va_S A s.heap H locs → lv_has ls 10 [(5, .int v75), (4, .int v72), (3, .int v66), (2, .int v62), (8, .int r57), (7, .int r55), (6, .int v2), (0, .ref g0)] → J82 () = some res → W p l e ({ frames := 4, cells := 0, slots := 0, locals := 97 } : Room) s m args below meth c H locs 0 0 Q (F0 m 151 ls []) := by
                  intro _ H locs ls hP hS hl h
                  replace hD : va_D A (List.flatten [[(g0, .inr (6, [.ref (an 0), .ref (au 0), .ref (ap 0), .ref q0, .ref x0, .ref r0, .int ke]))], [(q0, .inr (0, [.ref q1, .int lnn]))], wHa E q1 ba pm, wTx E x0 x1 x2 ch tl nu le nx, [(r0, .inr (3, [.ref (ar 0), .ref (aw 0), .int cmd, .int pos, .int rea, .int cau]))], wHuT E an xn, wHuT E au xt7, wHuT E ap xp, wHuT E ar xr, wHuT E aw xw, wHuT E (ba 0) h0, wHuT E (ba 1) h1, wHuT E (ba 2) h2, wHuT E (ba 3) h3, wHuT E (ba 4) h4]) := gD_same hD rfl
                  subst hK_J82
                  refine lv_aload_n hx hb dL_holds_151 rfl (lv_at hl 7 rfl) ?_
                  refine lv_iload hx hb dL_holds_152 (lv_at hl 6 rfl) ?_
                  refine lv_bipush (v := (6 : Int32)) hx hb dL_holds_154 (by decide) ?_
                  obtain ⟨r86, hc87, h⟩ := bd1_s h
                  refine g_callBi (As := [.int v2, .int (6 : Int32)]) (rest := []) (r := r86) (bs1 := [[(g0, .inr (6, [.ref (an 0), .ref (au 0), .ref (ap 0), .ref q0, .ref x0, .ref r0, .int ke]))], [(q0, .inr (0, [.ref q1, .int lnn]))], wHa E q1 ba pm, wTx E x0 x1 x2 ch tl nu le nx, [(r0, .inr (3, [.ref (ar 0), .ref (aw 0), .int cmd, .int pos, .int rea, .int cau]))], wHuT E an xn, wHuT E au xt7, wHuT E ap xp, wHuT E ar xr, wHuT E aw xw, wHuT E (ba 0) h0, wHuT E (ba 1) h1, wHuT E (ba 2) h2, wHuT E (ba 3) h3, wHuT E (ba 4) h4]) ⟨hx, hb, hml, hown, hts⟩ (kX6_partyOf E l g0 q0 q1 x0 x1 x2 r0 an au ap ar aw ba ke lnn pm ch tl nu le nx cmd pos rea cau xn xt7 xp xr xw h0 h1 h2 h3 h4 v2 (6 : Int32) r86 hc87) (cwV 2 hts gL_holds_X6_partyOf rfl rfl rfl (by decide +kernel) ⟨Nat.le_of_ble_eq_true rfl, Nat.le_of_ble_eq_true rfl⟩) hK hP hD hS hA hG hl [0, 1, 2, 3, 4, 5, 6, 7, 8, 9, 10, 11, 12, 13, 14] 0 0 (by decide) rfl (ci := 6) rfl rfl rfl rfl rfl rfl rfl rfl rfl rfl (Nat.le_of_ble_eq_true rfl) dL_holds_156 (Nat.zero_le _) (Nat.zero_le _) (fun H locs hP hD hS => ?_)
                  refine lv_iload hx hb dL_holds_159 (lv_at hl 4 rfl) ?_
                  refine lv_aload_n hx hb dL_holds_161 rfl (lv_at hl 7 rfl) ?_
                  refine lv_iload hx hb dL_holds_162 (lv_at hl 6 rfl) ?_
                  refine lv_iconst (v := (2 : Int32)) hx hb dL_holds_164 (by decide) ?_
                  obtain ⟨r88, hc89, h⟩ := bd1_s h
                  refine g_callBi (As := [.int v2, .int (2 : Int32)]) (rest := [.int r57, .int r86]) (r := r88) (bs1 := [[(g0, .inr (6, [.ref (an 0), .ref (au 0), .ref (ap 0), .ref q0, .ref x0, .ref r0, .int ke]))], [(q0, .inr (0, [.ref q1, .int lnn]))], wHa E q1 ba pm, wTx E x0 x1 x2 ch tl nu le nx, [(r0, .inr (3, [.ref (ar 0), .ref (aw 0), .int cmd, .int pos, .int rea, .int cau]))], wHuT E an xn, wHuT E au xt7, wHuT E ap xp, wHuT E ar xr, wHuT E aw xw, wHuT E (ba 0) h0, wHuT E (ba 1) h1, wHuT E (ba 2) h2, wHuT E (ba 3) h3, wHuT E (ba 4) h4]) ⟨hx, hb, hml, hown, hts⟩ (kX6_partyOf E l g0 q0 q1 x0 x1 x2 r0 an au ap ar aw ba ke lnn pm ch tl nu le nx cmd pos rea cau xn xt7 xp xr xw h0 h1 h2 h3 h4 v2 (2 : Int32) r88 hc89) (cwV 2 hts gL_holds_X6_partyOf rfl rfl rfl (by decide +kernel) ⟨Nat.le_of_ble_eq_true rfl, Nat.le_of_ble_eq_true rfl⟩) hK hP hD hS hA hG hl [0, 1, 2, 3, 4, 5, 6, 7, 8, 9, 10, 11, 12, 13, 14] 0 0 (by decide) rfl (ci := 6) rfl rfl rfl rfl rfl rfl rfl rfl rfl rfl (Nat.le_of_ble_eq_true rfl) dL_holds_165 (Nat.zero_le _) (Nat.zero_le _) (fun H locs hP hD hS => ?_)
                  refine mrg_e h (fun J91 hK_J91 h => ?_)
                  have hJ_J91 : ∀ (v94 : Int32) (H : Heap) (locs : List Loc) (ls : Array Slot), va_P E.1 vwCl (List.flatten [[(g0, .inr (6, [.ref (an 0), .ref (au 0), .ref (ap 0), .ref q0, .ref x0, .ref r0, .int ke]))], [(q0, .inr (0, [.ref q1, .int lnn]))], wHa E q1 ba pm, wTx E x0 x1 x2 ch tl nu le nx, [(r0, .inr (3, [.ref (ar 0), .ref (aw 0), .int cmd, .int pos, .int rea, .int cau]))], wHuT E an xn, wHuT E au xt7, wHuT E ap xp, wHuT E ar xr, wHuT E aw xw, wHuT E (ba 0) h0, wHuT E (ba 1) h1, wHuT E (ba 2) h2, wHuT E (ba 3) h3, wHuT E (ba 4) h4]) H → va_S A s.heap H locs → lv_has ls 10 [(5, .int v75), (4, .int v72), (3, .int v66), (2, .int v62), (8, .int r57), (7, .int r55), (6, .int v2), (0, .ref g0)] → J91 v94 = some res → W p l e ({ frames := 4, cells := 0, slots := 0, locals := 97 } : Room) s m args below meth c H locs 0 0 Q (F0 m 185 ls [.int v94, .int r86]) := by
                    intro v94 H locs ls hP hS hl h
                    replace hD : va_D A (List.flatten [[(g0, .inr (6, [.ref (an 0), .ref (au 0), .ref (ap 0), .ref q0, .ref x0, .ref r0, .int ke]))], [(q0, .inr (0, [.ref q1, .int lnn]))], wHa E q1 ba pm, wTx E x0 x1 x2 ch tl nu le nx, [(r0, .inr (3, [.ref (ar 0), .ref (aw 0), .int cmd, .int pos, .int rea, .int cau]))], wHuT E an xn, wHuT E au xt7, wHuT E ap xp, wHuT E ar xr, wHuT E aw xw, wHuT E (ba 0) h0, wHuT E (ba 1) h1, wHuT E (ba 2) h2, wHuT E (ba 3) h3, wHuT E (ba 4) h4]) := gD_same hD rfl
                    subst hK_J91
                    refine lv_icmp_ne (tgt := 222) hx hb dL_holds_185 (by decide) (fun hc95 => ?_) (fun hc95 => ?_)
                    · replace h := g_if hc95 h
                      cases h
                    · replace h := g_it hc95 h
                      refine lv_aload_n hx hb dL_holds_188 rfl (lv_at hl 7 rfl) ?_
                      refine lv_iload hx hb dL_holds_189 (lv_at hl 6 rfl) ?_
                      refine lv_iconst (v := (5 : Int32)) hx hb dL_holds_191 (by decide) ?_
                      obtain ⟨r96, hc97, h⟩ := bd1_s h
                      refine g_callBi (As := [.int v2, .int (5 : Int32)]) (rest := []) (r := r96) (bs1 := [[(g0, .inr (6, [.ref (an 0), .ref (au 0), .ref (ap 0), .ref q0, .ref x0, .ref r0, .int ke]))], [(q0, .inr (0, [.ref q1, .int lnn]))], wHa E q1 ba pm, wTx E x0 x1 x2 ch tl nu le nx, [(r0, .inr (3, [.ref (ar 0), .ref (aw 0), .int cmd, .int pos, .int rea, .int cau]))], wHuT E an xn, wHuT E au xt7, wHuT E ap xp, wHuT E ar xr, wHuT E aw xw, wHuT E (ba 0) h0, wHuT E (ba 1) h1, wHuT E (ba 2) h2, wHuT E (ba 3) h3, wHuT E (ba 4) h4]) ⟨hx, hb, hml, hown, hts⟩ (kX6_partyOf E l g0 q0 q1 x0 x1 x2 r0 an au ap ar aw ba ke lnn pm ch tl nu le nx cmd pos rea cau xn xt7 xp xr xw h0 h1 h2 h3 h4 v2 (5 : Int32) r96 hc97) (cwV 2 hts gL_holds_X6_partyOf rfl rfl rfl (by decide +kernel) ⟨Nat.le_of_ble_eq_true rfl, Nat.le_of_ble_eq_true rfl⟩) hK hP hD hS hA hG hl [0, 1, 2, 3, 4, 5, 6, 7, 8, 9, 10, 11, 12, 13, 14] 0 0 (by decide) rfl (ci := 6) rfl rfl rfl rfl rfl rfl rfl rfl rfl rfl (Nat.le_of_ble_eq_true rfl) dL_holds_192 (Nat.zero_le _) (Nat.zero_le _) (fun H locs hP hD hS => ?_)
                      refine lv_bipush (v := (-4 : Int32)) hx hb dL_holds_195 (by decide) ?_
                      refine mrg_e h (fun J99 hK_J99 h => ?_)
                      have hJ_J99 : ∀ (v100 : Int32) (H : Heap) (locs : List Loc) (ls : Array Slot), va_P E.1 vwCl (List.flatten [[(g0, .inr (6, [.ref (an 0), .ref (au 0), .ref (ap 0), .ref q0, .ref x0, .ref r0, .int ke]))], [(q0, .inr (0, [.ref q1, .int lnn]))], wHa E q1 ba pm, wTx E x0 x1 x2 ch tl nu le nx, [(r0, .inr (3, [.ref (ar 0), .ref (aw 0), .int cmd, .int pos, .int rea, .int cau]))], wHuT E an xn, wHuT E au xt7, wHuT E ap xp, wHuT E ar xr, wHuT E aw xw, wHuT E (ba 0) h0, wHuT E (ba 1) h1, wHuT E (ba 2) h2, wHuT E (ba 3) h3, wHuT E (ba 4) h4]) H → va_S A s.heap H locs → lv_has ls 10 [(5, .int v75), (4, .int v72), (3, .int v66), (2, .int v62), (8, .int r57), (7, .int r55), (6, .int v2), (0, .ref g0)] → J99 v100 = some res → W p l e ({ frames := 4, cells := 0, slots := 0, locals := 97 } : Room) s m args below meth c H locs 0 0 Q (F0 m 205 ls [.int v100]) := by
                        intro v100 H locs ls hP hS hl h
                        replace hD : va_D A (List.flatten [[(g0, .inr (6, [.ref (an 0), .ref (au 0), .ref (ap 0), .ref q0, .ref x0, .ref r0, .int ke]))], [(q0, .inr (0, [.ref q1, .int lnn]))], wHa E q1 ba pm, wTx E x0 x1 x2 ch tl nu le nx, [(r0, .inr (3, [.ref (ar 0), .ref (aw 0), .int cmd, .int pos, .int rea, .int cau]))], wHuT E an xn, wHuT E au xt7, wHuT E ap xp, wHuT E ar xr, wHuT E aw xw, wHuT E (ba 0) h0, wHuT E (ba 1) h1, wHuT E (ba 2) h2, wHuT E (ba 3) h3, wHuT E (ba 4) h4]) := gD_same hD rfl
                        subst hK_J99
                        refine lv_iload hx hb dL_holds_205 (lv_at hl 4 rfl) ?_
                        refine mrg_e h (fun J102 hK_J102 h => ?_)
                        have hJ_J102 : ∀ (v103 : Int32) (H : Heap) (locs : List Loc) (ls : Array Slot), va_P E.1 vwCl (List.flatten [[(g0, .inr (6, [.ref (an 0), .ref (au 0), .ref (ap 0), .ref q0, .ref x0, .ref r0, .int ke]))], [(q0, .inr (0, [.ref q1, .int lnn]))], wHa E q1 ba pm, wTx E x0 x1 x2 ch tl nu le nx, [(r0, .inr (3, [.ref (ar 0), .ref (aw 0), .int cmd, .int pos, .int rea, .int cau]))], wHuT E an xn, wHuT E au xt7, wHuT E ap xp, wHuT E ar xr, wHuT E aw xw, wHuT E (ba 0) h0, wHuT E (ba 1) h1, wHuT E (ba 2) h2, wHuT E (ba 3) h3, wHuT E (ba 4) h4]) H → va_S A s.heap H locs → lv_has ls 10 [(5, .int v75), (4, .int v72), (3, .int v66), (2, .int v62), (7, .int r55), (6, .int v2), (0, .ref g0)] → J102 v103 = some res → W p l e ({ frames := 4, cells := 0, slots := 0, locals := 97 } : Room) s m args below meth c H locs 0 0 Q (F0 m 215 ls [.int v103, .int v100]) := by
                          intro v103 H locs ls hP hS hl h
                          replace hD : va_D A (List.flatten [[(g0, .inr (6, [.ref (an 0), .ref (au 0), .ref (ap 0), .ref q0, .ref x0, .ref r0, .int ke]))], [(q0, .inr (0, [.ref q1, .int lnn]))], wHa E q1 ba pm, wTx E x0 x1 x2 ch tl nu le nx, [(r0, .inr (3, [.ref (ar 0), .ref (aw 0), .int cmd, .int pos, .int rea, .int cau]))], wHuT E an xn, wHuT E au xt7, wHuT E ap xp, wHuT E ar xr, wHuT E aw xw, wHuT E (ba 0) h0, wHuT E (ba 1) h1, wHuT E (ba 2) h2, wHuT E (ba 3) h3, wHuT E (ba 4) h4]) := gD_same hD rfl
                          subst hK_J102
                          refine lv_icmp_ne (tgt := 222) hx hb dL_holds_215 (by decide) (fun hc104 => ?_) (fun hc104 => ?_)
                          · replace h := g_if hc104 h
                            cases h
                          · replace h := g_it hc104 h
                            refine lv_iconst (v := (1 : Int32)) hx hb dL_holds_218 (by decide) ?_
                            refine lv_goto (tgt := 223) hx hb dL_holds_219 (by decide) ?_
                            refine lv_istore (lv' := [(9, .int (1 : Int32)), (5, .int v75), (4, .int v72), (3, .int v66), (2, .int v62), (7, .int r55), (6, .int v2), (0, .ref g0)]) hx hb dL_holds_223 hl (by decide) rfl (fun ls hl => ?_)
                            refine lv_iload hx hb dL_holds_225 (lv_at hl 0 rfl) ?_
                            refine lv_if_eq (tgt := 280) hx hb dL_holds_227 (by decide) (fun hc => by first | exact absurd hc (by decide) | exact absurd (by decide) hc) (fun _ => ?_)
                            refine lv_aload_n hx hb dL_holds_230 rfl (lv_at hl 7 rfl) ?_
                            refine lv_iload hx hb dL_holds_231 (lv_at hl 6 rfl) ?_
                            obtain ⟨r105, xt_107, hc108, h⟩ := bd2_s h
                            refine g_callBi (As := [.int v2]) (rest := []) (r := r105) (bs1 := [[(g0, .inr (6, [.ref (an 0), .ref (au 0), .ref (ap 0), .ref q0, .ref x0, .ref r0, .int ke]))], [(q0, .inr (0, [.ref q1, .int lnn]))], wHa E q1 ba pm, wTx E x0 x1 x2 ch tl nu le nx, [(r0, .inr (3, [.ref (ar 0), .ref (aw 0), .int cmd, .int pos, .int rea, .int cau]))], wHuT E an xn, wHuT E au xt_107, wHuT E ap xp, wHuT E ar xr, wHuT E aw xw, wHuT E (ba 0) h0, wHuT E (ba 1) h1, wHuT E (ba 2) h2, wHuT E (ba 3) h3, wHuT E (ba 4) h4]) ⟨hx, hb, hml, hown, hts⟩ (kX6_goneOn E l g0 q0 q1 x0 x1 x2 r0 an au ap ar aw ba ke lnn pm ch tl nu le nx cmd pos rea cau xn xt7 xp xr xw h0 h1 h2 h3 h4 v2 (r105, xt_107) hc108) (cwV 1 hts gL_holds_X6_goneOn rfl rfl rfl (by decide +kernel) ⟨Nat.le_of_ble_eq_true rfl, Nat.le_of_ble_eq_true rfl⟩) hK hP hD hS hA hG hl [0, 1, 2, 3, 4, 5, 6, 7, 8, 9, 10, 11, 12, 13, 14] 0 0 (by decide) rfl (ci := 6) rfl rfl rfl rfl rfl rfl rfl rfl rfl rfl (Nat.le_of_ble_eq_true rfl) dL_holds_233 (Nat.zero_le _) (Nat.zero_le _) (fun H locs hP hD hS => ?_)
                            refine lv_bipush (v := (-2 : Int32)) hx hb dL_holds_236 (by decide) ?_
                            refine mrg_e h (fun J110 hK_J110 h => ?_)
                            have hJ_J110 : ∀ (v111 : Int32) (H : Heap) (locs : List Loc) (ls : Array Slot), va_P E.1 vwCl (List.flatten [[(g0, .inr (6, [.ref (an 0), .ref (au 0), .ref (ap 0), .ref q0, .ref x0, .ref r0, .int ke]))], [(q0, .inr (0, [.ref q1, .int lnn]))], wHa E q1 ba pm, wTx E x0 x1 x2 ch tl nu le nx, [(r0, .inr (3, [.ref (ar 0), .ref (aw 0), .int cmd, .int pos, .int rea, .int cau]))], wHuT E an xn, wHuT E au xt_107, wHuT E ap xp, wHuT E ar xr, wHuT E aw xw, wHuT E (ba 0) h0, wHuT E (ba 1) h1, wHuT E (ba 2) h2, wHuT E (ba 3) h3, wHuT E (ba 4) h4]) H → va_S A s.heap H locs → lv_has ls 10 [(5, .int v75), (4, .int v72), (3, .int v66), (2, .int v62), (7, .int r55), (6, .int v2), (0, .ref g0)] → J110 v111 = some res → W p l e ({ frames := 4, cells := 0, slots := 0, locals := 97 } : Room) s m args below meth c H locs 0 0 Q (F0 m 246 ls [.int v111]) := by
                              intro v111 H locs ls hP hS hl h
                              replace hD : va_D A (List.flatten [[(g0, .inr (6, [.ref (an 0), .ref (au 0), .ref (ap 0), .ref q0, .ref x0, .ref r0, .int ke]))], [(q0, .inr (0, [.ref q1, .int lnn]))], wHa E q1 ba pm, wTx E x0 x1 x2 ch tl nu le nx, [(r0, .inr (3, [.ref (ar 0), .ref (aw 0), .int cmd, .int pos, .int rea, .int cau]))], wHuT E an xn, wHuT E au xt_107, wHuT E ap xp, wHuT E ar xr, wHuT E aw xw, wHuT E (ba 0) h0, wHuT E (ba 1) h1, wHuT E (ba 2) h2, wHuT E (ba 3) h3, wHuT E (ba 4) h4]) := gD_same hD rfl
                              subst hK_J110
                              refine lv_iload hx hb dL_holds_246 (lv_at hl 4 rfl) ?_
                              refine lv_iconst (v := (1 : Int32)) hx hb dL_holds_248 (by decide) ?_
                              refine mrg_e h (fun J113 hK_J113 h => ?_)
                              have hJ_J113 : ∀ (v114 : Int32) (H : Heap) (locs : List Loc) (ls : Array Slot), va_P E.1 vwCl (List.flatten [[(g0, .inr (6, [.ref (an 0), .ref (au 0), .ref (ap 0), .ref q0, .ref x0, .ref r0, .int ke]))], [(q0, .inr (0, [.ref q1, .int lnn]))], wHa E q1 ba pm, wTx E x0 x1 x2 ch tl nu le nx, [(r0, .inr (3, [.ref (ar 0), .ref (aw 0), .int cmd, .int pos, .int rea, .int cau]))], wHuT E an xn, wHuT E au xt_107, wHuT E ap xp, wHuT E ar xr, wHuT E aw xw, wHuT E (ba 0) h0, wHuT E (ba 1) h1, wHuT E (ba 2) h2, wHuT E (ba 3) h3, wHuT E (ba 4) h4]) H → va_S A s.heap H locs → lv_has ls 10 [(5, .int v75), (4, .int v72), (3, .int v66), (2, .int v62), (7, .int r55), (6, .int v2), (0, .ref g0)] → J113 v114 = some res → W p l e ({ frames := 4, cells := 0, slots := 0, locals := 97 } : Room) s m args below meth c H locs 0 0 Q (F0 m 257 ls [.int v114, .int v111]) := by
                                intro v114 H locs ls hP hS hl h
                                replace hD : va_D A (List.flatten [[(g0, .inr (6, [.ref (an 0), .ref (au 0), .ref (ap 0), .ref q0, .ref x0, .ref r0, .int ke]))], [(q0, .inr (0, [.ref q1, .int lnn]))], wHa E q1 ba pm, wTx E x0 x1 x2 ch tl nu le nx, [(r0, .inr (3, [.ref (ar 0), .ref (aw 0), .int cmd, .int pos, .int rea, .int cau]))], wHuT E an xn, wHuT E au xt_107, wHuT E ap xp, wHuT E ar xr, wHuT E aw xw, wHuT E (ba 0) h0, wHuT E (ba 1) h1, wHuT E (ba 2) h2, wHuT E (ba 3) h3, wHuT E (ba 4) h4]) := gD_same hD rfl
                                subst hK_J113
                                refine lv_icmp_ne (tgt := 280) hx hb dL_holds_257 (by decide) (fun hc115 => ?_) (fun hc115 => ?_)
                                · replace h := g_if hc115 h
                                  cases h
                                · replace h := g_it hc115 h
                                  refine lv_iload hx hb dL_holds_260 (lv_at hl 4 rfl) ?_
                                  refine lv_iconst (v := (1 : Int32)) hx hb dL_holds_262 (by decide) ?_
                                  refine lv_icmp_ne (tgt := 282) hx hb dL_holds_263 (by decide) (fun hc116 => ?_) (fun hc116 => ?_)
                                  · replace h := g_if hc116 h
                                    obtain ⟨v117, e_v117⟩ : ∃ y : Int32, y = (v2 + (1 : Int32)) := ⟨_, rfl⟩
                                    replace h := jl_s e_v117 h
                                    refine lv_iinc (v := v117) (lv' := [(6, .int v117), (5, .int v75), (4, .int v72), (3, .int v66), (2, .int v62), (7, .int r55), (0, .ref g0)]) hx hb dL_holds_282 hl (k := 5) rfl (by rw [e_v117]; rfl) (by decide) rfl (fun ls hl => ?_)
                                    refine lv_goto (tgt := 13) hx hb dL_holds_285 (by decide) ?_
                                    exact ih_rec1 v117 v75 v72 v66 v62 xt_107 _ _ _ hP hS (lv_sub hl [0, 1, 2, 3, 4, 6] rfl) h
                                  · replace h := g_it hc116 h
                                    refine lv_aload_n hx hb dL_holds_266 rfl (lv_at hl 6 rfl) ?_
                                    refine lv_iload hx hb dL_holds_267 (lv_at hl 5 rfl) ?_
                                    obtain ⟨r118, xt_120, hc121, h⟩ := bd2_s h
                                    refine g_callBi (As := [.int v2]) (rest := []) (r := r118) (bs1 := [[(g0, .inr (6, [.ref (an 0), .ref (au 0), .ref (ap 0), .ref q0, .ref x0, .ref r0, .int ke]))], [(q0, .inr (0, [.ref q1, .int lnn]))], wHa E q1 ba pm, wTx E x0 x1 x2 ch tl nu le nx, [(r0, .inr (3, [.ref (ar 0), .ref (aw 0), .int cmd, .int pos, .int rea, .int cau]))], wHuT E an xn, wHuT E au xt_120, wHuT E ap xp, wHuT E ar xr, wHuT E aw xw, wHuT E (ba 0) h0, wHuT E (ba 1) h1, wHuT E (ba 2) h2, wHuT E (ba 3) h3, wHuT E (ba 4) h4]) ⟨hx, hb, hml, hown, hts⟩ (kX6_goneOn E l g0 q0 q1 x0 x1 x2 r0 an au ap ar aw ba ke lnn pm ch tl nu le nx cmd pos rea cau xn xt_107 xp xr xw h0 h1 h2 h3 h4 v2 (r118, xt_120) hc121) (cwV 1 hts gL_holds_X6_goneOn rfl rfl rfl (by decide +kernel) ⟨Nat.le_of_ble_eq_true rfl, Nat.le_of_ble_eq_true rfl⟩) hK hP hD hS hA hG hl [0, 1, 2, 3, 4, 5, 6, 7, 8, 9, 10, 11, 12, 13, 14] 0 0 (by decide) rfl (ci := 6) rfl rfl rfl rfl rfl rfl rfl rfl rfl rfl (Nat.le_of_ble_eq_true rfl) dL_holds_269 (Nat.zero_le _) (Nat.zero_le _) (fun H locs hP hD hS => ?_)
                                    refine lv_aload_n hx hb dL_holds_272 rfl (lv_at hl 6 rfl) ?_
                                    refine lv_iconst (v := (4 : Int32)) hx hb dL_holds_273 (by decide) ?_
                                    obtain ⟨r122, hc123, h⟩ := bd1_s h
                                    refine g_callBi (As := [.int (4 : Int32)]) (rest := [.int r118]) (r := r122) (bs1 := [[(g0, .inr (6, [.ref (an 0), .ref (au 0), .ref (ap 0), .ref q0, .ref x0, .ref r0, .int ke]))], [(q0, .inr (0, [.ref q1, .int lnn]))], wHa E q1 ba pm, wTx E x0 x1 x2 ch tl nu le nx, [(r0, .inr (3, [.ref (ar 0), .ref (aw 0), .int cmd, .int pos, .int rea, .int cau]))], wHuT E an xn, wHuT E au xt_120, wHuT E ap xp, wHuT E ar xr, wHuT E aw xw, wHuT E (ba 0) h0, wHuT E (ba 1) h1, wHuT E (ba 2) h2, wHuT E (ba 3) h3, wHuT E (ba 4) h4]) ⟨hx, hb, hml, hown, hts⟩ (kX6_count E l g0 q0 q1 x0 x1 x2 r0 an au ap ar aw ba ke lnn pm ch tl nu le nx cmd pos rea cau xn xt_120 xp xr xw h0 h1 h2 h3 h4 (4 : Int32) r122 hc123) (cwV 1 hts gL_holds_X6_count rfl rfl rfl (by decide +kernel) ⟨Nat.le_of_ble_eq_true rfl, Nat.le_of_ble_eq_true rfl⟩) hK hP hD hS hA hG hl [0, 1, 2, 3, 4, 5, 6, 7, 8, 9, 10, 11, 12, 13, 14] 0 0 (by decide) rfl (ci := 6) rfl rfl rfl rfl rfl rfl rfl rfl rfl rfl (Nat.le_of_ble_eq_true rfl) dL_holds_274 (Nat.zero_le _) (Nat.zero_le _) (fun H locs hP hD hS => ?_)
                                    refine lv_icmp_ge (tgt := 282) hx hb dL_holds_277 (by decide) (fun hc124 => ?_) (fun hc124 => ?_)
                                    · replace h := g_it hc124 h
                                      obtain ⟨v125, e_v125⟩ : ∃ y : Int32, y = (v2 + (1 : Int32)) := ⟨_, rfl⟩
                                      replace h := jl_s e_v125 h
                                      refine lv_iinc (v := v125) (lv' := [(6, .int v125), (5, .int v75), (4, .int v72), (3, .int v66), (2, .int v62), (7, .int r55), (0, .ref g0)]) hx hb dL_holds_282 hl (k := 5) rfl (by rw [e_v125]; rfl) (by decide) rfl (fun ls hl => ?_)
                                      refine lv_goto (tgt := 13) hx hb dL_holds_285 (by decide) ?_
                                      exact ih_rec1 v125 v75 v72 v66 v62 xt_120 _ _ _ hP hS (lv_sub hl [0, 1, 2, 3, 4, 6] rfl) h
                                    · replace h := g_if hc124 h
                                      cases h
                              refine lv_icmp_le (tgt := 256) hx hb dL_holds_249 (by decide) (fun hc112 => ?_) (fun hc112 => ?_)
                              · replace h := g_it hc112 h
                                refine lv_iconst (v := (0 : Int32)) hx hb dL_holds_256 (by decide) ?_
                                exact hJ_J113 (0 : Int32) _ _ _ hP hS (lv_sub hl [0, 1, 2, 3, 4, 5, 6] rfl) h
                              · replace h := g_if hc112 h
                                refine lv_iconst (v := (1 : Int32)) hx hb dL_holds_252 (by decide) ?_
                                refine lv_goto (tgt := 257) hx hb dL_holds_253 (by decide) ?_
                                exact hJ_J113 (1 : Int32) _ _ _ hP hS (lv_sub hl [0, 1, 2, 3, 4, 5, 6] rfl) h
                            refine lv_icmp_ne (tgt := 245) hx hb dL_holds_238 (by decide) (fun hc109 => ?_) (fun hc109 => ?_)
                            · replace h := g_if hc109 h
                              refine lv_iconst (v := (0 : Int32)) hx hb dL_holds_245 (by decide) ?_
                              exact hJ_J110 (0 : Int32) _ _ _ hP hS (lv_sub hl [1, 2, 3, 4, 5, 6, 7] rfl) h
                            · replace h := g_it hc109 h
                              refine lv_iconst (v := (1 : Int32)) hx hb dL_holds_241 (by decide) ?_
                              refine lv_goto (tgt := 246) hx hb dL_holds_242 (by decide) ?_
                              exact hJ_J110 (1 : Int32) _ _ _ hP hS (lv_sub hl [1, 2, 3, 4, 5, 6, 7] rfl) h
                        refine lv_if_ne (tgt := 214) hx hb dL_holds_207 (by decide) (fun hc101 => ?_) (fun hc101 => ?_)
                        · replace h := g_if hc101 h
                          refine lv_iconst (v := (0 : Int32)) hx hb dL_holds_214 (by decide) ?_
                          exact hJ_J102 (0 : Int32) _ _ _ hP hS (lv_sub hl [0, 1, 2, 3, 5, 6, 7] rfl) h
                        · replace h := g_it hc101 h
                          refine lv_iconst (v := (1 : Int32)) hx hb dL_holds_210 (by decide) ?_
                          refine lv_goto (tgt := 215) hx hb dL_holds_211 (by decide) ?_
                          exact hJ_J102 (1 : Int32) _ _ _ hP hS (lv_sub hl [0, 1, 2, 3, 5, 6, 7] rfl) h
                      refine lv_icmp_ne (tgt := 204) hx hb dL_holds_197 (by decide) (fun hc98 => ?_) (fun hc98 => ?_)
                      · replace h := g_if hc98 h
                        refine lv_iconst (v := (0 : Int32)) hx hb dL_holds_204 (by decide) ?_
                        exact hJ_J99 (0 : Int32) _ _ _ hP hS (lv_sub hl [0, 1, 2, 3, 4, 5, 6, 7] rfl) h
                      · replace h := g_it hc98 h
                        refine lv_iconst (v := (1 : Int32)) hx hb dL_holds_200 (by decide) ?_
                        refine lv_goto (tgt := 205) hx hb dL_holds_201 (by decide) ?_
                        exact hJ_J99 (1 : Int32) _ _ _ hP hS (lv_sub hl [0, 1, 2, 3, 4, 5, 6, 7] rfl) h
                  refine lv_icmp_le (tgt := 184) hx hb dL_holds_168 (by decide) (fun hc90 => ?_) (fun hc90 => ?_)
                  · replace h := g_it hc90 h
                    refine lv_iconst (v := (0 : Int32)) hx hb dL_holds_184 (by decide) ?_
                    exact hJ_J91 (0 : Int32) _ _ _ hP hS (lv_sub hl [0, 1, 2, 3, 4, 5, 6, 7] rfl) h
                  · replace h := g_if hc90 h
                    refine lv_iload hx hb dL_holds_171 (lv_at hl 4 rfl) ?_
                    refine lv_aload_n hx hb dL_holds_173 rfl (lv_at hl 7 rfl) ?_
                    refine lv_iload hx hb dL_holds_174 (lv_at hl 6 rfl) ?_
                    refine lv_iconst (v := (2 : Int32)) hx hb dL_holds_176 (by decide) ?_
                    obtain ⟨r92, hc93, h⟩ := bd1_s h
                    refine g_callBi (As := [.int v2, .int (2 : Int32)]) (rest := [.int r57, .int r86]) (r := r92) (bs1 := [[(g0, .inr (6, [.ref (an 0), .ref (au 0), .ref (ap 0), .ref q0, .ref x0, .ref r0, .int ke]))], [(q0, .inr (0, [.ref q1, .int lnn]))], wHa E q1 ba pm, wTx E x0 x1 x2 ch tl nu le nx, [(r0, .inr (3, [.ref (ar 0), .ref (aw 0), .int cmd, .int pos, .int rea, .int cau]))], wHuT E an xn, wHuT E au xt7, wHuT E ap xp, wHuT E ar xr, wHuT E aw xw, wHuT E (ba 0) h0, wHuT E (ba 1) h1, wHuT E (ba 2) h2, wHuT E (ba 3) h3, wHuT E (ba 4) h4]) ⟨hx, hb, hml, hown, hts⟩ (kX6_partyOf E l g0 q0 q1 x0 x1 x2 r0 an au ap ar aw ba ke lnn pm ch tl nu le nx cmd pos rea cau xn xt7 xp xr xw h0 h1 h2 h3 h4 v2 (2 : Int32) r92 hc93) (cwV 2 hts gL_holds_X6_partyOf rfl rfl rfl (by decide +kernel) ⟨Nat.le_of_ble_eq_true rfl, Nat.le_of_ble_eq_true rfl⟩) hK hP hD hS hA hG hl [0, 1, 2, 3, 4, 5, 6, 7, 8, 9, 10, 11, 12, 13, 14] 0 0 (by decide) rfl (ci := 6) rfl rfl rfl rfl rfl rfl rfl rfl rfl rfl (Nat.le_of_ble_eq_true rfl) dL_holds_177 (Nat.zero_le _) (Nat.zero_le _) (fun H locs hP hD hS => ?_)
                    refine lv_isub hx hb dL_holds_180 ?_
                    refine lv_goto (tgt := 185) hx hb dL_holds_181 (by decide) ?_
                    exact hJ_J91 (r57 - r92) _ _ _ hP hS (lv_sub hl [0, 1, 2, 3, 4, 5, 6, 7] rfl) h
                refine lv_icmp_ne (tgt := 151) hx hb dL_holds_136 (by decide) (fun hc81 => ?_) (fun hc81 => ?_)
                · replace h := g_if hc81 h
                  exact hJ_J82 () _ _ _ hP hS (lv_sub hl [1, 2, 3, 4, 5, 6, 7, 8] rfl) h
                · replace h := g_it hc81 h
                  refine lv_iload hx hb dL_holds_139 (lv_at hl 5 rfl) ?_
                  refine lv_aload_n hx hb dL_holds_141 rfl (lv_at hl 8 rfl) ?_
                  refine lv_iload hx hb dL_holds_142 (lv_at hl 7 rfl) ?_
                  refine lv_iconst (v := (2 : Int32)) hx hb dL_holds_144 (by decide) ?_
                  obtain ⟨r83, hc84, h⟩ := bd1_s h
                  refine g_callBi (As := [.int v2, .int (2 : Int32)]) (rest := [.int r57]) (r := r83) (bs1 := [[(g0, .inr (6, [.ref (an 0), .ref (au 0), .ref (ap 0), .ref q0, .ref x0, .ref r0, .int ke]))], [(q0, .inr (0, [.ref q1, .int lnn]))], wHa E q1 ba pm, wTx E x0 x1 x2 ch tl nu le nx, [(r0, .inr (3, [.ref (ar 0), .ref (aw 0), .int cmd, .int pos, .int rea, .int cau]))], wHuT E an xn, wHuT E au xt7, wHuT E ap xp, wHuT E ar xr, wHuT E aw xw, wHuT E (ba 0) h0, wHuT E (ba 1) h1, wHuT E (ba 2) h2, wHuT E (ba 3) h3, wHuT E (ba 4) h4]) ⟨hx, hb, hml, hown, hts⟩ (kX6_partyOf E l g0 q0 q1 x0 x1 x2 r0 an au ap ar aw ba ke lnn pm ch tl nu le nx cmd pos rea cau xn xt7 xp xr xw h0 h1 h2 h3 h4 v2 (2 : Int32) r83 hc84) (cwV 2 hts gL_holds_X6_partyOf rfl rfl rfl (by decide +kernel) ⟨Nat.le_of_ble_eq_true rfl, Nat.le_of_ble_eq_true rfl⟩) hK hP hD hS hA hG hl [0, 1, 2, 3, 4, 5, 6, 7, 8, 9, 10, 11, 12, 13, 14] 0 0 (by decide) rfl (ci := 6) rfl rfl rfl rfl rfl rfl rfl rfl rfl rfl (Nat.le_of_ble_eq_true rfl) dL_holds_145 (Nat.zero_le _) (Nat.zero_le _) (fun H locs hP hD hS => ?_)
                  refine lv_icmp_lt (tgt := 222) hx hb dL_holds_148 (by decide) (fun hc85 => ?_) (fun hc85 => ?_)
                  · replace h := g_it hc85 h
                    cases h
                  · replace h := g_if hc85 h
                    exact hJ_J82 () _ _ _ hP hS (lv_sub hl [1, 2, 3, 4, 5, 6, 7, 8] rfl) h
              refine mrg_e h (fun J77 hK_J77 h => ?_)
              have hJ_J77 : ∀ (_ : Unit) (H : Heap) (locs : List Loc) (ls : Array Slot), va_P E.1 vwCl (List.flatten [[(g0, .inr (6, [.ref (an 0), .ref (au 0), .ref (ap 0), .ref q0, .ref x0, .ref r0, .int ke]))], [(q0, .inr (0, [.ref q1, .int lnn]))], wHa E q1 ba pm, wTx E x0 x1 x2 ch tl nu le nx, [(r0, .inr (3, [.ref (ar 0), .ref (aw 0), .int cmd, .int pos, .int rea, .int cau]))], wHuT E an xn, wHuT E au xt7, wHuT E ap xp, wHuT E ar xr, wHuT E aw xw, wHuT E (ba 0) h0, wHuT E (ba 1) h1, wHuT E (ba 2) h2, wHuT E (ba 3) h3, wHuT E (ba 4) h4]) H → va_S A s.heap H locs → lv_has ls 10 [(5, .int v75), (4, .int v72), (3, .int v66), (2, .int v62), (8, .int r57), (7, .int r55), (6, .int v2), (0, .ref g0)] → J77 () = some res → W p l e ({ frames := 4, cells := 0, slots := 0, locals := 97 } : Room) s m args below meth c H locs 0 0 Q (F0 m 116 ls []) := by
                intro _ H locs ls hP hS hl h
                replace hD : va_D A (List.flatten [[(g0, .inr (6, [.ref (an 0), .ref (au 0), .ref (ap 0), .ref q0, .ref x0, .ref r0, .int ke]))], [(q0, .inr (0, [.ref q1, .int lnn]))], wHa E q1 ba pm, wTx E x0 x1 x2 ch tl nu le nx, [(r0, .inr (3, [.ref (ar 0), .ref (aw 0), .int cmd, .int pos, .int rea, .int cau]))], wHuT E an xn, wHuT E au xt7, wHuT E ap xp, wHuT E ar xr, wHuT E aw xw, wHuT E (ba 0) h0, wHuT E (ba 1) h1, wHuT E (ba 2) h2, wHuT E (ba 3) h3, wHuT E (ba 4) h4]) := gD_same hD rfl
                subst hK_J77
                refine lv_iload hx hb dL_holds_116 (lv_at hl 4 rfl) ?_
                refine lv_if_ne (tgt := 125) hx hb dL_holds_118 (by decide) (fun hc80 => ?_) (fun hc80 => ?_)
                · replace h := g_if hc80 h
                  cases h
                · replace h := g_it hc80 h
                  exact hJ_J78 () _ _ _ hP hS (lv_sub hl [0, 1, 2, 3, 4, 5, 6, 7] rfl) h
              refine lv_if_le (tgt := 116) hx hb dL_holds_107 (by decide) (fun hc76 => ?_) (fun hc76 => ?_)
              · replace h := g_it hc76 h
                exact hJ_J77 () _ _ _ hP hS (lv_sub hl [0, 1, 2, 3, 4, 5, 6, 7] rfl) h
              · replace h := g_if hc76 h
                refine lv_iload hx hb dL_holds_110 (lv_at hl 5 rfl) ?_
                refine lv_iconst (v := (3 : Int32)) hx hb dL_holds_112 (by decide) ?_
                refine lv_icmp_lt (tgt := 121) hx hb dL_holds_113 (by decide) (fun hc79 => ?_) (fun hc79 => ?_)
                · replace h := g_it hc79 h
                  exact hJ_J78 () _ _ _ hP hS (lv_sub hl [0, 1, 2, 3, 4, 5, 6, 7] rfl) h
                · replace h := g_if hc79 h
                  exact hJ_J77 () _ _ _ hP hS (lv_sub hl [0, 1, 2, 3, 4, 5, 6, 7] rfl) h
            refine lv_icmp_ne (tgt := 86) hx hb dL_holds_73 (by decide) (fun hc67 => ?_) (fun hc67 => ?_)
            · replace h := g_if hc67 h
              refine lv_iconst (v := (0 : Int32)) hx hb dL_holds_86 (by decide) ?_
              exact hJ_J68 (0 : Int32) _ _ _ hP hS (lv_sub hl [0, 1, 2, 3, 4, 5, 7] rfl) h
            · replace h := g_it hc67 h
              refine lv_aload_n hx hb dL_holds_76 rfl (lv_at hl 7 rfl) ?_
              refine lv_iload hx hb dL_holds_77 (lv_at hl 4 rfl) ?_
              refine lv_iconst (v := (0 : Int32)) hx hb dL_holds_79 (by decide) ?_
              obtain ⟨r69, hc70, h⟩ := bd1_s h
              refine g_callBi (As := [.int v2, .int (0 : Int32)]) (rest := [.int v4]) (r := r69) (bs1 := [[(g0, .inr (6, [.ref (an 0), .ref (au 0), .ref (ap 0), .ref q0, .ref x0, .ref r0, .int ke]))], [(q0, .inr (0, [.ref q1, .int lnn]))], wHa E q1 ba pm, wTx E x0 x1 x2 ch tl nu le nx, [(r0, .inr (3, [.ref (ar 0), .ref (aw 0), .int cmd, .int pos, .int rea, .int cau]))], wHuT E an xn, wHuT E au xt7, wHuT E ap xp, wHuT E ar xr, wHuT E aw xw, wHuT E (ba 0) h0, wHuT E (ba 1) h1, wHuT E (ba 2) h2, wHuT E (ba 3) h3, wHuT E (ba 4) h4]) ⟨hx, hb, hml, hown, hts⟩ (kX6_partyOf E l g0 q0 q1 x0 x1 x2 r0 an au ap ar aw ba ke lnn pm ch tl nu le nx cmd pos rea cau xn xt7 xp xr xw h0 h1 h2 h3 h4 v2 (0 : Int32) r69 hc70) (cwV 2 hts gL_holds_X6_partyOf rfl rfl rfl (by decide +kernel) ⟨Nat.le_of_ble_eq_true rfl, Nat.le_of_ble_eq_true rfl⟩) hK hP hD hS hA hG hl [0, 1, 2, 3, 4, 5, 6, 7, 8, 9, 10, 11, 12, 13, 14] 0 0 (by decide) rfl (ci := 6) rfl rfl rfl rfl rfl rfl rfl rfl rfl rfl (Nat.le_of_ble_eq_true rfl) dL_holds_80 (Nat.zero_le _) (Nat.zero_le _) (fun H locs hP hD hS => ?_)
              refine lv_goto (tgt := 87) hx hb dL_holds_83 (by decide) ?_
              exact hJ_J68 r69 _ _ _ hP hS (lv_sub hl [0, 1, 2, 3, 4, 5, 7] rfl) h
          refine lv_icmp_ne (tgt := 65) hx hb dL_holds_58 (by decide) (fun hc63 => ?_) (fun hc63 => ?_)
          · replace h := g_if hc63 h
            refine lv_iconst (v := (0 : Int32)) hx hb dL_holds_65 (by decide) ?_
            exact hJ_J64 (0 : Int32) _ _ _ hP hS (lv_sub hl [0, 1, 2, 3, 4, 5, 7] rfl) h
          · replace h := g_it hc63 h
            refine lv_iconst (v := (1 : Int32)) hx hb dL_holds_61 (by decide) ?_
            refine lv_goto (tgt := 66) hx hb dL_holds_62 (by decide) ?_
            exact hJ_J64 (1 : Int32) _ _ _ hP hS (lv_sub hl [0, 1, 2, 3, 4, 5, 7] rfl) h
        refine lv_if_ne (tgt := 51) hx hb dL_holds_44 (by decide) (fun hc59 => ?_) (fun hc59 => ?_)
        · replace h := g_if hc59 h
          refine lv_iconst (v := (0 : Int32)) hx hb dL_holds_51 (by decide) ?_
          exact hJ_J60 (0 : Int32) _ _ _ hP hS (lv_sub hl [0, 1, 2, 3, 4, 5, 7] rfl) h
        · replace h := g_it hc59 h
          refine lv_iconst (v := (1 : Int32)) hx hb dL_holds_47 (by decide) ?_
          refine lv_goto (tgt := 52) hx hb dL_holds_48 (by decide) ?_
          exact hJ_J60 (1 : Int32) _ _ _ hP hS (lv_sub hl [0, 1, 2, 3, 4, 5, 7] rfl) h
  exact hL_rec1 gFU (0 : Int32) (0 : Int32) (0 : Int32) (0 : Int32) (0 : Int32) xt _ _ _ hP hS (lv_sub hl [0, 1, 2, 3, 4, 5] rfl) h
set_option maxHeartbeats 4000000 in
set_option maxRecDepth 100000 in
theorem kL_digits (E : gE) (l : Launch) (g0 q0 q1 x0 x1 x2 r0 : Nat) (an au ap ar aw : Nat → Nat) (ba : Nat → Nat → Nat) (ke : Int32) (lnn : Int32) (pm : Nat → Nat) (ch : Nat → Int32) (tl : Int32) (nu : Nat → Int32) (le : Int32) (nx : Int32) (cmd : Int32) (pos : Int32) (rea : Int32) (cau : Int32) (xn : HutS) (xt : HutS) (xp : HutS) (xr : HutS) (xw : HutS) (h0 : HutS) (h1 : HutS) (h2 : HutS) (h3 : HutS) (h4 : HutS) (p2 : Int32) (res : Int32 × (Nat → Int32) × Int32) (h : fL_digits ch tl p2 = some res) : gMI E l yL_digits wsL_digits ({ frames := 2, cells := 0, slots := 0, locals := 42 } : Room) [.ref g0, .int p2] (List.flatten [[(g0, .inr (6, [.ref (an 0), .ref (au 0), .ref (ap 0), .ref q0, .ref x0, .ref r0, .int ke]))], [(q0, .inr (0, [.ref q1, .int lnn]))], wHa E q1 ba pm, wTx E x0 x1 x2 ch tl nu le nx, [(r0, .inr (3, [.ref (ar 0), .ref (aw 0), .int cmd, .int pos, .int rea, .int cau]))], wHuT E an xn, wHuT E au xt, wHuT E ap xp, wHuT E ar xr, wHuT E aw xw, wHuT E (ba 0) h0, wHuT E (ba 1) h1, wHuT E (ba 2) h2, wHuT E (ba 3) h3, wHuT E (ba 4) h4]) (fun res : Int32 × (Nat → Int32) × Int32 => (List.flatten [[(g0, .inr (6, [.ref (an 0), .ref (au 0), .ref (ap 0), .ref q0, .ref x0, .ref r0, .int ke]))], [(q0, .inr (0, [.ref q1, .int lnn]))], wHa E q1 ba pm, wTx E x0 x1 x2 res.2.1 res.2.2 nu le nx, [(r0, .inr (3, [.ref (ar 0), .ref (aw 0), .int cmd, .int pos, .int rea, .int cau]))], wHuT E an xn, wHuT E au xt, wHuT E ap xp, wHuT E ar xr, wHuT E aw xw, wHuT E (ba 0) h0, wHuT E (ba 1) h1, wHuT E (ba 2) h2, wHuT E (ba 3) h3, wHuT E (ba 4) h4])) (fun res => res.1) res := by
  refine g_entZ (cc := cL_digits) (maxL := 3) (by decide) rfl (Nat.le_of_ble_eq_true rfl) ?_
  intro p e s m args below meth c A Q ls hx hb hml hown hts hK hP hD hS hA hG hret hl
  unfold fL_digits at h
  replace hl : lv_has ls 3 [(0, .ref g0), (1, .int p2)] := hl
  refine lv_iload_n hx hb dL_digits_0 rfl (lv_at hl 1 rfl) ?_
  refine lv_bipush (v := (100 : Int32)) hx hb dL_digits_1 (by decide) ?_
  refine mrg_e h (fun J2 hK_J2 h => ?_)
  have hJ_J2 : ∀ (ch10 : Nat → Int32) (tl11 : Int32) (H : Heap) (locs : List Loc) (ls : Array Slot), va_P E.1 vwCl (List.flatten [[(g0, .inr (6, [.ref (an 0), .ref (au 0), .ref (ap 0), .ref q0, .ref x0, .ref r0, .int ke]))], [(q0, .inr (0, [.ref q1, .int lnn]))], wHa E q1 ba pm, wTx E x0 x1 x2 ch10 tl11 nu le nx, [(r0, .inr (3, [.ref (ar 0), .ref (aw 0), .int cmd, .int pos, .int rea, .int cau]))], wHuT E an xn, wHuT E au xt, wHuT E ap xp, wHuT E ar xr, wHuT E aw xw, wHuT E (ba 0) h0, wHuT E (ba 1) h1, wHuT E (ba 2) h2, wHuT E (ba 3) h3, wHuT E (ba 4) h4]) H → va_S A s.heap H locs → lv_has ls 3 [(0, .ref g0), (1, .int p2)] → J2 ch10 tl11 = some res → W p l e ({ frames := 2, cells := 0, slots := 0, locals := 42 } : Room) s m args below meth c H locs 0 0 Q (F0 m 20 ls []) := by
    intro ch10 tl11 H locs ls hP hS hl h
    replace hD : va_D A (List.flatten [[(g0, .inr (6, [.ref (an 0), .ref (au 0), .ref (ap 0), .ref q0, .ref x0, .ref r0, .int ke]))], [(q0, .inr (0, [.ref q1, .int lnn]))], wHa E q1 ba pm, wTx E x0 x1 x2 ch10 tl11 nu le nx, [(r0, .inr (3, [.ref (ar 0), .ref (aw 0), .int cmd, .int pos, .int rea, .int cau]))], wHuT E an xn, wHuT E au xt, wHuT E ap xp, wHuT E ar xr, wHuT E aw xw, wHuT E (ba 0) h0, wHuT E (ba 1) h1, wHuT E (ba 2) h2, wHuT E (ba 3) h3, wHuT E (ba 4) h4]) := gD_same hD rfl
    subst hK_J2
    refine lv_iload_n hx hb dL_digits_20 rfl (lv_at hl 1 rfl) ?_
    refine lv_bipush (v := (10 : Int32)) hx hb dL_digits_21 (by decide) ?_
    refine mrg_e h (fun J13 hK_J13 h => ?_)
    have hJ_J13 : ∀ (ch21 : Nat → Int32) (tl22 : Int32) (H : Heap) (locs : List Loc) (ls : Array Slot), va_P E.1 vwCl (List.flatten [[(g0, .inr (6, [.ref (an 0), .ref (au 0), .ref (ap 0), .ref q0, .ref x0, .ref r0, .int ke]))], [(q0, .inr (0, [.ref q1, .int lnn]))], wHa E q1 ba pm, wTx E x0 x1 x2 ch21 tl22 nu le nx, [(r0, .inr (3, [.ref (ar 0), .ref (aw 0), .int cmd, .int pos, .int rea, .int cau]))], wHuT E an xn, wHuT E au xt, wHuT E ap xp, wHuT E ar xr, wHuT E aw xw, wHuT E (ba 0) h0, wHuT E (ba 1) h1, wHuT E (ba 2) h2, wHuT E (ba 3) h3, wHuT E (ba 4) h4]) H → va_S A s.heap H locs → lv_has ls 3 [(0, .ref g0), (1, .int p2)] → J13 ch21 tl22 = some res → W p l e ({ frames := 2, cells := 0, slots := 0, locals := 42 } : Room) s m args below meth c H locs 0 0 Q (F0 m 43 ls []) := by
      intro ch21 tl22 H locs ls hP hS hl h
      replace hD : va_D A (List.flatten [[(g0, .inr (6, [.ref (an 0), .ref (au 0), .ref (ap 0), .ref q0, .ref x0, .ref r0, .int ke]))], [(q0, .inr (0, [.ref q1, .int lnn]))], wHa E q1 ba pm, wTx E x0 x1 x2 ch21 tl22 nu le nx, [(r0, .inr (3, [.ref (ar 0), .ref (aw 0), .int cmd, .int pos, .int rea, .int cau]))], wHuT E an xn, wHuT E au xt, wHuT E ap xp, wHuT E ar xr, wHuT E aw xw, wHuT E (ba 0) h0, wHuT E (ba 1) h1, wHuT E (ba 2) h2, wHuT E (ba 3) h3, wHuT E (ba 4) h4]) := gD_same hD rfl
      subst hK_J13
      refine lv_iconst (v := (1 : Int32)) hx hb dL_digits_43 (by decide) ?_
      refine lv_goto (tgt := 48) hx hb dL_digits_44 (by decide) ?_
      refine lv_istore_n (lv' := [(2, .int (1 : Int32)), (0, .ref g0), (1, .int p2)]) hx hb dL_digits_48 rfl hl (by decide) rfl (fun ls hl => ?_)
      refine lv_iload_n hx hb dL_digits_49 rfl (lv_at hl 0 rfl) ?_
      refine lv_if_eq (tgt := 71) hx hb dL_digits_50 (by decide) (fun hc => by first | exact absurd hc (by decide) | exact absurd (by decide) hc) (fun _ => ?_)
      refine lv_aload_n hx hb dL_digits_53 rfl (lv_at hl 1 rfl) ?_
      refine lv_bipush (v := (48 : Int32)) hx hb dL_digits_54 (by decide) ?_
      refine lv_iload_n hx hb dL_digits_56 rfl (lv_at hl 2 rfl) ?_
      refine lv_bipush (v := (10 : Int32)) hx hb dL_digits_57 (by decide) ?_
      refine lv_irem hx hb dL_digits_59 (by decide) ?_
      refine lv_iadd hx hb dL_digits_60 ?_
      obtain ⟨r23, ch_25, tl_27, hc28, h⟩ := bd3_s h
      refine g_callBi (As := [.int ((48 : Int32) + (p2 - p2 / (10 : Int32) * (10 : Int32)))]) (rest := []) (r := r23) (bs1 := [[(g0, .inr (6, [.ref (an 0), .ref (au 0), .ref (ap 0), .ref q0, .ref x0, .ref r0, .int ke]))], [(q0, .inr (0, [.ref q1, .int lnn]))], wHa E q1 ba pm, wTx E x0 x1 x2 ch_25 tl_27 nu le nx, [(r0, .inr (3, [.ref (ar 0), .ref (aw 0), .int cmd, .int pos, .int rea, .int cau]))], wHuT E an xn, wHuT E au xt, wHuT E ap xp, wHuT E ar xr, wHuT E aw xw, wHuT E (ba 0) h0, wHuT E (ba 1) h1, wHuT E (ba 2) h2, wHuT E (ba 3) h3, wHuT E (ba 4) h4]) ⟨hx, hb, hml, hown, hts⟩ (kX6_type E l g0 q0 q1 x0 x1 x2 r0 an au ap ar aw ba ke lnn pm ch21 tl22 nu le nx cmd pos rea cau xn xt xp xr xw h0 h1 h2 h3 h4 ((48 : Int32) + (p2 - p2 / (10 : Int32) * (10 : Int32))) (r23, ch_25, tl_27) hc28) (cwV 1 hts gL_digits_X6_type rfl rfl rfl (by decide +kernel) ⟨Nat.le_of_ble_eq_true rfl, Nat.le_of_ble_eq_true rfl⟩) hK hP hD hS hA hG hl [0, 1, 2, 3, 4, 5, 6, 7, 8, 9, 10, 11, 12, 13, 14] 0 0 (by decide) rfl (ci := 6) rfl rfl rfl rfl rfl rfl rfl rfl rfl rfl (Nat.le_of_ble_eq_true rfl) dL_digits_61 (Nat.zero_le _) (Nat.zero_le _) (fun H locs hP hD hS => ?_)
      refine lv_if_le (tgt := 71) hx hb dL_digits_64 (by decide) (fun hc29 => ?_) (fun hc29 => ?_)
      · replace h := g_it hc29 h
        cases h
      · replace h := g_if hc29 h
        refine lv_iconst (v := (1 : Int32)) hx hb dL_digits_67 (by decide) ?_
        refine lv_goto (tgt := 72) hx hb dL_digits_68 (by decide) ?_
        exact hret ((1 : Int32), ch_25, tl_27) _ _ _ _ _ (Option.some.inj h) hP hS rfl rfl dL_digits_72
    refine lv_icmp_lt (tgt := 43) hx hb dL_digits_23 (by decide) (fun hc12 => ?_) (fun hc12 => ?_)
    · replace h := g_it hc12 h
      exact hJ_J13 ch10 tl11 _ _ _ hP hS (lv_sub hl [0, 1] rfl) h
    · replace h := g_if hc12 h
      refine lv_aload_n hx hb dL_digits_26 rfl (lv_at hl 0 rfl) ?_
      refine lv_bipush (v := (48 : Int32)) hx hb dL_digits_27 (by decide) ?_
      refine lv_iload_n hx hb dL_digits_29 rfl (lv_at hl 1 rfl) ?_
      refine lv_bipush (v := (10 : Int32)) hx hb dL_digits_30 (by decide) ?_
      refine lv_idiv hx hb dL_digits_32 (by decide) ?_
      refine lv_bipush (v := (10 : Int32)) hx hb dL_digits_33 (by decide) ?_
      refine lv_irem hx hb dL_digits_35 (by decide) ?_
      refine lv_iadd hx hb dL_digits_36 ?_
      obtain ⟨r14, ch_16, tl_18, hc19, h⟩ := bd3_s h
      refine g_callBi (As := [.int ((48 : Int32) + ((p2 / (10 : Int32)) - (p2 / (10 : Int32)) / (10 : Int32) * (10 : Int32)))]) (rest := []) (r := r14) (bs1 := [[(g0, .inr (6, [.ref (an 0), .ref (au 0), .ref (ap 0), .ref q0, .ref x0, .ref r0, .int ke]))], [(q0, .inr (0, [.ref q1, .int lnn]))], wHa E q1 ba pm, wTx E x0 x1 x2 ch_16 tl_18 nu le nx, [(r0, .inr (3, [.ref (ar 0), .ref (aw 0), .int cmd, .int pos, .int rea, .int cau]))], wHuT E an xn, wHuT E au xt, wHuT E ap xp, wHuT E ar xr, wHuT E aw xw, wHuT E (ba 0) h0, wHuT E (ba 1) h1, wHuT E (ba 2) h2, wHuT E (ba 3) h3, wHuT E (ba 4) h4]) ⟨hx, hb, hml, hown, hts⟩ (kX6_type E l g0 q0 q1 x0 x1 x2 r0 an au ap ar aw ba ke lnn pm ch10 tl11 nu le nx cmd pos rea cau xn xt xp xr xw h0 h1 h2 h3 h4 ((48 : Int32) + ((p2 / (10 : Int32)) - (p2 / (10 : Int32)) / (10 : Int32) * (10 : Int32))) (r14, ch_16, tl_18) hc19) (cwV 1 hts gL_digits_X6_type rfl rfl rfl (by decide +kernel) ⟨Nat.le_of_ble_eq_true rfl, Nat.le_of_ble_eq_true rfl⟩) hK hP hD hS hA hG hl [0, 1, 2, 3, 4, 5, 6, 7, 8, 9, 10, 11, 12, 13, 14] 0 0 (by decide) rfl (ci := 6) rfl rfl rfl rfl rfl rfl rfl rfl rfl rfl (Nat.le_of_ble_eq_true rfl) dL_digits_37 (Nat.zero_le _) (Nat.zero_le _) (fun H locs hP hD hS => ?_)
      refine lv_if_le (tgt := 47) hx hb dL_digits_40 (by decide) (fun hc20 => ?_) (fun hc20 => ?_)
      · replace h := g_it hc20 h
        cases h
      · replace h := g_if hc20 h
        exact hJ_J13 ch_16 tl_18 _ _ _ hP hS (lv_sub hl [0, 1] rfl) h
  refine lv_icmp_lt (tgt := 20) hx hb dL_digits_3 (by decide) (fun hc1 => ?_) (fun hc1 => ?_)
  · replace h := g_it hc1 h
    exact hJ_J2 ch tl _ _ _ hP hS (lv_sub hl [0, 1] rfl) h
  · replace h := g_if hc1 h
    refine lv_aload_n hx hb dL_digits_6 rfl (lv_at hl 0 rfl) ?_
    refine lv_bipush (v := (48 : Int32)) hx hb dL_digits_7 (by decide) ?_
    refine lv_iload_n hx hb dL_digits_9 rfl (lv_at hl 1 rfl) ?_
    refine lv_bipush (v := (100 : Int32)) hx hb dL_digits_10 (by decide) ?_
    refine lv_idiv hx hb dL_digits_12 (by decide) ?_
    refine lv_iadd hx hb dL_digits_13 ?_
    obtain ⟨r3, ch_5, tl_7, hc8, h⟩ := bd3_s h
    refine g_callBi (As := [.int ((48 : Int32) + (p2 / (100 : Int32)))]) (rest := []) (r := r3) (bs1 := [[(g0, .inr (6, [.ref (an 0), .ref (au 0), .ref (ap 0), .ref q0, .ref x0, .ref r0, .int ke]))], [(q0, .inr (0, [.ref q1, .int lnn]))], wHa E q1 ba pm, wTx E x0 x1 x2 ch_5 tl_7 nu le nx, [(r0, .inr (3, [.ref (ar 0), .ref (aw 0), .int cmd, .int pos, .int rea, .int cau]))], wHuT E an xn, wHuT E au xt, wHuT E ap xp, wHuT E ar xr, wHuT E aw xw, wHuT E (ba 0) h0, wHuT E (ba 1) h1, wHuT E (ba 2) h2, wHuT E (ba 3) h3, wHuT E (ba 4) h4]) ⟨hx, hb, hml, hown, hts⟩ (kX6_type E l g0 q0 q1 x0 x1 x2 r0 an au ap ar aw ba ke lnn pm ch tl nu le nx cmd pos rea cau xn xt xp xr xw h0 h1 h2 h3 h4 ((48 : Int32) + (p2 / (100 : Int32))) (r3, ch_5, tl_7) hc8) (cwV 1 hts gL_digits_X6_type rfl rfl rfl (by decide +kernel) ⟨Nat.le_of_ble_eq_true rfl, Nat.le_of_ble_eq_true rfl⟩) hK hP hD hS hA hG hl [0, 1, 2, 3, 4, 5, 6, 7, 8, 9, 10, 11, 12, 13, 14] 0 0 (by decide) rfl (ci := 6) rfl rfl rfl rfl rfl rfl rfl rfl rfl rfl (Nat.le_of_ble_eq_true rfl) dL_digits_14 (Nat.zero_le _) (Nat.zero_le _) (fun H locs hP hD hS => ?_)
    refine lv_if_le (tgt := 47) hx hb dL_digits_17 (by decide) (fun hc9 => ?_) (fun hc9 => ?_)
    · replace h := g_it hc9 h
      cases h
    · replace h := g_if hc9 h
      exact hJ_J2 ch_5 tl_7 _ _ _ hP hS (lv_sub hl [0, 1] rfl) h
