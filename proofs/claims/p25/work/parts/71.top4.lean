set_option maxHeartbeats 4000000 in
set_option maxRecDepth 100000 in
theorem kX6_undo (E : gE) (l : Launch) (g0 q0 q1 x0 x1 x2 r0 : Nat) (an au ap ar aw : Nat → Nat) (ba : Nat → Nat → Nat) (ke : Int32) (lnn : Int32) (pm : Nat → Nat) (ch : Nat → Int32) (tl : Int32) (nu : Nat → Int32) (le : Int32) (nx : Int32) (cmd : Int32) (pos : Int32) (rea : Int32) (cau : Int32) (xn : HutS) (xt : HutS) (xp : HutS) (xr : HutS) (xw : HutS) (h0 : HutS) (h1 : HutS) (h2 : HutS) (h3 : HutS) (h4 : HutS)  (res : Int32 × Int32 × HutS) (h : fX6_undo lnn pm xn h0 h1 h2 h3 h4  = some res) : gMI E l yX6_undo wsX6_undo ({ frames := 4, cells := 0, slots := 0, locals := 82 } : Room) [.ref g0] (List.flatten [[(g0, .inr (6, [.ref (an 0), .ref (au 0), .ref (ap 0), .ref q0, .ref x0, .ref r0, .int ke]))], [(q0, .inr (0, [.ref q1, .int lnn]))], wHa E q1 ba pm, wTx E x0 x1 x2 ch tl nu le nx, [(r0, .inr (3, [.ref (ar 0), .ref (aw 0), .int cmd, .int pos, .int rea, .int cau]))], wHuT E an xn, wHuT E au xt, wHuT E ap xp, wHuT E ar xr, wHuT E aw xw, wHuT E (ba 0) h0, wHuT E (ba 1) h1, wHuT E (ba 2) h2, wHuT E (ba 3) h3, wHuT E (ba 4) h4]) (fun res : Int32 × Int32 × HutS => (List.flatten [[(g0, .inr (6, [.ref (an 0), .ref (au 0), .ref (ap 0), .ref q0, .ref x0, .ref r0, .int ke]))], [(q0, .inr (0, [.ref q1, .int res.2.1]))], wHa E q1 ba pm, wTx E x0 x1 x2 ch tl nu le nx, [(r0, .inr (3, [.ref (ar 0), .ref (aw 0), .int cmd, .int pos, .int rea, .int cau]))], wHuT E an res.2.2, wHuT E au xt, wHuT E ap xp, wHuT E ar xr, wHuT E aw xw, wHuT E (ba 0) h0, wHuT E (ba 1) h1, wHuT E (ba 2) h2, wHuT E (ba 3) h3, wHuT E (ba 4) h4])) (fun res => res.1) res := by
  refine g_entI (cc := cX6_undo) (maxL := 1) (by decide) rfl (Nat.le_of_ble_eq_true rfl) ?_
  intro p e s m args below meth c A Q ls hx hb hml hown hts hK hP hD hS hA hG hret hl
  unfold fX6_undo at h
  replace hl : lv_has ls 1 [(0, .ref g0)] := hl
  have hiX0 : ∀ w ∈ wsX00, w ∈ wsX6_undo := by decide +kernel
  have hiX6 : ∀ w ∈ wsX60, w ∈ wsX6_undo := by decide +kernel
  have hw0 := hts (.fieldLink RX6 25 "GlacierHut" "history" "LGlacierHut$History;") (by decide +kernel)
  have hw1 := hts (.fieldLink RX6 187 "GlacierHut$History" "length" "I") (by decide +kernel)
  have hw2 := hts (.fieldLink RX6 10 "GlacierHut" "now" "LGlacierHut$Hut;") (by decide +kernel)
  refine lv_aload_n hx hb dX6_undo_0 rfl (lv_at hl 0 rfl) ?_
  refine va_get (D := E.1) (cl := vwCl) (ci := 6) (v := .ref q0) (C := RX6) (T := TX6) (N := 7) hx hb hts hiX6 hown hK hP 0 rfl rfl 3 (by decide) hw0 (fun _ h9 => h9) rfl dX6_undo_1 ?_
  refine va_get (D := E.1) (cl := vwCl) (ci := 0) (v := .int lnn) (C := RX0) (T := TX0) (N := 2) hx hb hts hiX0 hown hK hP 1 rfl rfl 1 (by decide) hw1 (fun _ h9 => h9) rfl dX6_undo_4 ?_
  refine lv_if_ne (tgt := 13) hx hb dX6_undo_7 (by decide) (fun hc1 => ?_) (fun hc1 => ?_)
  · replace h := g_if hc1 h
    refine lv_aload_n hx hb dX6_undo_13 rfl (lv_at hl 0 rfl) ?_
    refine va_get (D := E.1) (cl := vwCl) (ci := 6) (v := .ref q0) (C := RX6) (T := TX6) (N := 7) hx hb hts hiX6 hown hK hP 0 rfl rfl 3 (by decide) hw0 (fun _ h9 => h9) rfl dX6_undo_14 ?_
    refine lv_aload_n hx hb dX6_undo_17 rfl (lv_at hl 0 rfl) ?_
    refine va_get (D := E.1) (cl := vwCl) (ci := 6) (v := .ref (an 0)) (C := RX6) (T := TX6) (N := 7) hx hb hts hiX6 hown hK hP 0 rfl rfl 0 (by decide) hw2 (fun _ h9 => h9) rfl dX6_undo_18 ?_
    obtain ⟨lnn_3, xn_5, hc6, h⟩ := bd2_s h
    refine g_callBv (As := [.ref (an 0)]) (rest := []) (bs1 := [[(g0, .inr (6, [.ref (an 0), .ref (au 0), .ref (ap 0), .ref q0, .ref x0, .ref r0, .int ke]))], [(q0, .inr (0, [.ref q1, .int lnn_3]))], wHa E q1 ba pm, wTx E x0 x1 x2 ch tl nu le nx, [(r0, .inr (3, [.ref (ar 0), .ref (aw 0), .int cmd, .int pos, .int rea, .int cau]))], wHuT E an xn_5, wHuT E au xt, wHuT E ap xp, wHuT E ar xr, wHuT E aw xw, wHuT E (ba 0) h0, wHuT E (ba 1) h1, wHuT E (ba 2) h2, wHuT E (ba 3) h3, wHuT E (ba 4) h4]) ⟨hx, hb, hml, hown, hts⟩ (kX0_takeBack E l q0 q1 an ba lnn pm h0 h1 h2 h3 h4 xn (lnn_3, xn_5) hc6) (cwV 1 hts gX6_undo_X0_takeBack rfl rfl rfl (by decide +kernel) ⟨Nat.le_of_ble_eq_true rfl, Nat.le_of_ble_eq_true rfl⟩) hK hP hD hS hA hG hl [1, 2, 10, 11, 12, 13, 14, 5] 1 0 (by decide) rfl (ci := 0) rfl rfl rfl rfl rfl rfl rfl rfl rfl (Nat.le_of_ble_eq_true rfl) dX6_undo_21 (Nat.zero_le _) (Nat.zero_le _) (fun H locs hP hD hS => ?_)
    refine lv_aload_n hx hb dX6_undo_24 rfl (lv_at hl 0 rfl) ?_
    refine va_get (D := E.1) (cl := vwCl) (ci := 6) (v := .ref q0) (C := RX6) (T := TX6) (N := 7) hx hb hts hiX6 hown hK hP 0 rfl rfl 3 (by decide) hw0 (fun _ h9 => h9) rfl dX6_undo_25 ?_
    refine va_get (D := E.1) (cl := vwCl) (ci := 0) (v := .int lnn_3) (C := RX0) (T := TX0) (N := 2) hx hb hts hiX0 hown hK hP 1 rfl rfl 1 (by decide) hw1 (fun _ h9 => h9) rfl dX6_undo_28 ?_
    exact hret (lnn_3, lnn_3, xn_5) _ _ _ _ _ (Option.some.inj h) hP hS rfl dX6_undo_31
  · replace h := g_it hc1 h
    refine lv_bipush (v := (-2 : Int32)) hx hb dX6_undo_10 (by decide) ?_
    exact hret ((-2 : Int32), lnn, xn) _ _ _ _ _ (Option.some.inj h) hP hS rfl dX6_undo_12
