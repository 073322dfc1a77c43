set_option maxHeartbeats 4000000 in
set_option maxRecDepth 100000 in
theorem kX6_clear (E : gE) (l : Launch) (g0 q0 q1 x0 x1 x2 r0 : Nat) (an au ap ar aw : Nat → Nat) (ba : Nat → Nat → Nat) (ke : Int32) (lnn : Int32) (pm : Nat → Nat) (ch : Nat → Int32) (tl : Int32) (nu : Nat → Int32) (le : Int32) (nx : Int32) (cmd : Int32) (pos : Int32) (rea : Int32) (cau : Int32) (xn : HutS) (xt : HutS) (xp : HutS) (xr : HutS) (xw : HutS) (h0 : HutS) (h1 : HutS) (h2 : HutS) (h3 : HutS) (h4 : HutS) (p1 : Int32) (res : Int32 × Int32 × (Nat → Nat) × HutS × HutS × HutS × HutS × HutS × HutS) (h : fX6_clear lnn pm xn h0 h1 h2 h3 h4 p1 = some res) : gMI E l yX6_clear wsX6_clear ({ frames := 4, cells := 0, slots := 0, locals := 82 } : Room) [.ref g0, .int p1] (List.flatten [[(g0, .inr (6, [.ref (an 0), .ref (au 0), .ref (ap 0), .ref q0, .ref x0, .ref r0, .int ke]))], [(q0, .inr (0, [.ref q1, .int lnn]))], wHa E q1 ba pm, wTx E x0 x1 x2 ch tl nu le nx, [(r0, .inr (3, [.ref (ar 0), .ref (aw 0), .int cmd, .int pos, .int rea, .int cau]))], wHuT E an xn, wHuT E au xt, wHuT E ap xp, wHuT E ar xr, wHuT E aw xw, wHuT E (ba 0) h0, wHuT E (ba 1) h1, wHuT E (ba 2) h2, wHuT E (ba 3) h3, wHuT E (ba 4) h4]) (fun res : Int32 × Int32 × (Nat → Nat) × HutS × HutS × HutS × HutS × HutS × HutS => (List.flatten [[(g0, .inr (6, [.ref (an 0), .ref (au 0), .ref (ap 0), .ref q0, .ref x0, .ref r0, .int ke]))], [(q0, .inr (0, [.ref q1, .int res.2.1]))], wHa E q1 ba res.2.2.1, wTx E x0 x1 x2 ch tl nu le nx, [(r0, .inr (3, [.ref (ar 0), .ref (aw 0), .int cmd, .int pos, .int rea, .int cau]))], wHuT E an res.2.2.2.1, wHuT E au xt, wHuT E ap xp, wHuT E ar xr, wHuT E aw xw, wHuT E (ba 0) res.2.2.2.2.1, wHuT E (ba 1) res.2.2.2.2.2.1, wHuT E (ba 2) res.2.2.2.2.2.2.1, wHuT E (ba 3) res.2.2.2.2.2.2.2.1, wHuT E (ba 4) res.2.2.2.2.2.2.2.2])) (fun res => res.1) res := by
  refine g_entI (cc := cX6_clear) (maxL := 2) (by decide) rfl (Nat.le_of_ble_eq_true rfl) ?_
  intro p e s m args below meth c A Q ls hx hb hml hown hts hK hP hD hS hA hG hret hl
  unfold fX6_clear at h
  replace hl : lv_has ls 2 [(0, .ref g0), (1, .int p1)] := hl
  have hiX6 : ∀ w ∈ wsX60, w ∈ wsX6_clear := by decide +kernel
  have hw0 := hts (.fieldLink RX6 25 "GlacierHut" "history" "LGlacierHut$History;") (by decide +kernel)
  have hw1 := hts (.fieldLink RX6 10 "GlacierHut" "now" "LGlacierHut$Hut;") (by decide +kernel)
  refine lv_aload_n hx hb dX6_clear_0 rfl (lv_at hl 0 rfl) ?_
  refine va_get (D := E.1) (cl := vwCl) (ci := 6) (v := .ref q0) (C := RX6) (T := TX6) (N := 7) hx hb hts hiX6 hown hK hP 0 rfl rfl 3 (by decide) hw0 (fun _ h9 => h9) rfl dX6_clear_1 ?_
  refine lv_aload_n hx hb dX6_clear_4 rfl (lv_at hl 0 rfl) ?_
  refine va_get (D := E.1) (cl := vwCl) (ci := 6) (v := .ref (an 0)) (C := RX6) (T := TX6) (N := 7) hx hb hts hiX6 hown hK hP 0 rfl rfl 0 (by decide) hw1 (fun _ h9 => h9) rfl dX6_clear_5 ?_
  obtain ⟨h0_2, h1_4, h2_6, h3_8, h4_10, hc11, h⟩ := bd5_s h
  refine g_callBv (As := [.ref (an 0)]) (rest := []) (bs1 := [[(g0, .inr (6, [.ref (an 0), .ref (au 0), .ref (ap 0), .ref q0, .ref x0, .ref r0, .int ke]))], [(q0, .inr (0, [.ref q1, .int lnn]))], wHa E q1 ba pm, wTx E x0 x1 x2 ch tl nu le nx, [(r0, .inr (3, [.ref (ar 0), .ref (aw 0), .int cmd, .int pos, .int rea, .int cau]))], wHuT E an xn, wHuT E au xt, wHuT E ap xp, wHuT E ar xr, wHuT E aw xw, wHuT E (ba 0) h0_2, wHuT E (ba 1) h1_4, wHuT E (ba 2) h2_6, wHuT E (ba 3) h3_8, wHuT E (ba 4) h4_10]) ⟨hx, hb, hml, hown, hts⟩ (kX0_prepare E l q0 q1 an ba lnn pm h0 h1 h2 h3 h4 xn (h0_2, h1_4, h2_6, h3_8, h4_10) hc11) (cwV 1 hts gX6_clear_X0_prepare rfl rfl rfl (by decide +kernel) ⟨Nat.le_of_ble_eq_true rfl, Nat.le_of_ble_eq_true rfl⟩) hK hP hD hS hA hG hl [1, 2, 10, 11, 12, 13, 14, 5] 1 0 (by decide) rfl (ci := 0) rfl rfl rfl rfl rfl rfl rfl rfl rfl (Nat.le_of_ble_eq_true rfl) dX6_clear_8 (Nat.zero_le _) (Nat.zero_le _) (fun H locs hP hD hS => ?_)
  refine lv_aload_n hx hb dX6_clear_11 rfl (lv_at hl 0 rfl) ?_
  refine lv_aload_n hx hb dX6_clear_12 rfl (lv_at hl 0 rfl) ?_
  refine va_get (D := E.1) (cl := vwCl) (ci := 6) (v := .ref (an 0)) (C := RX6) (T := TX6) (N := 7) hx hb hts hiX6 hown hK hP 0 rfl rfl 0 (by decide) hw1 (fun _ h9 => h9) rfl dX6_clear_13 ?_
  refine lv_iload_n hx hb dX6_clear_16 rfl (lv_at hl 1 rfl) ?_
  obtain ⟨r12, xn_14, hc15, h⟩ := bd2_s h
  refine g_callBi (As := [.int p1]) (rest := [.ref g0]) (r := r12) (bs1 := [[(g0, .inr (6, [.ref (an 0), .ref (au 0), .ref (ap 0), .ref q0, .ref x0, .ref r0, .int ke]))], [(q0, .inr (0, [.ref q1, .int lnn]))], wHa E q1 ba pm, wTx E x0 x1 x2 ch tl nu le nx, [(r0, .inr (3, [.ref (ar 0), .ref (aw 0), .int cmd, .int pos, .int rea, .int cau]))], wHuT E an xn_14, wHuT E au xt, wHuT E ap xp, wHuT E ar xr, wHuT E aw xw, wHuT E (ba 0) h0_2, wHuT E (ba 1) h1_4, wHuT E (ba 2) h2_6, wHuT E (ba 3) h3_8, wHuT E (ba 4) h4_10]) ⟨hx, hb, hml, hown, hts⟩ (kgX1_tellCalm E l an xn p1 (r12, xn_14) hc15) (cwV 1 hts gX6_clear_X1_tellCalm rfl rfl rfl (by decide +kernel) ⟨Nat.le_of_ble_eq_true rfl, Nat.le_of_ble_eq_true rfl⟩) hK hP hD hS hA hG hl [5] 5 0 (by decide) rfl (ci := 1) rfl rfl rfl rfl rfl rfl rfl rfl rfl rfl (Nat.le_of_ble_eq_true rfl) dX6_clear_17 (Nat.zero_le _) (Nat.zero_le _) (fun H locs hP hD hS => ?_)
  obtain ⟨r16, lnn_18, pm_20, hc21, h⟩ := bd3_s h
  refine g_callBi (As := [.int r12]) (rest := []) (r := r16) (bs1 := [[(g0, .inr (6, [.ref (an 0), .ref (au 0), .ref (ap 0), .ref q0, .ref x0, .ref r0, .int ke]))], [(q0, .inr (0, [.ref q1, .int lnn_18]))], wHa E q1 ba pm_20, wTx E x0 x1 x2 ch tl nu le nx, [(r0, .inr (3, [.ref (ar 0), .ref (aw 0), .int cmd, .int pos, .int rea, .int cau]))], wHuT E an xn_14, wHuT E au xt, wHuT E ap xp, wHuT E ar xr, wHuT E aw xw, wHuT E (ba 0) h0_2, wHuT E (ba 1) h1_4, wHuT E (ba 2) h2_6, wHuT E (ba 3) h3_8, wHuT E (ba 4) h4_10]) ⟨hx, hb, hml, hown, hts⟩ (kX6_recorded E l g0 q0 q1 x0 r0 an au ap ba ke lnn pm h0_2 h1_4 h2_6 h3_8 h4_10 r12 (r16, lnn_18, pm_20) hc21) (cwV 1 hts gX6_clear_X6_recorded rfl rfl rfl (by decide +kernel) ⟨Nat.le_of_ble_eq_true rfl, Nat.le_of_ble_eq_true rfl⟩) hK hP hD hS hA hG hl [0, 1, 2, 10, 11, 12, 13, 14] 0 0 (by decide) rfl (ci := 6) rfl rfl rfl rfl rfl rfl rfl rfl rfl rfl (Nat.le_of_ble_eq_true rfl) dX6_clear_20 (Nat.zero_le _) (Nat.zero_le _) (fun H locs hP hD hS => ?_)
  exact hret (r16, lnn_18, pm_20, xn_14, h0_2, h1_4, h2_6, h3_8, h4_10) _ _ _ _ _ (Option.some.inj h) hP hS rfl dX6_clear_23
set_option maxHeartbeats 4000000 in
set_option maxRecDepth 100000 in
theorem kX6_clearText (E : gE) (l : Launch) (g0 q0 q1 x0 x1 x2 r0 : Nat) (an au ap ar aw : Nat → Nat) (ba : Nat → Nat → Nat) (ke : Int32) (lnn : Int32) (pm : Nat → Nat) (ch : Nat → Int32) (tl : Int32) (nu : Nat → Int32) (le : Int32) (nx : Int32) (cmd : Int32) (pos : Int32) (rea : Int32) (cau : Int32) (xn : HutS) (xt : HutS) (xp : HutS) (xr : HutS) (xw : HutS) (h0 : HutS) (h1 : HutS) (h2 : HutS) (h3 : HutS) (h4 : HutS)  (res : Int32 × Int32) (h : fX6_clearText tl  = some res) : gMI E l yX6_clearText wsX6_clearText ({ frames := 0, cells := 0, slots := 0, locals := 0 } : Room) [.ref g0] (List.flatten [[(g0, .inr (6, [.ref (an 0), .ref (au 0), .ref (ap 0), .ref q0, .ref x0, .ref r0, .int ke]))], [(q0, .inr (0, [.ref q1, .int lnn]))], wHa E q1 ba pm, wTx E x0 x1 x2 ch tl nu le nx, [(r0, .inr (3, [.ref (ar 0), .ref (aw 0), .int cmd, .int pos, .int rea, .int cau]))], wHuT E an xn, wHuT E au xt, wHuT E ap xp, wHuT E ar xr, wHuT E aw xw, wHuT E (ba 0) h0, wHuT E (ba 1) h1, wHuT E (ba 2) h2, wHuT E (ba 3) h3, wHuT E (ba 4) h4]) (fun res : Int32 × Int32 => (List.flatten [[(g0, .inr (6, [.ref (an 0), .ref (au 0), .ref (ap 0), .ref q0, .ref x0, .ref r0, .int ke]))], [(q0, .inr (0, [.ref q1, .int lnn]))], wHa E q1 ba pm, wTx E x0 x1 x2 ch res.2 nu le nx, [(r0, .inr (3, [.ref (ar 0), .ref (aw 0), .int cmd, .int pos, .int rea, .int cau]))], wHuT E an xn, wHuT E au xt, wHuT E ap xp, wHuT E ar xr, wHuT E aw xw, wHuT E (ba 0) h0, wHuT E (ba 1) h1, wHuT E (ba 2) h2, wHuT E (ba 3) h3, wHuT E (ba 4) h4])) (fun res => res.1) res := by
  refine g_entI (cc := cX6_clearText) (maxL := 2) (by decide) rfl (Nat.le_of_ble_eq_true rfl) ?_
  intro p e s m args below meth c A Q ls hx hb hml hown hts hK hP hD hS hA hG hret hl
  unfold fX6_clearText at h
  replace hl : lv_has ls 2 [(0, .ref g0)] := hl
  have hiX5 : ∀ w ∈ wsX50, w ∈ wsX6_clearText := by decide +kernel
  have hiX6 : ∀ w ∈ wsX60, w ∈ wsX6_clearText := by decide +kernel
  have hw0 := hts (.fieldLink RX6 32 "GlacierHut" "text" "LGlacierHut$Text;") (by decide +kernel)
  have hw1 := hts (.fieldLink RX6 190 "GlacierHut$Text" "length" "I") (by decide +kernel)
  refine lv_aload_n hx hb dX6_clearText_0 rfl (lv_at hl 0 rfl) ?_
  refine va_get (D := E.1) (cl := vwCl) (ci := 6) (v := .ref x0) (C := RX6) (T := TX6) (N := 7) hx hb hts hiX6 hown hK hP 0 rfl rfl 4 (by decide) hw0 (fun _ h9 => h9) rfl dX6_clearText_1 ?_
  refine va_get (D := E.1) (cl := vwCl) (ci := 5) (v := .int tl) (C := RX5) (T := TX5) (N := 5) hx hb hts hiX5 hown hK hP 3 rfl rfl 1 (by decide) hw1 (fun _ h9 => h9) rfl dX6_clearText_4 ?_
  refine lv_istore_n (lv' := [(1, .int tl), (0, .ref g0)]) hx hb dX6_clearText_7 rfl hl (by decide) rfl (fun ls hl => ?_)
  refine lv_aload_n hx hb dX6_clearText_8 rfl (lv_at hl 1 rfl) ?_
  refine va_get (D := E.1) (cl := vwCl) (ci := 6) (v := .ref x0) (C := RX6) (T := TX6) (N := 7) hx hb hts hiX6 hown hK hP 0 rfl rfl 4 (by decide) hw0 (fun _ h9 => h9) rfl dX6_clearText_9 ?_
  refine lv_iconst (v := (0 : Int32)) hx hb dX6_clearText_12 (by decide) ?_
  refine va_put (D := E.1) (cl := vwCl) (ci := 5) (v := .int (0 : Int32)) (ty := .int) (C := RX5) (T := TX5) (N := 5) hx hb hts hiX5 tyX5 tyX5_ok nmX5 hown hK hP hD hS 3 rfl rfl 1 (by decide) hw1 (fun _ h9 => h9) rfl (by decide +kernel) rfl rfl (Nat.le_of_ble_eq_true rfl) dX6_clearText_13 (fun H locs hP hD hS => ?_)
  replace hP : va_P E.1 vwCl (List.flatten [[(g0, .inr (6, [.ref (an 0), .ref (au 0), .ref (ap 0), .ref q0, .ref x0, .ref r0, .int ke]))], [(q0, .inr (0, [.ref q1, .int lnn]))], wHa E q1 ba pm, wTx E x0 x1 x2 ch (0 : Int32) nu le nx, [(r0, .inr (3, [.ref (ar 0), .ref (aw 0), .int cmd, .int pos, .int rea, .int cau]))], wHuT E an xn, wHuT E au xt, wHuT E ap xp, wHuT E ar xr, wHuT E aw xw, wHuT E (ba 0) h0, wHuT E (ba 1) h1, wHuT E (ba 2) h2, wHuT E (ba 3) h3, wHuT E (ba 4) h4]) H := hP
  replace hD : va_D A (List.flatten [[(g0, .inr (6, [.ref (an 0), .ref (au 0), .ref (ap 0), .ref q0, .ref x0, .ref r0, .int ke]))], [(q0, .inr (0, [.ref q1, .int lnn]))], wHa E q1 ba pm, wTx E x0 x1 x2 ch (0 : Int32) nu le nx, [(r0, .inr (3, [.ref (ar 0), .ref (aw 0), .int cmd, .int pos, .int rea, .int cau]))], wHuT E an xn, wHuT E au xt, wHuT E ap xp, wHuT E ar xr, wHuT E aw xw, wHuT E (ba 0) h0, wHuT E (ba 1) h1, wHuT E (ba 2) h2, wHuT E (ba 3) h3, wHuT E (ba 4) h4]) := hD
  refine lv_iload_n hx hb dX6_clearText_16 rfl (lv_at hl 0 rfl) ?_
  exact hret (tl, (0 : Int32)) _ _ _ _ _ (Option.some.inj h) hP hS rfl dX6_clearText_17
set_option maxHeartbeats 4000000 in
set_option maxRecDepth 100000 in
theorem kX6_count (E : gE) (l : Launch) (g0 q0 q1 x0 x1 x2 r0 : Nat) (an au ap ar aw : Nat → Nat) (ba : Nat → Nat → Nat) (ke : Int32) (lnn : Int32) (pm : Nat → Nat) (ch : Nat → Int32) (tl : Int32) (nu : Nat → Int32) (le : Int32) (nx : Int32) (cmd : Int32) (pos : Int32) (rea : Int32) (cau : Int32) (xn : HutS) (xt : HutS) (xp : HutS) (xr : HutS) (xw : HutS) (h0 : HutS) (h1 : HutS) (h2 : HutS) (h3 : HutS) (h4 : HutS) (p1 : Int32) (res : Int32) (h : fX6_count ke lnn tl xn p1 = some res) : gMI E l yX6_count wsX6_count ({ frames := 1, cells := 0, slots := 0, locals := 23 } : Room) [.ref g0, .int p1] (List.flatten [[(g0, .inr (6, [.ref (an 0), .ref (au 0), .ref (ap 0), .ref q0, .ref x0, .ref r0, .int ke]))], [(q0, .inr (0, [.ref q1, .int lnn]))], wHa E q1 ba pm, wTx E x0 x1 x2 ch tl nu le nx, [(r0, .inr (3, [.ref (ar 0), .ref (aw 0), .int cmd, .int pos, .int rea, .int cau]))], wHuT E an xn, wHuT E au xt, wHuT E ap xp, wHuT E ar xr, wHuT E aw xw, wHuT E (ba 0) h0, wHuT E (ba 1) h1, wHuT E (ba 2) h2, wHuT E (ba 3) h3, wHuT E (ba 4) h4]) (fun res : Int32 => (List.flatten [[(g0, .inr (6, [.ref (an 0), .ref (au 0), .ref (ap 0), .ref q0, .ref x0, .ref r0, .int ke]))], [(q0, .inr (0, [.ref q1, .int lnn]))], wHa E q1 ba pm, wTx E x0 x1 x2 ch tl nu le nx, [(r0, .inr (3, [.ref (ar 0), .ref (aw 0), .int cmd, .int pos, .int rea, .int cau]))], wHuT E an xn, wHuT E au xt, wHuT E ap xp, wHuT E ar xr, wHuT E aw xw, wHuT E (ba 0) h0, wHuT E (ba 1) h1, wHuT E (ba 2) h2, wHuT E (ba 3) h3, wHuT E (ba 4) h4])) (fun res => res) res := by
  refine g_entI (cc := cX6_count) (maxL := 2) (by decide) rfl (Nat.le_of_ble_eq_true rfl) ?_
  intro p e s m args below meth c A Q ls hx hb hml hown hts hK hP hD hS hA hG hret hl
  unfold fX6_count at h
  replace hl : lv_has ls 2 [(0, .ref g0), (1, .int p1)] := hl
  have hiX0 : ∀ w ∈ wsX00, w ∈ wsX6_count := by decide +kernel
  have hiX1 : ∀ w ∈ wsX10, w ∈ wsX6_count := by decide +kernel
  have hiX2 : ∀ w ∈ wsX20, w ∈ wsX6_count := by decide +kernel
  have hiX4 : ∀ w ∈ wsX40, w ∈ wsX6_count := by decide +kernel
  have hiX5 : ∀ w ∈ wsX50, w ∈ wsX6_count := by decide +kernel
  have hiX6 : ∀ w ∈ wsX60, w ∈ wsX6_count := by decide +kernel
  have hw0 := hts (.fieldLink RX6 10 "GlacierHut" "now" "LGlacierHut$Hut;") (by decide +kernel)
  have hw1 := hts (.fieldLink RX6 121 "GlacierHut$Hut" "parties" "LGlacierHut$Parties;") (by decide +kernel)
  have hw2 := hts (.fieldLink RX6 153 "GlacierHut$Parties" "number" "I") (by decide +kernel)
  have hw3 := hts (.fieldLink RX6 163 "GlacierHut$Hut" "day" "I") (by decide +kernel)
  have hw4 := hts (.fieldLink RX6 169 "GlacierHut$Hut" "flights" "I") (by decide +kernel)
  have hw5 := hts (.fieldLink RX6 89 "GlacierHut$Hut" "stores" "LGlacierHut$Stores;") (by decide +kernel)
  have hw6 := hts (.fieldLink RX6 172 "GlacierHut$Stores" "onPallet" "I") (by decide +kernel)
  have hw7 := hts (.fieldLink RX6 175 "GlacierHut$Hut" "hungry" "I") (by decide +kernel)
  have hw8 := hts (.fieldLink RX6 178 "GlacierHut$Hut" "coldNights" "I") (by decide +kernel)
  have hw9 := hts (.fieldLink RX6 181 "GlacierHut$Hut" "guestNights" "I") (by decide +kernel)
  have hw10 := hts (.fieldLink RX6 184 "GlacierHut$Hut" "cutSuppers" "I") (by decide +kernel)
  have hw11 := hts (.fieldLink RX6 25 "GlacierHut" "history" "LGlacierHut$History;") (by decide +kernel)
  have hw12 := hts (.fieldLink RX6 187 "GlacierHut$History" "length" "I") (by decide +kernel)
  have hw13 := hts (.fieldLink RX6 32 "GlacierHut" "text" "LGlacierHut$Text;") (by decide +kernel)
  have hw14 := hts (.fieldLink RX6 190 "GlacierHut$Text" "length" "I") (by decide +kernel)
  have hw15 := hts (.fieldLink RX6 43 "GlacierHut" "kept" "Z") (by decide +kernel)
  refine lv_iload_n hx hb dX6_count_0 rfl (lv_at hl 1 rfl) ?_
  by_cases hk1 : p1 = (0 : Int32)
  · replace h := g_it hk1 h
    refine lv_tableIn (tgt := 76) (off := 75) hx hb dX6_count_1 (by rw [hk1]; decide) (by rw [hk1]; decide) (by rw [hk1]; rfl) (by decide) ?_
    refine lv_aload_n hx hb dX6_count_76 rfl (lv_at hl 0 rfl) ?_
    refine va_get (D := E.1) (cl := vwCl) (ci := 6) (v := .ref (an 0)) (C := RX6) (T := TX6) (N := 7) hx hb hts hiX6 hown hK hP 0 rfl rfl 0 (by decide) hw0 (fun _ h9 => h9) rfl dX6_count_77 ?_
    refine va_get (D := E.1) (cl := vwCl) (ci := 1) (v := .ref (an 11)) (C := RX1) (T := TX1) (N := 10) hx hb hts hiX1 hown hK hP 7 rfl rfl 1 (by decide) hw1 (fun _ h9 => h9) rfl dX6_count_80 ?_
    refine va_get (D := E.1) (cl := vwCl) (ci := 2) (v := .int xn.2.2.2.2.2.2.2.2.2.2.2.2.2.2.2.2.2.1) (C := RX2) (T := TX2) (N := 7) hx hb hts hiX2 hown hK hP 18 rfl rfl 6 (by decide) hw2 (fun _ h9 => h9) rfl dX6_count_83 ?_
    exact hret xn.2.2.2.2.2.2.2.2.2.2.2.2.2.2.2.2.2.1 _ _ _ _ _ (Option.some.inj h) hP hS rfl dX6_count_86
  replace h := g_if hk1 h
  by_cases hk2 : p1 = (1 : Int32)
  · replace h := g_it hk2 h
    refine lv_tableIn (tgt := 87) (off := 86) hx hb dX6_count_1 (by rw [hk2]; decide) (by rw [hk2]; decide) (by rw [hk2]; rfl) (by decide) ?_
    refine lv_aload_n hx hb dX6_count_87 rfl (lv_at hl 0 rfl) ?_
    refine va_get (D := E.1) (cl := vwCl) (ci := 6) (v := .ref (an 0)) (C := RX6) (T := TX6) (N := 7) hx hb hts hiX6 hown hK hP 0 rfl rfl 0 (by decide) hw0 (fun _ h9 => h9) rfl dX6_count_88 ?_
    refine va_get (D := E.1) (cl := vwCl) (ci := 1) (v := .ref (an 11)) (C := RX1) (T := TX1) (N := 10) hx hb hts hiX1 hown hK hP 7 rfl rfl 1 (by decide) hw1 (fun _ h9 => h9) rfl dX6_count_91 ?_
    refine lv_iconst (v := (0 : Int32)) hx hb dX6_count_94 (by decide) ?_
    obtain ⟨r16, hc17, h⟩ := bd1_s h
    refine g_callRi (As := [.int (0 : Int32)]) (rest := []) (r := r16) ⟨hx, hb, hml, hown, hts⟩ (kX2_withStatus E l (an 11) (an 12) (an 13) (an 14) (an 15) (an 16) (an 17) xn.2.2.2.2.2.2.2.2.2.2.2.1 xn.2.2.2.2.2.2.2.2.2.2.2.2.1 xn.2.2.2.2.2.2.2.2.2.2.2.2.2.1 xn.2.2.2.2.2.2.2.2.2.2.2.2.2.2.1 xn.2.2.2.2.2.2.2.2.2.2.2.2.2.2.2.1 xn.2.2.2.2.2.2.2.2.2.2.2.2.2.2.2.2.1 xn.2.2.2.2.2.2.2.2.2.2.2.2.2.2.2.2.2.1 (0 : Int32) r16 hc17) (cwV 1 hts gX6_count_X2_withStatus rfl rfl rfl (by decide +kernel) ⟨Nat.le_of_ble_eq_true rfl, Nat.le_of_ble_eq_true rfl⟩) hK hP hD hS hA hG hl [18, 19, 20, 21, 22, 23, 24] 18 (by decide) rfl (ci := 2) rfl rfl rfl rfl rfl rfl rfl (Nat.le_of_ble_eq_true rfl) dX6_count_95 (Nat.zero_le _) (Nat.zero_le _) (fun H locs hP hD hS => ?_)
    exact hret r16 _ _ _ _ _ (Option.some.inj h) hP hS rfl dX6_count_98
  replace h := g_if hk2 h
  by_cases hk3 : p1 = (2 : Int32)
  · replace h := g_it hk3 h
    refine lv_tableIn (tgt := 99) (off := 98) hx hb dX6_count_1 (by rw [hk3]; decide) (by rw [hk3]; decide) (by rw [hk3]; rfl) (by decide) ?_
    refine lv_aload_n hx hb dX6_count_99 rfl (lv_at hl 0 rfl) ?_
    refine va_get (D := E.1) (cl := vwCl) (ci := 6) (v := .ref (an 0)) (C := RX6) (T := TX6) (N := 7) hx hb hts hiX6 hown hK hP 0 rfl rfl 0 (by decide) hw0 (fun _ h9 => h9) rfl dX6_count_100 ?_
    refine va_get (D := E.1) (cl := vwCl) (ci := 1) (v := .ref (an 11)) (C := RX1) (T := TX1) (N := 10) hx hb hts hiX1 hown hK hP 7 rfl rfl 1 (by decide) hw1 (fun _ h9 => h9) rfl dX6_count_103 ?_
    refine lv_iconst (v := (1 : Int32)) hx hb dX6_count_106 (by decide) ?_
    obtain ⟨r18, hc19, h⟩ := bd1_s h
    refine g_callRi (As := [.int (1 : Int32)]) (rest := []) (r := r18) ⟨hx, hb, hml, hown, hts⟩ (kX2_withStatus E l (an 11) (an 12) (an 13) (an 14) (an 15) (an 16) (an 17) xn.2.2.2.2.2.2.2.2.2.2.2.1 xn.2.2.2.2.2.2.2.2.2.2.2.2.1 xn.2.2.2.2.2.2.2.2.2.2.2.2.2.1 xn.2.2.2.2.2.2.2.2.2.2.2.2.2.2.1 xn.2.2.2.2.2.2.2.2.2.2.2.2.2.2.2.1 xn.2.2.2.2.2.2.2.2.2.2.2.2.2.2.2.2.1 xn.2.2.2.2.2.2.2.2.2.2.2.2.2.2.2.2.2.1 (1 : Int32) r18 hc19) (cwV 1 hts gX6_count_X2_withStatus rfl rfl rfl (by decide +kernel) ⟨Nat.le_of_ble_eq_true rfl, Nat.le_of_ble_eq_true rfl⟩) hK hP hD hS hA hG hl [18, 19, 20, 21, 22, 23, 24] 18 (by decide) rfl (ci := 2) rfl rfl rfl rfl rfl rfl rfl (Nat.le_of_ble_eq_true rfl) dX6_count_107 (Nat.zero_le _) (Nat.zero_le _) (fun H locs hP hD hS => ?_)
    exact hret r18 _ _ _ _ _ (Option.some.inj h) hP hS rfl dX6_count_110
  replace h := g_if hk3 h
  by_cases hk4 : p1 = (3 : Int32)
  · replace h := g_it hk4 h
    refine lv_tableIn (tgt := 111) (off := 110) hx hb dX6_count_1 (by rw [hk4]; decide) (by rw [hk4]; decide) (by rw [hk4]; rfl) (by decide) ?_
    refine lv_aload_n hx hb dX6_count_111 rfl (lv_at hl 0 rfl) ?_
    refine va_get (D := E.1) (cl := vwCl) (ci := 6) (v := .ref (an 0)) (C := RX6) (T := TX6) (N := 7) hx hb hts hiX6 hown hK hP 0 rfl rfl 0 (by decide) hw0 (fun _ h9 => h9) rfl dX6_count_112 ?_
    refine va_get (D := E.1) (cl := vwCl) (ci := 1) (v := .ref (an 11)) (C := RX1) (T := TX1) (N := 10) hx hb hts hiX1 hown hK hP 7 rfl rfl 1 (by decide) hw1 (fun _ h9 => h9) rfl dX6_count_115 ?_
    obtain ⟨r20, hc21, h⟩ := bd1_s h
    refine g_callRi (As := []) (rest := []) (r := r20) ⟨hx, hb, hml, hown, hts⟩ (kX2_guests E l (an 11) (an 12) (an 13) (an 14) (an 15) (an 16) (an 17) xn.2.2.2.2.2.2.2.2.2.2.2.1 xn.2.2.2.2.2.2.2.2.2.2.2.2.1 xn.2.2.2.2.2.2.2.2.2.2.2.2.2.1 xn.2.2.2.2.2.2.2.2.2.2.2.2.2.2.1 xn.2.2.2.2.2.2.2.2.2.2.2.2.2.2.2.1 xn.2.2.2.2.2.2.2.2.2.2.2.2.2.2.2.2.1 xn.2.2.2.2.2.2.2.2.2.2.2.2.2.2.2.2.2.1 r20 hc21) (cwV 0 hts gX6_count_X2_guests rfl rfl rfl (by decide +kernel) ⟨Nat.le_of_ble_eq_true rfl, Nat.le_of_ble_eq_true rfl⟩) hK hP hD hS hA hG hl [18, 19, 20, 21, 22, 23, 24] 18 (by decide) rfl (ci := 2) rfl rfl rfl rfl rfl rfl rfl (Nat.le_of_ble_eq_true rfl) dX6_count_118 (Nat.zero_le _) (Nat.zero_le _) (fun H locs hP hD hS => ?_)
    exact hret r20 _ _ _ _ _ (Option.some.inj h) hP hS rfl dX6_count_121
  replace h := g_if hk4 h
  by_cases hk5 : p1 = (4 : Int32)
  · replace h := g_it hk5 h
    refine lv_tableIn (tgt := 122) (off := 121) hx hb dX6_count_1 (by rw [hk5]; decide) (by rw [hk5]; decide) (by rw [hk5]; rfl) (by decide) ?_
    refine lv_aload_n hx hb dX6_count_122 rfl (lv_at hl 0 rfl) ?_
    refine va_get (D := E.1) (cl := vwCl) (ci := 6) (v := .ref (an 0)) (C := RX6) (T := TX6) (N := 7) hx hb hts hiX6 hown hK hP 0 rfl rfl 0 (by decide) hw0 (fun _ h9 => h9) rfl dX6_count_123 ?_
    refine va_get (D := E.1) (cl := vwCl) (ci := 1) (v := .int xn.2.2.2.2.2.2.2.2.2.2.2.2.2.2.2.2.2.2.2.2.1) (C := RX1) (T := TX1) (N := 10) hx hb hts hiX1 hown hK hP 7 rfl rfl 4 (by decide) hw3 (fun _ h9 => h9) rfl dX6_count_126 ?_
    exact hret xn.2.2.2.2.2.2.2.2.2.2.2.2.2.2.2.2.2.2.2.2.1 _ _ _ _ _ (Option.some.inj h) hP hS rfl dX6_count_129
  replace h := g_if hk5 h
  by_cases hk6 : p1 = (5 : Int32)
  · replace h := g_it hk6 h
    refine lv_tableIn (tgt := 130) (off := 129) hx hb dX6_count_1 (by rw [hk6]; decide) (by rw [hk6]; decide) (by rw [hk6]; rfl) (by decide) ?_
    refine lv_aload_n hx hb dX6_count_130 rfl (lv_at hl 0 rfl) ?_
    refine va_get (D := E.1) (cl := vwCl) (ci := 6) (v := .ref (an 0)) (C := RX6) (T := TX6) (N := 7) hx hb hts hiX6 hown hK hP 0 rfl rfl 0 (by decide) hw0 (fun _ h9 => h9) rfl dX6_count_131 ?_
    obtain ⟨r22, hc23, h⟩ := bd1_s h
    refine g_callRi (As := []) (rest := []) (r := r22) ⟨hx, hb, hml, hown, hts⟩ (kX1_isStorm E l (an 0) (an 1) (an 2) (an 3) (an 4) (an 5) (an 6) (an 7) (an 8) (an 9) (an 10) (an 11) (an 12) (an 13) (an 14) (an 15) (an 16) (an 17) (an 18) (an 19) xn.1 xn.2.1 xn.2.2.1 xn.2.2.2.1 xn.2.2.2.2.1 xn.2.2.2.2.2.1 xn.2.2.2.2.2.2.1 xn.2.2.2.2.2.2.2.1 xn.2.2.2.2.2.2.2.2.1 xn.2.2.2.2.2.2.2.2.2.1 xn.2.2.2.2.2.2.2.2.2.2.1 xn.2.2.2.2.2.2.2.2.2.2.2.1 xn.2.2.2.2.2.2.2.2.2.2.2.2.1 xn.2.2.2.2.2.2.2.2.2.2.2.2.2.1 xn.2.2.2.2.2.2.2.2.2.2.2.2.2.2.1 xn.2.2.2.2.2.2.2.2.2.2.2.2.2.2.2.1 xn.2.2.2.2.2.2.2.2.2.2.2.2.2.2.2.2.1 xn.2.2.2.2.2.2.2.2.2.2.2.2.2.2.2.2.2.1 xn.2.2.2.2.2.2.2.2.2.2.2.2.2.2.2.2.2.2.1 xn.2.2.2.2.2.2.2.2.2.2.2.2.2.2.2.2.2.2.2.1 xn.2.2.2.2.2.2.2.2.2.2.2.2.2.2.2.2.2.2.2.2.1 xn.2.2.2.2.2.2.2.2.2.2.2.2.2.2.2.2.2.2.2.2.2.1 xn.2.2.2.2.2.2.2.2.2.2.2.2.2.2.2.2.2.2.2.2.2.2.1 xn.2.2.2.2.2.2.2.2.2.2.2.2.2.2.2.2.2.2.2.2.2.2.2.1 xn.2.2.2.2.2.2.2.2.2.2.2.2.2.2.2.2.2.2.2.2.2.2.2.2.1 xn.2.2.2.2.2.2.2.2.2.2.2.2.2.2.2.2.2.2.2.2.2.2.2.2.2 r22 hc23) (cwV 0 hts gX6_count_X1_isStorm rfl rfl rfl (by decide +kernel) ⟨Nat.le_of_ble_eq_true rfl, Nat.le_of_ble_eq_true rfl⟩) hK hP hD hS hA hG hl [7, 8, 9, 10, 11, 12, 13, 14, 15, 16, 17, 18, 19, 20, 21, 22, 23, 24, 25, 26] 7 (by decide) rfl (ci := 1) rfl rfl rfl rfl rfl rfl rfl (Nat.le_of_ble_eq_true rfl) dX6_count_134 (Nat.zero_le _) (Nat.zero_le _) (fun H locs hP hD hS => ?_)
    refine lv_if_eq (tgt := 144) hx hb dX6_count_137 (by decide) (fun hc24 => ?_) (fun hc24 => ?_)
    · replace h := g_it hc24 h
      refine lv_iconst (v := (0 : Int32)) hx hb dX6_count_144 (by decide) ?_
      exact hret (0 : Int32) _ _ _ _ _ (Option.some.inj h) hP hS rfl dX6_count_145
    · replace h := g_if hc24 h
      refine lv_iconst (v := (1 : Int32)) hx hb dX6_count_140 (by decide) ?_
      refine lv_goto (tgt := 145) hx hb dX6_count_141 (by decide) ?_
      exact hret (1 : Int32) _ _ _ _ _ (Option.some.inj h) hP hS rfl dX6_count_145
  replace h := g_if hk6 h
  by_cases hk7 : p1 = (6 : Int32)
  · replace h := g_it hk7 h
    refine lv_tableIn (tgt := 146) (off := 145) hx hb dX6_count_1 (by rw [hk7]; decide) (by rw [hk7]; decide) (by rw [hk7]; rfl) (by decide) ?_
    refine lv_aload_n hx hb dX6_count_146 rfl (lv_at hl 0 rfl) ?_
    refine va_get (D := E.1) (cl := vwCl) (ci := 6) (v := .ref (an 0)) (C := RX6) (T := TX6) (N := 7) hx hb hts hiX6 hown hK hP 0 rfl rfl 0 (by decide) hw0 (fun _ h9 => h9) rfl dX6_count_147 ?_
    refine va_get (D := E.1) (cl := vwCl) (ci := 1) (v := .int xn.2.2.2.2.2.2.2.2.2.2.2.2.2.2.2.2.2.2.2.2.2.1) (C := RX1) (T := TX1) (N := 10) hx hb hts hiX1 hown hK hP 7 rfl rfl 5 (by decide) hw4 (fun _ h9 => h9) rfl dX6_count_150 ?_
    exact hret xn.2.2.2.2.2.2.2.2.2.2.2.2.2.2.2.2.2.2.2.2.2.1 _ _ _ _ _ (Option.some.inj h) hP hS rfl dX6_count_153
  replace h := g_if hk7 h
  by_cases hk8 : p1 = (7 : Int32)
  · replace h := g_it hk8 h
    refine lv_tableIn (tgt := 154) (off := 153) hx hb dX6_count_1 (by rw [hk8]; decide) (by rw [hk8]; decide) (by rw [hk8]; rfl) (by decide) ?_
    refine lv_aload_n hx hb dX6_count_154 rfl (lv_at hl 0 rfl) ?_
    refine va_get (D := E.1) (cl := vwCl) (ci := 6) (v := .ref (an 0)) (C := RX6) (T := TX6) (N := 7) hx hb hts hiX6 hown hK hP 0 rfl rfl 0 (by decide) hw0 (fun _ h9 => h9) rfl dX6_count_155 ?_
    refine va_get (D := E.1) (cl := vwCl) (ci := 1) (v := .ref (an 1)) (C := RX1) (T := TX1) (N := 10) hx hb hts hiX1 hown hK hP 7 rfl rfl 0 (by decide) hw5 (fun _ h9 => h9) rfl dX6_count_158 ?_
    refine va_get (D := E.1) (cl := vwCl) (ci := 4) (v := .int xn.2.2.2.2.2.2.2.1) (C := RX4) (T := TX4) (N := 11) hx hb hts hiX4 hown hK hP 8 rfl rfl 7 (by decide) hw6 (fun _ h9 => h9) rfl dX6_count_161 ?_
    exact hret xn.2.2.2.2.2.2.2.1 _ _ _ _ _ (Option.some.inj h) hP hS rfl dX6_count_164
  replace h := g_if hk8 h
  by_cases hk9 : p1 = (8 : Int32)
  · replace h := g_it hk9 h
    refine lv_tableIn (tgt := 165) (off := 164) hx hb dX6_count_1 (by rw [hk9]; decide) (by rw [hk9]; decide) (by rw [hk9]; rfl) (by decide) ?_
    refine lv_aload_n hx hb dX6_count_165 rfl (lv_at hl 0 rfl) ?_
    refine va_get (D := E.1) (cl := vwCl) (ci := 6) (v := .ref (an 0)) (C := RX6) (T := TX6) (N := 7) hx hb hts hiX6 hown hK hP 0 rfl rfl 0 (by decide) hw0 (fun _ h9 => h9) rfl dX6_count_166 ?_
    refine va_get (D := E.1) (cl := vwCl) (ci := 1) (v := .int xn.2.2.2.2.2.2.2.2.2.2.2.2.2.2.2.2.2.2.2.2.2.2.1) (C := RX1) (T := TX1) (N := 10) hx hb hts hiX1 hown hK hP 7 rfl rfl 6 (by decide) hw7 (fun _ h9 => h9) rfl dX6_count_169 ?_
    exact hret xn.2.2.2.2.2.2.2.2.2.2.2.2.2.2.2.2.2.2.2.2.2.2.1 _ _ _ _ _ (Option.some.inj h) hP hS rfl dX6_count_172
  replace h := g_if hk9 h
  by_cases hk10 : p1 = (9 : Int32)
  · replace h := g_it hk10 h
    refine lv_tableIn (tgt := 173) (off := 172) hx hb dX6_count_1 (by rw [hk10]; decide) (by rw [hk10]; decide) (by rw [hk10]; rfl) (by decide) ?_
    refine lv_aload_n hx hb dX6_count_173 rfl (lv_at hl 0 rfl) ?_
    refine va_get (D := E.1) (cl := vwCl) (ci := 6) (v := .ref (an 0)) (C := RX6) (T := TX6) (N := 7) hx hb hts hiX6 hown hK hP 0 rfl rfl 0 (by decide) hw0 (fun _ h9 => h9) rfl dX6_count_174 ?_
    refine va_get (D := E.1) (cl := vwCl) (ci := 1) (v := .int xn.2.2.2.2.2.2.2.2.2.2.2.2.2.2.2.2.2.2.2.2.2.2.2.1) (C := RX1) (T := TX1) (N := 10) hx hb hts hiX1 hown hK hP 7 rfl rfl 7 (by decide) hw8 (fun _ h9 => h9) rfl dX6_count_177 ?_
    exact hret xn.2.2.2.2.2.2.2.2.2.2.2.2.2.2.2.2.2.2.2.2.2.2.2.1 _ _ _ _ _ (Option.some.inj h) hP hS rfl dX6_count_180
  replace h := g_if hk10 h
  by_cases hk11 : p1 = (10 : Int32)
  · replace h := g_it hk11 h
    refine lv_tableIn (tgt := 181) (off := 180) hx hb dX6_count_1 (by rw [hk11]; decide) (by rw [hk11]; decide) (by rw [hk11]; rfl) (by decide) ?_
    refine lv_aload_n hx hb dX6_count_181 rfl (lv_at hl 0 rfl) ?_
    refine va_get (D := E.1) (cl := vwCl) (ci := 6) (v := .ref (an 0)) (C := RX6) (T := TX6) (N := 7) hx hb hts hiX6 hown hK hP 0 rfl rfl 0 (by decide) hw0 (fun _ h9 => h9) rfl dX6_count_182 ?_
    refine va_get (D := E.1) (cl := vwCl) (ci := 1) (v := .int xn.2.2.2.2.2.2.2.2.2.2.2.2.2.2.2.2.2.2.2.2.2.2.2.2.1) (C := RX1) (T := TX1) (N := 10) hx hb hts hiX1 hown hK hP 7 rfl rfl 8 (by decide) hw9 (fun _ h9 => h9) rfl dX6_count_185 ?_
    exact hret xn.2.2.2.2.2.2.2.2.2.2.2.2.2.2.2.2.2.2.2.2.2.2.2.2.1 _ _ _ _ _ (Option.some.inj h) hP hS rfl dX6_count_188
  replace h := g_if hk11 h
  by_cases hk12 : p1 = (11 : Int32)
  · replace h := g_it hk12 h
    refine lv_tableIn (tgt := 189) (off := 188) hx hb dX6_count_1 (by rw [hk12]; decide) (by rw [hk12]; decide) (by rw [hk12]; rfl) (by decide) ?_
    refine lv_aload_n hx hb dX6_count_189 rfl (lv_at hl 0 rfl) ?_
    refine va_get (D := E.1) (cl := vwCl) (ci := 6) (v := .ref (an 0)) (C := RX6) (T := TX6) (N := 7) hx hb hts hiX6 hown hK hP 0 rfl rfl 0 (by decide) hw0 (fun _ h9 => h9) rfl dX6_count_190 ?_
    refine va_get (D := E.1) (cl := vwCl) (ci := 1) (v := .int xn.2.2.2.2.2.2.2.2.2.2.2.2.2.2.2.2.2.2.2.2.2.2.2.2.2) (C := RX1) (T := TX1) (N := 10) hx hb hts hiX1 hown hK hP 7 rfl rfl 9 (by decide) hw10 (fun _ h9 => h9) rfl dX6_count_193 ?_
    exact hret xn.2.2.2.2.2.2.2.2.2.2.2.2.2.2.2.2.2.2.2.2.2.2.2.2.2 _ _ _ _ _ (Option.some.inj h) hP hS rfl dX6_count_196
  replace h := g_if hk12 h
  by_cases hk13 : p1 = (12 : Int32)
  · replace h := g_it hk13 h
    refine lv_tableIn (tgt := 197) (off := 196) hx hb dX6_count_1 (by rw [hk13]; decide) (by rw [hk13]; decide) (by rw [hk13]; rfl) (by decide) ?_
    refine lv_aload_n hx hb dX6_count_197 rfl (lv_at hl 0 rfl) ?_
    refine va_get (D := E.1) (cl := vwCl) (ci := 6) (v := .ref q0) (C := RX6) (T := TX6) (N := 7) hx hb hts hiX6 hown hK hP 0 rfl rfl 3 (by decide) hw11 (fun _ h9 => h9) rfl dX6_count_198 ?_
    refine va_get (D := E.1) (cl := vwCl) (ci := 0) (v := .int lnn) (C := RX0) (T := TX0) (N := 2) hx hb hts hiX0 hown hK hP 1 rfl rfl 1 (by decide) hw12 (fun _ h9 => h9) rfl dX6_count_201 ?_
    exact hret lnn _ _ _ _ _ (Option.some.inj h) hP hS rfl dX6_count_204
  replace h := g_if hk13 h
  by_cases hk14 : p1 = (13 : Int32)
  · replace h := g_it hk14 h
    refine lv_tableIn (tgt := 205) (off := 204) hx hb dX6_count_1 (by rw [hk14]; decide) (by rw [hk14]; decide) (by rw [hk14]; rfl) (by decide) ?_
    refine lv_aload_n hx hb dX6_count_205 rfl (lv_at hl 0 rfl) ?_
    refine va_get (D := E.1) (cl := vwCl) (ci := 6) (v := .ref x0) (C := RX6) (T := TX6) (N := 7) hx hb hts hiX6 hown hK hP 0 rfl rfl 4 (by decide) hw13 (fun _ h9 => h9) rfl dX6_count_206 ?_
    refine va_get (D := E.1) (cl := vwCl) (ci := 5) (v := .int tl) (C := RX5) (T := TX5) (N := 5) hx hb hts hiX5 hown hK hP 3 rfl rfl 1 (by decide) hw14 (fun _ h9 => h9) rfl dX6_count_209 ?_
    exact hret tl _ _ _ _ _ (Option.some.inj h) hP hS rfl dX6_count_212
  replace h := g_if hk14 h
  by_cases hk15 : p1 = (14 : Int32)
  · replace h := g_it hk15 h
    refine lv_tableIn (tgt := 213) (off := 212) hx hb dX6_count_1 (by rw [hk15]; decide) (by rw [hk15]; decide) (by rw [hk15]; rfl) (by decide) ?_
    refine lv_aload_n hx hb dX6_count_213 rfl (lv_at hl 0 rfl) ?_
    refine va_get (D := E.1) (cl := vwCl) (ci := 6) (v := .int ke) (C := RX6) (T := TX6) (N := 7) hx hb hts hiX6 hown hK hP 0 rfl rfl 6 (by decide) hw15 (fun _ h9 => h9) rfl dX6_count_214 ?_
    refine lv_if_eq (tgt := 224) hx hb dX6_count_217 (by decide) (fun hc25 => ?_) (fun hc25 => ?_)
    · replace h := g_it hc25 h
      refine lv_iconst (v := (0 : Int32)) hx hb dX6_count_224 (by decide) ?_
      exact hret (0 : Int32) _ _ _ _ _ (Option.some.inj h) hP hS rfl dX6_count_225
    · replace h := g_if hc25 h
      refine lv_iconst (v := (1 : Int32)) hx hb dX6_count_220 (by decide) ?_
      refine lv_goto (tgt := 225) hx hb dX6_count_221 (by decide) ?_
      exact hret (1 : Int32) _ _ _ _ _ (Option.some.inj h) hP hS rfl dX6_count_225
  replace h := g_if hk15 h
  refine lv_tableOut (tgt := 226) hx hb dX6_count_1 (by have q0 := lv_neT (a := 0) hk1 (by decide); have q1 := lv_neT (a := 1) hk2 (by decide); have q2 := lv_neT (a := 2) hk3 (by decide); have q3 := lv_neT (a := 3) hk4 (by decide); have q4 := lv_neT (a := 4) hk5 (by decide); have q5 := lv_neT (a := 5) hk6 (by decide); have q6 := lv_neT (a := 6) hk7 (by decide); have q7 := lv_neT (a := 7) hk8 (by decide); have q8 := lv_neT (a := 8) hk9 (by decide); have q9 := lv_neT (a := 9) hk10 (by decide); have q10 := lv_neT (a := 10) hk11 (by decide); have q11 := lv_neT (a := 11) hk12 (by decide); have q12 := lv_neT (a := 12) hk13 (by decide); have q13 := lv_neT (a := 13) hk14 (by decide); have q14 := lv_neT (a := 14) hk15 (by decide); omega) (by decide) ?_
  refine lv_aload_n hx hb dX6_count_226 rfl (lv_at hl 0 rfl) ?_
  refine va_get (D := E.1) (cl := vwCl) (ci := 6) (v := .ref (an 0)) (C := RX6) (T := TX6) (N := 7) hx hb hts hiX6 hown hK hP 0 rfl rfl 0 (by decide) hw0 (fun _ h9 => h9) rfl dX6_count_227 ?_
  refine lv_iload_n hx hb dX6_count_230 rfl (lv_at hl 1 rfl) ?_
  refine lv_bipush (v := (20 : Int32)) hx hb dX6_count_231 (by decide) ?_
  refine lv_isub hx hb dX6_count_233 ?_
  obtain ⟨r26, hc27, h⟩ := bd1_s h
  refine g_callRi (As := [.int (p1 - (20 : Int32))]) (rest := []) (r := r26) ⟨hx, hb, hml, hown, hts⟩ (kX1_settingAt E l (an 0) (an 1) (an 2) (an 3) (an 4) (an 5) (an 6) (an 7) (an 8) (an 9) (an 10) (an 11) (an 12) (an 13) (an 14) (an 15) (an 16) (an 17) (an 18) (an 19) xn.1 xn.2.1 xn.2.2.1 xn.2.2.2.1 xn.2.2.2.2.1 xn.2.2.2.2.2.1 xn.2.2.2.2.2.2.1 xn.2.2.2.2.2.2.2.1 xn.2.2.2.2.2.2.2.2.1 xn.2.2.2.2.2.2.2.2.2.1 xn.2.2.2.2.2.2.2.2.2.2.1 xn.2.2.2.2.2.2.2.2.2.2.2.1 xn.2.2.2.2.2.2.2.2.2.2.2.2.1 xn.2.2.2.2.2.2.2.2.2.2.2.2.2.1 xn.2.2.2.2.2.2.2.2.2.2.2.2.2.2.1 xn.2.2.2.2.2.2.2.2.2.2.2.2.2.2.2.1 xn.2.2.2.2.2.2.2.2.2.2.2.2.2.2.2.2.1 xn.2.2.2.2.2.2.2.2.2.2.2.2.2.2.2.2.2.1 xn.2.2.2.2.2.2.2.2.2.2.2.2.2.2.2.2.2.2.1 xn.2.2.2.2.2.2.2.2.2.2.2.2.2.2.2.2.2.2.2.1 xn.2.2.2.2.2.2.2.2.2.2.2.2.2.2.2.2.2.2.2.2.1 xn.2.2.2.2.2.2.2.2.2.2.2.2.2.2.2.2.2.2.2.2.2.1 xn.2.2.2.2.2.2.2.2.2.2.2.2.2.2.2.2.2.2.2.2.2.2.1 xn.2.2.2.2.2.2.2.2.2.2.2.2.2.2.2.2.2.2.2.2.2.2.2.1 xn.2.2.2.2.2.2.2.2.2.2.2.2.2.2.2.2.2.2.2.2.2.2.2.2.1 xn.2.2.2.2.2.2.2.2.2.2.2.2.2.2.2.2.2.2.2.2.2.2.2.2.2 (p1 - (20 : Int32)) r26 hc27) (cwV 1 hts gX6_count_X1_settingAt rfl rfl rfl (by decide +kernel) ⟨Nat.le_of_ble_eq_true rfl, Nat.le_of_ble_eq_true rfl⟩) hK hP hD hS hA hG hl [7, 8, 9, 10, 11, 12, 13, 14, 15, 16, 17, 18, 19, 20, 21, 22, 23, 24, 25, 26] 7 (by decide) rfl (ci := 1) rfl rfl rfl rfl rfl rfl rfl (Nat.le_of_ble_eq_true rfl) dX6_count_234 (Nat.zero_le _) (Nat.zero_le _) (fun H locs hP hD hS => ?_)
  exact hret r26 _ _ _ _ _ (Option.some.inj h) hP hS rfl dX6_count_237
set_option maxHeartbeats 4000000 in
set_option maxRecDepth 100000 in
theorem kX6_fault (E : gE) (l : Launch) (g0 q0 q1 x0 x1 x2 r0 : Nat) (an au ap ar aw : Nat → Nat) (ba : Nat → Nat → Nat) (ke : Int32) (lnn : Int32) (pm : Nat → Nat) (ch : Nat → Int32) (tl : Int32) (nu : Nat → Int32) (le : Int32) (nx : Int32) (cmd : Int32) (pos : Int32) (rea : Int32) (cau : Int32) (xn : HutS) (xt : HutS) (xp : HutS) (xr : HutS) (xw : HutS) (h0 : HutS) (h1 : HutS) (h2 : HutS) (h3 : HutS) (h4 : HutS) (p1 : Int32) (res : Int32 × (Nat → Int32) × Int32 × Int32 × Int32 × Int32 × Int32 × Int32 × HutS × HutS) (h : fX6_fault ch tl nu le nx cmd pos rea cau xn xr xw p1 = some res) : gMI E l yX6_fault wsX6_fault ({ frames := 6, cells := 0, slots := 0, locals := 148 } : Room) [.ref g0, .int p1] (List.flatten [[(g0, .inr (6, [.ref (an 0), .ref (au 0), .ref (ap 0), .ref q0, .ref x0, .ref r0, .int ke]))], [(q0, .inr (0, [.ref q1, .int lnn]))], wHa E q1 ba pm, wTx E x0 x1 x2 ch tl nu le nx, [(r0, .inr (3, [.ref (ar 0), .ref (aw 0), .int cmd, .int pos, .int rea, .int cau]))], wHuT E an xn, wHuT E au xt, wHuT E ap xp, wHuT E ar xr, wHuT E aw xw, wHuT E (ba 0) h0, wHuT E (ba 1) h1, wHuT E (ba 2) h2, wHuT E (ba 3) h3, wHuT E (ba 4) h4]) (fun res : Int32 × (Nat → Int32) × Int32 × Int32 × Int32 × Int32 × Int32 × Int32 × HutS × HutS => (List.flatten [[(g0, .inr (6, [.ref (an 0), .ref (au 0), .ref (ap 0), .ref q0, .ref x0, .ref r0, .int ke]))], [(q0, .inr (0, [.ref q1, .int lnn]))], wHa E q1 ba pm, wTx E x0 x1 x2 ch tl res.2.1 res.2.2.1 res.2.2.2.1, [(r0, .inr (3, [.ref (ar 0), .ref (aw 0), .int res.2.2.2.2.1, .int res.2.2.2.2.2.1, .int res.2.2.2.2.2.2.1, .int res.2.2.2.2.2.2.2.1]))], wHuT E an xn, wHuT E au xt, wHuT E ap xp, wHuT E ar res.2.2.2.2.2.2.2.2.1, wHuT E aw res.2.2.2.2.2.2.2.2.2, wHuT E (ba 0) h0, wHuT E (ba 1) h1, wHuT E (ba 2) h2, wHuT E (ba 3) h3, wHuT E (ba 4) h4])) (fun res => res.1) res := by
  refine g_entI (cc := cX6_fault) (maxL := 2) (by decide) rfl (Nat.le_of_ble_eq_true rfl) ?_
  intro p e s m args below meth c A Q ls hx hb hml hown hts hK hP hD hS hA hG hret hl
  unfold fX6_fault at h
  replace hl : lv_has ls 2 [(0, .ref g0), (1, .int p1)] := hl
  have hiX3 : ∀ w ∈ wsX30, w ∈ wsX6_fault := by decide +kernel
  have hiX6 : ∀ w ∈ wsX60, w ∈ wsX6_fault := by decide +kernel
  have hw0 := hts (.fieldLink RX6 39 "GlacierHut" "rehearsal" "LGlacierHut$Rehearsal;") (by decide +kernel)
  have hw1 := hts (.fieldLink RX6 32 "GlacierHut" "text" "LGlacierHut$Text;") (by decide +kernel)
  have hw2 := hts (.fieldLink RX6 10 "GlacierHut" "now" "LGlacierHut$Hut;") (by decide +kernel)
  have hw3 := hts (.fieldLink RX6 224 "GlacierHut$Rehearsal" "reason" "I") (by decide +kernel)
  have hw4 := hts (.fieldLink RX6 230 "GlacierHut$Rehearsal" "cause" "I") (by decide +kernel)
  have hw5 := hts (.fieldLink RX6 227 "GlacierHut$Rehearsal" "position" "I") (by decide +kernel)
  refine lv_iload_n hx hb dX6_fault_0 rfl (lv_at hl 1 rfl) ?_
  refine lv_if_lt (tgt := 9) hx hb dX6_fault_1 (by decide) (fun hc1 => ?_) (fun hc1 => ?_)
  · replace h := g_it hc1 h
    refine lv_iconst (v := (-1 : Int32)) hx hb dX6_fault_9 (by decide) ?_
    exact hret ((-1 : Int32), nu, le, nx, cmd, pos, rea, cau, xr, xw) _ _ _ _ _ (Option.some.inj h) hP hS rfl dX6_fault_10
  · replace h := g_if hc1 h
    refine lv_iload_n hx hb dX6_fault_4 rfl (lv_at hl 1 rfl) ?_
    refine lv_iconst (v := (2 : Int32)) hx hb dX6_fault_5 (by decide) ?_
    refine lv_icmp_le (tgt := 11) hx hb dX6_fault_6 (by decide) (fun hc2 => ?_) (fun hc2 => ?_)
    · replace h := g_it hc2 h
      refine lv_aload_n hx hb dX6_fault_11 rfl (lv_at hl 0 rfl) ?_
      refine va_get (D := E.1) (cl := vwCl) (ci := 6) (v := .ref r0) (C := RX6) (T := TX6) (N := 7) hx hb hts hiX6 hown hK hP 0 rfl rfl 5 (by decide) hw0 (fun _ h9 => h9) rfl dX6_fault_12 ?_
      refine lv_aload_n hx hb dX6_fault_15 rfl (lv_at hl 0 rfl) ?_
      refine va_get (D := E.1) (cl := vwCl) (ci := 6) (v := .ref x0) (C := RX6) (T := TX6) (N := 7) hx hb hts hiX6 hown hK hP 0 rfl rfl 4 (by decide) hw1 (fun _ h9 => h9) rfl dX6_fault_16 ?_
      refine lv_aload_n hx hb dX6_fault_19 rfl (lv_at hl 0 rfl) ?_
      refine va_get (D := E.1) (cl := vwCl) (ci := 6) (v := .ref (an 0)) (C := RX6) (T := TX6) (N := 7) hx hb hts hiX6 hown hK hP 0 rfl rfl 0 (by decide) hw2 (fun _ h9 => h9) rfl dX6_fault_20 ?_
      obtain ⟨cmd_4, pos_6, rea_8, cau_10, xr_12, xw_14, nu_16, le_18, nx_20, hc21, h⟩ := bd9_s h
      refine g_callBv (As := [.ref x0, .ref (an 0)]) (rest := []) (bs1 := [[(g0, .inr (6, [.ref (an 0), .ref (au 0), .ref (ap 0), .ref q0, .ref x0, .ref r0, .int ke]))], [(q0, .inr (0, [.ref q1, .int lnn]))], wHa E q1 ba pm, wTx E x0 x1 x2 ch tl nu_16 le_18 nx_20, [(r0, .inr (3, [.ref (ar 0), .ref (aw 0), .int cmd_4, .int pos_6, .int rea_8, .int cau_10]))], wHuT E an xn, wHuT E au xt, wHuT E ap xp, wHuT E ar xr_12, wHuT E aw xw_14, wHuT E (ba 0) h0, wHuT E (ba 1) h1, wHuT E (ba 2) h2, wHuT E (ba 3) h3, wHuT E (ba 4) h4]) ⟨hx, hb, hml, hown, hts⟩ (kX3_run E l x0 x1 x2 r0 an ar aw cmd pos rea cau xr xw ch tl nu le nx xn (cmd_4, pos_6, rea_8, cau_10, xr_12, xw_14, nu_16, le_18, nx_20) hc21) (cwV 2 hts gX6_fault_X3_run rfl rfl rfl (by decide +kernel) ⟨Nat.le_of_ble_eq_true rfl, Nat.le_of_ble_eq_true rfl⟩) hK hP hD hS hA hG hl [4, 8, 9, 3, 5] 4 0 (by decide) rfl (ci := 3) rfl rfl rfl rfl rfl rfl rfl rfl rfl (Nat.le_of_ble_eq_true rfl) dX6_fault_23 (Nat.zero_le _) (Nat.zero_le _) (fun H locs hP hD hS => ?_)
      refine lv_aload_n hx hb dX6_fault_26 rfl (lv_at hl 0 rfl) ?_
      refine va_get (D := E.1) (cl := vwCl) (ci := 6) (v := .ref r0) (C := RX6) (T := TX6) (N := 7) hx hb hts hiX6 hown hK hP 0 rfl rfl 5 (by decide) hw0 (fun _ h9 => h9) rfl dX6_fault_27 ?_
      refine va_get (D := E.1) (cl := vwCl) (ci := 3) (v := .int rea_8) (C := RX3) (T := TX3) (N := 6) hx hb hts hiX3 hown hK hP 6 rfl rfl 4 (by decide) hw3 (fun _ h9 => h9) rfl dX6_fault_30 ?_
      refine lv_if_ne (tgt := 39) hx hb dX6_fault_33 (by decide) (fun hc22 => ?_) (fun hc22 => ?_)
      · replace h := g_if hc22 h
        refine lv_iload_n hx hb dX6_fault_39 rfl (lv_at hl 1 rfl) ?_
        refine lv_if_ne (tgt := 51) hx hb dX6_fault_40 (by decide) (fun hc23 => ?_) (fun hc23 => ?_)
        · replace h := g_if hc23 h
          refine lv_iload_n hx hb dX6_fault_51 rfl (lv_at hl 1 rfl) ?_
          refine lv_iconst (v := (1 : Int32)) hx hb dX6_fault_52 (by decide) ?_
          refine lv_icmp_ne (tgt := 64) hx hb dX6_fault_53 (by decide) (fun hc24 => ?_) (fun hc24 => ?_)
          · replace h := g_if hc24 h
            refine lv_aload_n hx hb dX6_fault_64 rfl (lv_at hl 0 rfl) ?_
            refine va_get (D := E.1) (cl := vwCl) (ci := 6) (v := .ref r0) (C := RX6) (T := TX6) (N := 7) hx hb hts hiX6 hown hK hP 0 rfl rfl 5 (by decide) hw0 (fun _ h9 => h9) rfl dX6_fault_65 ?_
            refine va_get (D := E.1) (cl := vwCl) (ci := 3) (v := .int rea_8) (C := RX3) (T := TX3) (N := 6) hx hb hts hiX3 hown hK hP 6 rfl rfl 4 (by decide) hw3 (fun _ h9 => h9) rfl dX6_fault_68 ?_
            refine lv_iconst (v := (1 : Int32)) hx hb dX6_fault_71 (by decide) ?_
            refine lv_icmp_ne (tgt := 80) hx hb dX6_fault_72 (by decide) (fun hc25 => ?_) (fun hc25 => ?_)
            · replace h := g_if hc25 h
              refine lv_aload_n hx hb dX6_fault_80 rfl (lv_at hl 0 rfl) ?_
              refine va_get (D := E.1) (cl := vwCl) (ci := 6) (v := .ref r0) (C := RX6) (T := TX6) (N := 7) hx hb hts hiX6 hown hK hP 0 rfl rfl 5 (by decide) hw0 (fun _ h9 => h9) rfl dX6_fault_81 ?_
              refine va_get (D := E.1) (cl := vwCl) (ci := 3) (v := .int cau_10) (C := RX3) (T := TX3) (N := 6) hx hb hts hiX3 hown hK hP 6 rfl rfl 5 (by decide) hw4 (fun _ h9 => h9) rfl dX6_fault_84 ?_
              exact hret (cau_10, nu_16, le_18, nx_20, cmd_4, pos_6, rea_8, cau_10, xr_12, xw_14) _ _ _ _ _ (Option.some.inj h) hP hS rfl dX6_fault_87
            · replace h := g_it hc25 h
              refine lv_bipush (v := (-4 : Int32)) hx hb dX6_fault_75 (by decide) ?_
              refine lv_goto (tgt := 87) hx hb dX6_fault_77 (by decide) ?_
              exact hret ((-4 : Int32), nu_16, le_18, nx_20, cmd_4, pos_6, rea_8, cau_10, xr_12, xw_14) _ _ _ _ _ (Option.some.inj h) hP hS rfl dX6_fault_87
          · replace h := g_it hc24 h
            refine lv_aload_n hx hb dX6_fault_56 rfl (lv_at hl 0 rfl) ?_
            refine va_get (D := E.1) (cl := vwCl) (ci := 6) (v := .ref r0) (C := RX6) (T := TX6) (N := 7) hx hb hts hiX6 hown hK hP 0 rfl rfl 5 (by decide) hw0 (fun _ h9 => h9) rfl dX6_fault_57 ?_
            refine va_get (D := E.1) (cl := vwCl) (ci := 3) (v := .int rea_8) (C := RX3) (T := TX3) (N := 6) hx hb hts hiX3 hown hK hP 6 rfl rfl 4 (by decide) hw3 (fun _ h9 => h9) rfl dX6_fault_60 ?_
            exact hret (rea_8, nu_16, le_18, nx_20, cmd_4, pos_6, rea_8, cau_10, xr_12, xw_14) _ _ _ _ _ (Option.some.inj h) hP hS rfl dX6_fault_63
        · replace h := g_it hc23 h
          refine lv_aload_n hx hb dX6_fault_43 rfl (lv_at hl 0 rfl) ?_
          refine va_get (D := E.1) (cl := vwCl) (ci := 6) (v := .ref r0) (C := RX6) (T := TX6) (N := 7) hx hb hts hiX6 hown hK hP 0 rfl rfl 5 (by decide) hw0 (fun _ h9 => h9) rfl dX6_fault_44 ?_
          refine va_get (D := E.1) (cl := vwCl) (ci := 3) (v := .int pos_6) (C := RX3) (T := TX3) (N := 6) hx hb hts hiX3 hown hK hP 6 rfl rfl 3 (by decide) hw5 (fun _ h9 => h9) rfl dX6_fault_47 ?_
          exact hret (pos_6, nu_16, le_18, nx_20, cmd_4, pos_6, rea_8, cau_10, xr_12, xw_14) _ _ _ _ _ (Option.some.inj h) hP hS rfl dX6_fault_50
      · replace h := g_it hc22 h
        refine lv_bipush (v := (-4 : Int32)) hx hb dX6_fault_36 (by decide) ?_
        exact hret ((-4 : Int32), nu_16, le_18, nx_20, cmd_4, pos_6, rea_8, cau_10, xr_12, xw_14) _ _ _ _ _ (Option.some.inj h) hP hS rfl dX6_fault_38
    · replace h := g_if hc2 h
      refine lv_iconst (v := (-1 : Int32)) hx hb dX6_fault_9 (by decide) ?_
      exact hret ((-1 : Int32), nu, le, nx, cmd, pos, rea, cau, xr, xw) _ _ _ _ _ (Option.some.inj h) hP hS rfl dX6_fault_10
set_option maxHeartbeats 4000000 in
set_option maxRecDepth 100000 in
theorem kX6_fly (E : gE) (l : Launch) (g0 q0 q1 x0 x1 x2 r0 : Nat) (an au ap ar aw : Nat → Nat) (ba : Nat → Nat → Nat) (ke : Int32) (lnn : Int32) (pm : Nat → Nat) (ch : Nat → Int32) (tl : Int32) (nu : Nat → Int32) (le : Int32) (nx : Int32) (cmd : Int32) (pos : Int32) (rea : Int32) (cau : Int32) (xn : HutS) (xt : HutS) (xp : HutS) (xr : HutS) (xw : HutS) (h0 : HutS) (h1 : HutS) (h2 : HutS) (h3 : HutS) (h4 : HutS)  (res : Int32 × Int32 × (Nat → Nat) × HutS × HutS × HutS × HutS × HutS × HutS) (h : fX6_fly lnn pm xn h0 h1 h2 h3 h4  = some res) : gMI E l yX6_fly wsX6_fly ({ frames := 4, cells := 0, slots := 0, locals := 87 } : Room) [.ref g0] (List.flatten [[(g0, .inr (6, [.ref (an 0), .ref (au 0), .ref (ap 0), .ref q0, .ref x0, .ref r0, .int ke]))], [(q0, .inr (0, [.ref q1, .int lnn]))], wHa E q1 ba pm, wTx E x0 x1 x2 ch tl nu le nx, [(r0, .inr (3, [.ref (ar 0), .ref (aw 0), .int cmd, .int pos, .int rea, .int cau]))], wHuT E an xn, wHuT E au xt, wHuT E ap xp, wHuT E ar xr, wHuT E aw xw, wHuT E (ba 0) h0, wHuT E (ba 1) h1, wHuT E (ba 2) h2, wHuT E (ba 3) h3, wHuT E (ba 4) h4]) (fun res : Int32 × Int32 × (Nat → Nat) × HutS × HutS × HutS × HutS × HutS × HutS => (List.flatten [[(g0, .inr (6, [.ref (an 0), .ref (au 0), .ref (ap 0), .ref q0, .ref x0, .ref r0, .int ke]))], [(q0, .inr (0, [.ref q1, .int res.2.1]))], wHa E q1 ba res.2.2.1, wTx E x0 x1 x2 ch tl nu le nx, [(r0, .inr (3, [.ref (ar 0), .ref (aw 0), .int cmd, .int pos, .int rea, .int cau]))], wHuT E an res.2.2.2.1, wHuT E au xt, wHuT E ap xp, wHuT E ar xr, wHuT E aw xw, wHuT E (ba 0) res.2.2.2.2.1, wHuT E (ba 1) res.2.2.2.2.2.1, wHuT E (ba 2) res.2.2.2.2.2.2.1, wHuT E (ba 3) res.2.2.2.2.2.2.2.1, wHuT E (ba 4) res.2.2.2.2.2.2.2.2])) (fun res => res.1) res := by
  refine g_entI (cc := cX6_fly) (maxL := 1) (by decide) rfl (Nat.le_of_ble_eq_true rfl) ?_
  intro p e s m args below meth c A Q ls hx hb hml hown hts hK hP hD hS hA hG hret hl
  unfold fX6_fly at h
  replace hl : lv_has ls 1 [(0, .ref g0)] := hl
  have hiX6 : ∀ w ∈ wsX60, w ∈ wsX6_fly := by decide +kernel
  have hw0 := hts (.fieldLink RX6 25 "GlacierHut" "history" "LGlacierHut$History;") (by decide +kernel)
  have hw1 := hts (.fieldLink RX6 10 "GlacierHut" "now" "LGlacierHut$Hut;") (by decide +kernel)
  refine lv_aload_n hx hb dX6_fly_0 rfl (lv_at hl 0 rfl) ?_
  refine va_get (D := E.1) (cl := vwCl) (ci := 6) (v := .ref q0) (C := RX6) (T := TX6) (N := 7) hx hb hts hiX6 hown hK hP 0 rfl rfl 3 (by decide) hw0 (fun _ h9 => h9) rfl dX6_fly_1 ?_
  refine lv_aload_n hx hb dX6_fly_4 rfl (lv_at hl 0 rfl) ?_
  refine va_get (D := E.1) (cl := vwCl) (ci := 6) (v := .ref (an 0)) (C := RX6) (T := TX6) (N := 7) hx hb hts hiX6 hown hK hP 0 rfl rfl 0 (by decide) hw1 (fun _ h9 => h9) rfl dX6_fly_5 ?_
  obtain ⟨h0_2, h1_4, h2_6, h3_8, h4_10, hc11, h⟩ := bd5_s h
  refine g_callBv (As := [.ref (an 0)]) (rest := []) (bs1 := [[(g0, .inr (6, [.ref (an 0), .ref (au 0), .ref (ap 0), .ref q0, .ref x0, .ref r0, .int ke]))], [(q0, .inr (0, [.ref q1, .int lnn]))], wHa E q1 ba pm, wTx E x0 x1 x2 ch tl nu le nx, [(r0, .inr (3, [.ref (ar 0), .ref (aw 0), .int cmd, .int pos, .int rea, .int cau]))], wHuT E an xn, wHuT E au xt, wHuT E ap xp, wHuT E ar xr, wHuT E aw xw, wHuT E (ba 0) h0_2, wHuT E (ba 1) h1_4, wHuT E (ba 2) h2_6, wHuT E (ba 3) h3_8, wHuT E (ba 4) h4_10]) ⟨hx, hb, hml, hown, hts⟩ (kX0_prepare E l q0 q1 an ba lnn pm h0 h1 h2 h3 h4 xn (h0_2, h1_4, h2_6, h3_8, h4_10) hc11) (cwV 1 hts gX6_fly_X0_prepare rfl rfl rfl (by decide +kernel) ⟨Nat.le_of_ble_eq_true rfl, Nat.le_of_ble_eq_true rfl⟩) hK hP hD hS hA hG hl [1, 2, 10, 11, 12, 13, 14, 5] 1 0 (by decide) rfl (ci := 0) rfl rfl rfl rfl rfl rfl rfl rfl rfl (Nat.le_of_ble_eq_true rfl) dX6_fly_8 (Nat.zero_le _) (Nat.zero_le _) (fun H locs hP hD hS => ?_)
  refine lv_aload_n hx hb dX6_fly_11 rfl (lv_at hl 0 rfl) ?_
  refine lv_aload_n hx hb dX6_fly_12 rfl (lv_at hl 0 rfl) ?_
  refine va_get (D := E.1) (cl := vwCl) (ci := 6) (v := .ref (an 0)) (C := RX6) (T := TX6) (N := 7) hx hb hts hiX6 hown hK hP 0 rfl rfl 0 (by decide) hw1 (fun _ h9 => h9) rfl dX6_fly_13 ?_
  obtain ⟨r12, xn_14, hc15, h⟩ := bd2_s h
  refine g_callBi (As := []) (rest := [.ref g0]) (r := r12) (bs1 := [[(g0, .inr (6, [.ref (an 0), .ref (au 0), .ref (ap 0), .ref q0, .ref x0, .ref r0, .int ke]))], [(q0, .inr (0, [.ref q1, .int lnn]))], wHa E q1 ba pm, wTx E x0 x1 x2 ch tl nu le nx, [(r0, .inr (3, [.ref (ar 0), .ref (aw 0), .int cmd, .int pos, .int rea, .int cau]))], wHuT E an xn_14, wHuT E au xt, wHuT E ap xp, wHuT E ar xr, wHuT E aw xw, wHuT E (ba 0) h0_2, wHuT E (ba 1) h1_4, wHuT E (ba 2) h2_6, wHuT E (ba 3) h3_8, wHuT E (ba 4) h4_10]) ⟨hx, hb, hml, hown, hts⟩ (kgX1_bringPallet E l an xn (r12, xn_14) hc15) (cwV 0 hts gX6_fly_X1_bringPallet rfl rfl rfl (by decide +kernel) ⟨Nat.le_of_ble_eq_true rfl, Nat.le_of_ble_eq_true rfl⟩) hK hP hD hS hA hG hl [5] 5 0 (by decide) rfl (ci := 1) rfl rfl rfl rfl rfl rfl rfl rfl rfl rfl (Nat.le_of_ble_eq_true rfl) dX6_fly_16 (Nat.zero_le _) (Nat.zero_le _) (fun H locs hP hD hS => ?_)
  obtain ⟨r16, lnn_18, pm_20, hc21, h⟩ := bd3_s h
  refine g_callBi (As := [.int r12]) (rest := []) (r := r16) (bs1 := [[(g0, .inr (6, [.ref (an 0), .ref (au 0), .ref (ap 0), .ref q0, .ref x0, .ref r0, .int ke]))], [(q0, .inr (0, [.ref q1, .int lnn_18]))], wHa E q1 ba pm_20, wTx E x0 x1 x2 ch tl nu le nx, [(r0, .inr (3, [.ref (ar 0), .ref (aw 0), .int cmd, .int pos, .int rea, .int cau]))], wHuT E an xn_14, wHuT E au xt, wHuT E ap xp, wHuT E ar xr, wHuT E aw xw, wHuT E (ba 0) h0_2, wHuT E (ba 1) h1_4, wHuT E (ba 2) h2_6, wHuT E (ba 3) h3_8, wHuT E (ba 4) h4_10]) ⟨hx, hb, hml, hown, hts⟩ (kX6_recorded E l g0 q0 q1 x0 r0 an au ap ba ke lnn pm h0_2 h1_4 h2_6 h3_8 h4_10 r12 (r16, lnn_18, pm_20) hc21) (cwV 1 hts gX6_fly_X6_recorded rfl rfl rfl (by decide +kernel) ⟨Nat.le_of_ble_eq_true rfl, Nat.le_of_ble_eq_true rfl⟩) hK hP hD hS hA hG hl [0, 1, 2, 10, 11, 12, 13, 14] 0 0 (by decide) rfl (ci := 6) rfl rfl rfl rfl rfl rfl rfl rfl rfl rfl (Nat.le_of_ble_eq_true rfl) dX6_fly_19 (Nat.zero_le _) (Nat.zero_le _) (fun H locs hP hD hS => ?_)
  exact hret (r16, lnn_18, pm_20, xn_14, h0_2, h1_4, h2_6, h3_8, h4_10) _ _ _ _ _ (Option.some.inj h) hP hS rfl dX6_fly_22
set_option maxHeartbeats 4000000 in
set_option maxRecDepth 100000 in
theorem kX6_goneOn (E : gE) (l : Launch) (g0 q0 q1 x0 x1 x2 r0 : Nat) (an au ap ar aw : Nat → Nat) (ba : Nat → Nat → Nat) (ke : Int32) (lnn : Int32) (pm : Nat → Nat) (ch : Nat → Int32) (tl : Int32) (nu : Nat → Int32) (le : Int32) (nx : Int32) (cmd : Int32) (pos : Int32) (rea : Int32) (cau : Int32) (xn : HutS) (xt : HutS) (xp : HutS) (xr : HutS) (xw : HutS) (h0 : HutS) (h1 : HutS) (h2 : HutS) (h3 : HutS) (h4 : HutS) (p1 : Int32) (res : Int32 × HutS) (h : fX6_goneOn xn xt p1 = some res) : gMI E l yX6_goneOn wsX6_goneOn ({ frames := 3, cells := 0, slots := 0, locals := 76 } : Room) [.ref g0, .int p1] (List.flatten [[(g0, .inr (6, [.ref (an 0), .ref (au 0), .ref (ap 0), .ref q0, .ref x0, .ref r0, .int ke]))], [(q0, .inr (0, [.ref q1, .int lnn]))], wHa E q1 ba pm, wTx E x0 x1 x2 ch tl nu le nx, [(r0, .inr (3, [.ref (ar 0), .ref (aw 0), .int cmd, .int pos, .int rea, .int cau]))], wHuT E an xn, wHuT E au xt, wHuT E ap xp, wHuT E ar xr, wHuT E aw xw, wHuT E (ba 0) h0, wHuT E (ba 1) h1, wHuT E (ba 2) h2, wHuT E (ba 3) h3, wHuT E (ba 4) h4]) (fun res : Int32 × HutS => (List.flatten [[(g0, .inr (6, [.ref (an 0), .ref (au 0), .ref (ap 0), .ref q0, .ref x0, .ref r0, .int ke]))], [(q0, .inr (0, [.ref q1, .int lnn]))], wHa E q1 ba pm, wTx E x0 x1 x2 ch tl nu le nx, [(r0, .inr (3, [.ref (ar 0), .ref (aw 0), .int cmd, .int pos, .int rea, .int cau]))], wHuT E an xn, wHuT E au res.2, wHuT E ap xp, wHuT E ar xr, wHuT E aw xw, wHuT E (ba 0) h0, wHuT E (ba 1) h1, wHuT E (ba 2) h2, wHuT E (ba 3) h3, wHuT E (ba 4) h4])) (fun res => res.1) res := by
  refine g_entI (cc := cX6_goneOn) (maxL := 2) (by decide) rfl (Nat.le_of_ble_eq_true rfl) ?_
  intro p e s m args below meth c A Q ls hx hb hml hown hts hK hP hD hS hA hG hret hl
  unfold fX6_goneOn at h
  replace hl : lv_has ls 2 [(0, .ref g0), (1, .int p1)] := hl
  have hiX1 : ∀ w ∈ wsX10, w ∈ wsX6_goneOn := by decide +kernel
  have hiX6 : ∀ w ∈ wsX60, w ∈ wsX6_goneOn := by decide +kernel
  have hw0 := hts (.fieldLink RX6 10 "GlacierHut" "now" "LGlacierHut$Hut;") (by decide +kernel)
  have hw1 := hts (.fieldLink RX6 121 "GlacierHut$Hut" "parties" "LGlacierHut$Parties;") (by decide +kernel)
  have hw2 := hts (.fieldLink RX6 16 "GlacierHut" "trial" "LGlacierHut$Hut;") (by decide +kernel)
  refine lv_aload_n hx hb dX6_goneOn_0 rfl (lv_at hl 0 rfl) ?_
  refine va_get (D := E.1) (cl := vwCl) (ci := 6) (v := .ref (an 0)) (C := RX6) (T := TX6) (N := 7) hx hb hts hiX6 hown hK hP 0 rfl rfl 0 (by decide) hw0 (fun _ h9 => h9) rfl dX6_goneOn_1 ?_
  refine va_get (D := E.1) (cl := vwCl) (ci := 1) (v := .ref (an 11)) (C := RX1) (T := TX1) (N := 10) hx hb hts hiX1 hown hK hP 7 rfl rfl 1 (by decide) hw1 (fun _ h9 => h9) rfl dX6_goneOn_4 ?_
  refine lv_iload_n hx hb dX6_goneOn_7 rfl (lv_at hl 1 rfl) ?_
  obtain ⟨r1, hc2, h⟩ := bd1_s h
  refine g_callRi (As := [.int p1]) (rest := []) (r := r1) ⟨hx, hb, hml, hown, hts⟩ (kX2_has E l (an 11) (an 12) (an 13) (an 14) (an 15) (an 16) (an 17) xn.2.2.2.2.2.2.2.2.2.2.2.1 xn.2.2.2.2.2.2.2.2.2.2.2.2.1 xn.2.2.2.2.2.2.2.2.2.2.2.2.2.1 xn.2.2.2.2.2.2.2.2.2.2.2.2.2.2.1 xn.2.2.2.2.2.2.2.2.2.2.2.2.2.2.2.1 xn.2.2.2.2.2.2.2.2.2.2.2.2.2.2.2.2.1 xn.2.2.2.2.2.2.2.2.2.2.2.2.2.2.2.2.2.1 p1 r1 hc2) (cwV 1 hts gX6_goneOn_X2_has rfl rfl rfl (by decide +kernel) ⟨Nat.le_of_ble_eq_true rfl, Nat.le_of_ble_eq_true rfl⟩) hK hP hD hS hA hG hl [18, 19, 20, 21, 22, 23, 24] 18 (by decide) rfl (ci := 2) rfl rfl rfl rfl rfl rfl rfl (Nat.le_of_ble_eq_true rfl) dX6_goneOn_8 (Nat.zero_le _) (Nat.zero_le _) (fun H locs hP hD hS => ?_)
  refine lv_if_ne (tgt := 16) hx hb dX6_goneOn_11 (by decide) (fun hc3 => ?_) (fun hc3 => ?_)
  · replace h := g_if hc3 h
    refine lv_aload_n hx hb dX6_goneOn_16 rfl (lv_at hl 0 rfl) ?_
    refine va_get (D := E.1) (cl := vwCl) (ci := 6) (v := .ref (an 0)) (C := RX6) (T := TX6) (N := 7) hx hb hts hiX6 hown hK hP 0 rfl rfl 0 (by decide) hw0 (fun _ h9 => h9) rfl dX6_goneOn_17 ?_
    refine va_get (D := E.1) (cl := vwCl) (ci := 1) (v := .ref (an 11)) (C := RX1) (T := TX1) (N := 10) hx hb hts hiX1 hown hK hP 7 rfl rfl 1 (by decide) hw1 (fun _ h9 => h9) rfl dX6_goneOn_20 ?_
    refine lv_iload_n hx hb dX6_goneOn_23 rfl (lv_at hl 1 rfl) ?_
    obtain ⟨r4, hc5, h⟩ := bd1_s h
    refine g_callRi (As := [.int p1]) (rest := []) (r := r4) ⟨hx, hb, hml, hown, hts⟩ (kX2_isAwaited E l (an 11) (an 12) (an 13) (an 14) (an 15) (an 16) (an 17) xn.2.2.2.2.2.2.2.2.2.2.2.1 xn.2.2.2.2.2.2.2.2.2.2.2.2.1 xn.2.2.2.2.2.2.2.2.2.2.2.2.2.1 xn.2.2.2.2.2.2.2.2.2.2.2.2.2.2.1 xn.2.2.2.2.2.2.2.2.2.2.2.2.2.2.2.1 xn.2.2.2.2.2.2.2.2.2.2.2.2.2.2.2.2.1 xn.2.2.2.2.2.2.2.2.2.2.2.2.2.2.2.2.2.1 p1 r4 hc5) (cwV 1 hts gX6_goneOn_X2_isAwaited rfl rfl rfl (by decide +kernel) ⟨Nat.le_of_ble_eq_true rfl, Nat.le_of_ble_eq_true rfl⟩) hK hP hD hS hA hG hl [18, 19, 20, 21, 22, 23, 24] 18 (by decide) rfl (ci := 2) rfl rfl rfl rfl rfl rfl rfl (Nat.le_of_ble_eq_true rfl) dX6_goneOn_24 (Nat.zero_le _) (Nat.zero_le _) (fun H locs hP hD hS => ?_)
    refine lv_if_ne (tgt := 33) hx hb dX6_goneOn_27 (by decide) (fun hc6 => ?_) (fun hc6 => ?_)
    · replace h := g_if hc6 h
      refine lv_aload_n hx hb dX6_goneOn_33 rfl (lv_at hl 0 rfl) ?_
      refine va_get (D := E.1) (cl := vwCl) (ci := 6) (v := .ref (au 0)) (C := RX6) (T := TX6) (N := 7) hx hb hts hiX6 hown hK hP 0 rfl rfl 1 (by decide) hw2 (fun _ h9 => h9) rfl dX6_goneOn_34 ?_
      refine lv_aload_n hx hb dX6_goneOn_37 rfl (lv_at hl 0 rfl) ?_
      refine va_get (D := E.1) (cl := vwCl) (ci := 6) (v := .ref (an 0)) (C := RX6) (T := TX6) (N := 7) hx hb hts hiX6 hown hK hP 0 rfl rfl 0 (by decide) hw0 (fun _ h9 => h9) rfl dX6_goneOn_38 ?_
      obtain ⟨xt_8, hc9, h⟩ := bd1_s h
      refine g_callBv (As := [.ref (an 0)]) (rest := []) (bs1 := [[(g0, .inr (6, [.ref (an 0), .ref (au 0), .ref (ap 0), .ref q0, .ref x0, .ref r0, .int ke]))], [(q0, .inr (0, [.ref q1, .int lnn]))], wHa E q1 ba pm, wTx E x0 x1 x2 ch tl nu le nx, [(r0, .inr (3, [.ref (ar 0), .ref (aw 0), .int cmd, .int pos, .int rea, .int cau]))], wHuT E an xn, wHuT E au xt_8, wHuT E ap xp, wHuT E ar xr, wHuT E aw xw, wHuT E (ba 0) h0, wHuT E (ba 1) h1, wHuT E (ba 2) h2, wHuT E (ba 3) h3, wHuT E (ba 4) h4]) ⟨hx, hb, hml, hown, hts⟩ (kgX1_copyFrom E l au an xt xn xt_8 hc9) (cwV 1 hts gX6_goneOn_X1_copyFrom rfl rfl rfl (by decide +kernel) ⟨Nat.le_of_ble_eq_true rfl, Nat.le_of_ble_eq_true rfl⟩) hK hP hD hS hA hG hl [6, 5] 6 0 (by decide) rfl (ci := 1) rfl rfl rfl rfl rfl rfl rfl rfl rfl (Nat.le_of_ble_eq_true rfl) dX6_goneOn_41 (Nat.zero_le _) (Nat.zero_le _) (fun H locs hP hD hS => ?_)
      refine lv_aload_n hx hb dX6_goneOn_44 rfl (lv_at hl 0 rfl) ?_
      refine va_get (D := E.1) (cl := vwCl) (ci := 6) (v := .ref (au 0)) (C := RX6) (T := TX6) (N := 7) hx hb hts hiX6 hown hK hP 0 rfl rfl 1 (by decide) hw2 (fun _ h9 => h9) rfl dX6_goneOn_45 ?_
      refine lv_iload_n hx hb dX6_goneOn_48 rfl (lv_at hl 1 rfl) ?_
      obtain ⟨r10, xt_12, hc13, h⟩ := bd2_s h
      refine g_callBi (As := [.int p1]) (rest := []) (r := r10) (bs1 := [[(g0, .inr (6, [.ref (an 0), .ref (au 0), .ref (ap 0), .ref q0, .ref x0, .ref r0, .int ke]))], [(q0, .inr (0, [.ref q1, .int lnn]))], wHa E q1 ba pm, wTx E x0 x1 x2 ch tl nu le nx, [(r0, .inr (3, [.ref (ar 0), .ref (aw 0), .int cmd, .int pos, .int rea, .int cau]))], wHuT E an xn, wHuT E au xt_12, wHuT E ap xp, wHuT E ar xr, wHuT E aw xw, wHuT E (ba 0) h0, wHuT E (ba 1) h1, wHuT E (ba 2) h2, wHuT E (ba 3) h3, wHuT E (ba 4) h4]) ⟨hx, hb, hml, hown, hts⟩ (kgX1_dayWhenGone E l au xt_8 p1 (r10, xt_12) hc13) (cwV 1 hts gX6_goneOn_X1_dayWhenGone rfl rfl rfl (by decide +kernel) ⟨Nat.le_of_ble_eq_true rfl, Nat.le_of_ble_eq_true rfl⟩) hK hP hD hS hA hG hl [6] 6 0 (by decide) rfl (ci := 1) rfl rfl rfl rfl rfl rfl rfl rfl rfl rfl (Nat.le_of_ble_eq_true rfl) dX6_goneOn_49 (Nat.zero_le _) (Nat.zero_le _) (fun H locs hP hD hS => ?_)
      exact hret (r10, xt_12) _ _ _ _ _ (Option.some.inj h) hP hS rfl dX6_goneOn_52
    · replace h := g_it hc6 h
      refine lv_bipush (v := (-2 : Int32)) hx hb dX6_goneOn_30 (by decide) ?_
      exact hret ((-2 : Int32), xt) _ _ _ _ _ (Option.some.inj h) hP hS rfl dX6_goneOn_32
  · replace h := g_it hc3 h
    refine lv_iconst (v := (-1 : Int32)) hx hb dX6_goneOn_14 (by decide) ?_
    exact hret ((-1 : Int32), xt) _ _ _ _ _ (Option.some.inj h) hP hS rfl dX6_goneOn_15
set_option maxHeartbeats 4000000 in
set_option maxRecDepth 100000 in
theorem kX6_keep (E : gE) (l : Launch) (g0 q0 q1 x0 x1 x2 r0 : Nat) (an au ap ar aw : Nat → Nat) (ba : Nat → Nat → Nat) (ke : Int32) (lnn : Int32) (pm : Nat → Nat) (ch : Nat → Int32) (tl : Int32) (nu : Nat → Int32) (le : Int32) (nx : Int32) (cmd : Int32) (pos : Int32) (rea : Int32) (cau : Int32) (xn : HutS) (xt : HutS) (xp : HutS) (xr : HutS) (xw : HutS) (h0 : HutS) (h1 : HutS) (h2 : HutS) (h3 : HutS) (h4 : HutS)  (res : Int32 × Int32 × HutS) (h : fX6_keep xn xp  = some res) : gMI E l yX6_keep wsX6_keep ({ frames := 3, cells := 0, slots := 0, locals := 60 } : Room) [.ref g0] (List.flatten [[(g0, .inr (6, [.ref (an 0), .ref (au 0), .ref (ap 0), .ref q0, .ref x0, .ref r0, .int ke]))], [(q0, .inr (0, [.ref q1, .int lnn]))], wHa E q1 ba pm, wTx E x0 x1 x2 ch tl nu le nx, [(r0, .inr (3, [.ref (ar 0), .ref (aw 0), .int cmd, .int pos, .int rea, .int cau]))], wHuT E an xn, wHuT E au xt, wHuT E ap xp, wHuT E ar xr, wHuT E aw xw, wHuT E (ba 0) h0, wHuT E (ba 1) h1, wHuT E (ba 2) h2, wHuT E (ba 3) h3, wHuT E (ba 4) h4]) (fun res : Int32 × Int32 × HutS => (List.flatten [[(g0, .inr (6, [.ref (an 0), .ref (au 0), .ref (ap 0), .ref q0, .ref x0, .ref r0, .int res.2.1]))], [(q0, .inr (0, [.ref q1, .int lnn]))], wHa E q1 ba pm, wTx E x0 x1 x2 ch tl nu le nx, [(r0, .inr (3, [.ref (ar 0), .ref (aw 0), .int cmd, .int pos, .int rea, .int cau]))], wHuT E an xn, wHuT E au xt, wHuT E ap res.2.2, wHuT E ar xr, wHuT E aw xw, wHuT E (ba 0) h0, wHuT E (ba 1) h1, wHuT E (ba 2) h2, wHuT E (ba 3) h3, wHuT E (ba 4) h4])) (fun res => res.1) res := by
  refine g_entI (cc := cX6_keep) (maxL := 1) (by decide) rfl (Nat.le_of_ble_eq_true rfl) ?_
  intro p e s m args below meth c A Q ls hx hb hml hown hts hK hP hD hS hA hG hret hl
  unfold fX6_keep at h
  replace hl : lv_has ls 1 [(0, .ref g0)] := hl
  have hiX1 : ∀ w ∈ wsX10, w ∈ wsX6_keep := by decide +kernel
  have hiX6 : ∀ w ∈ wsX60, w ∈ wsX6_keep := by decide +kernel
  have hw0 := hts (.fieldLink RX6 19 "GlacierHut" "snapshot" "LGlacierHut$Hut;") (by decide +kernel)
  have hw1 := hts (.fieldLink RX6 10 "GlacierHut" "now" "LGlacierHut$Hut;") (by decide +kernel)
  have hw2 := hts (.fieldLink RX6 43 "GlacierHut" "kept" "Z") (by decide +kernel)
  have hw3 := hts (.fieldLink RX6 163 "GlacierHut$Hut" "day" "I") (by decide +kernel)
  refine lv_aload_n hx hb dX6_keep_0 rfl (lv_at hl 0 rfl) ?_
  refine va_get (D := E.1) (cl := vwCl) (ci := 6) (v := .ref (ap 0)) (C := RX6) (T := TX6) (N := 7) hx hb hts hiX6 hown hK hP 0 rfl rfl 2 (by decide) hw0 (fun _ h9 => h9) rfl dX6_keep_1 ?_
  refine lv_aload_n hx hb dX6_keep_4 rfl (lv_at hl 0 rfl) ?_
  refine va_get (D := E.1) (cl := vwCl) (ci := 6) (v := .ref (an 0)) (C := RX6) (T := TX6) (N := 7) hx hb hts hiX6 hown hK hP 0 rfl rfl 0 (by decide) hw1 (fun _ h9 => h9) rfl dX6_keep_5 ?_
  obtain ⟨xp_2, hc3, h⟩ := bd1_s h
  refine g_callBv (As := [.ref (an 0)]) (rest := []) (bs1 := [[(g0, .inr (6, [.ref (an 0), .ref (au 0), .ref (ap 0), .ref q0, .ref x0, .ref r0, .int ke]))], [(q0, .inr (0, [.ref q1, .int lnn]))], wHa E q1 ba pm, wTx E x0 x1 x2 ch tl nu le nx, [(r0, .inr (3, [.ref (ar 0), .ref (aw 0), .int cmd, .int pos, .int rea, .int cau]))], wHuT E an xn, wHuT E au xt, wHuT E ap xp_2, wHuT E ar xr, wHuT E aw xw, wHuT E (ba 0) h0, wHuT E (ba 1) h1, wHuT E (ba 2) h2, wHuT E (ba 3) h3, wHuT E (ba 4) h4]) ⟨hx, hb, hml, hown, hts⟩ (kgX1_copyFrom E l ap an xp xn xp_2 hc3) (cwV 1 hts gX6_keep_X1_copyFrom rfl rfl rfl (by decide +kernel) ⟨Nat.le_of_ble_eq_true rfl, Nat.le_of_ble_eq_true rfl⟩) hK hP hD hS hA hG hl [7, 5] 7 0 (by decide) rfl (ci := 1) rfl rfl rfl rfl rfl rfl rfl rfl rfl (Nat.le_of_ble_eq_true rfl) dX6_keep_8 (Nat.zero_le _) (Nat.zero_le _) (fun H locs hP hD hS => ?_)
  refine lv_aload_n hx hb dX6_keep_11 rfl (lv_at hl 0 rfl) ?_
  refine lv_iconst (v := (1 : Int32)) hx hb dX6_keep_12 (by decide) ?_
  refine va_put (D := E.1) (cl := vwCl) (ci := 6) (v := .int (1 : Int32)) (ty := .boolean) (C := RX6) (T := TX6) (N := 7) hx hb hts hiX6 tyX6 tyX6_ok nmX6 hown hK hP hD hS 0 rfl rfl 6 (by decide) hw2 (fun _ h9 => h9) rfl (by decide +kernel) rfl rfl (Nat.le_of_ble_eq_true rfl) dX6_keep_13 (fun H locs hP hD hS => ?_)
  replace hP : va_P E.1 vwCl (List.flatten [[(g0, .inr (6, [.ref (an 0), .ref (au 0), .ref (ap 0), .ref q0, .ref x0, .ref r0, .int (1 : Int32)]))], [(q0, .inr (0, [.ref q1, .int lnn]))], wHa E q1 ba pm, wTx E x0 x1 x2 ch tl nu le nx, [(r0, .inr (3, [.ref (ar 0), .ref (aw 0), .int cmd, .int pos, .int rea, .int cau]))], wHuT E an xn, wHuT E au xt, wHuT E ap xp_2, wHuT E ar xr, wHuT E aw xw, wHuT E (ba 0) h0, wHuT E (ba 1) h1, wHuT E (ba 2) h2, wHuT E (ba 3) h3, wHuT E (ba 4) h4]) H := hP
  replace hD : va_D A (List.flatten [[(g0, .inr (6, [.ref (an 0), .ref (au 0), .ref (ap 0), .ref q0, .ref x0, .ref r0, .int (1 : Int32)]))], [(q0, .inr (0, [.ref q1, .int lnn]))], wHa E q1 ba pm, wTx E x0 x1 x2 ch tl nu le nx, [(r0, .inr (3, [.ref (ar 0), .ref (aw 0), .int cmd, .int pos, .int rea, .int cau]))], wHuT E an xn, wHuT E au xt, wHuT E ap xp_2, wHuT E ar xr, wHuT E aw xw, wHuT E (ba 0) h0, wHuT E (ba 1) h1, wHuT E (ba 2) h2, wHuT E (ba 3) h3, wHuT E (ba 4) h4]) := hD
  refine lv_aload_n hx hb dX6_keep_16 rfl (lv_at hl 0 rfl) ?_
  refine va_get (D := E.1) (cl := vwCl) (ci := 6) (v := .ref (an 0)) (C := RX6) (T := TX6) (N := 7) hx hb hts hiX6 hown hK hP 0 rfl rfl 0 (by decide) hw1 (fun _ h9 => h9) rfl dX6_keep_17 ?_
  refine va_get (D := E.1) (cl := vwCl) (ci := 1) (v := .int xn.2.2.2.2.2.2.2.2.2.2.2.2.2.2.2.2.2.2.2.2.1) (C := RX1) (T := TX1) (N := 10) hx hb hts hiX1 hown hK hP 7 rfl rfl 4 (by decide) hw3 (fun _ h9 => h9) rfl dX6_keep_20 ?_
  exact hret (xn.2.2.2.2.2.2.2.2.2.2.2.2.2.2.2.2.2.2.2.2.1, (1 : Int32), xp_2) _ _ _ _ _ (Option.some.inj h) hP hS rfl dX6_keep_23
set_option maxHeartbeats 4000000 in
set_option maxRecDepth 100000 in
theorem kX6_load (E : gE) (l : Launch) (g0 q0 q1 x0 x1 x2 r0 : Nat) (an au ap ar aw : Nat → Nat) (ba : Nat → Nat → Nat) (ke : Int32) (lnn : Int32) (pm : Nat → Nat) (ch : Nat → Int32) (tl : Int32) (nu : Nat → Int32) (le : Int32) (nx : Int32) (cmd : Int32) (pos : Int32) (rea : Int32) (cau : Int32) (xn : HutS) (xt : HutS) (xp : HutS) (xr : HutS) (xw : HutS) (h0 : HutS) (h1 : HutS) (h2 : HutS) (h3 : HutS) (h4 : HutS) (p1 : Int32) (p2 : Int32) (p3 : Int32) (res : Int32 × Int32 × (Nat → Nat) × HutS × HutS × HutS × HutS × HutS × HutS) (h : fX6_load lnn pm xn h0 h1 h2 h3 h4 p1 p2 p3 = some res) : gMI E l yX6_load wsX6_load ({ frames := 4, cells := 0, slots := 0, locals := 82 } : Room) [.ref g0, .int p1, .int p2, .int p3] (List.flatten [[(g0, .inr (6, [.ref (an 0), .ref (au 0), .ref (ap 0), .ref q0, .ref x0, .ref r0, .int ke]))], [(q0, .inr (0, [.ref q1, .int lnn]))], wHa E q1 ba pm, wTx E x0 x1 x2 ch tl nu le nx, [(r0, .inr (3, [.ref (ar 0), .ref (aw 0), .int cmd, .int pos, .int rea, .int cau]))], wHuT E an xn, wHuT E au xt, wHuT E ap xp, wHuT E ar xr, wHuT E aw xw, wHuT E (ba 0) h0, wHuT E (ba 1) h1, wHuT E (ba 2) h2, wHuT E (ba 3) h3, wHuT E (ba 4) h4]) (fun res : Int32 × Int32 × (Nat → Nat) × HutS × HutS × HutS × HutS × HutS × HutS => (List.flatten [[(g0, .inr (6, [.ref (an 0), .ref (au 0), .ref (ap 0), .ref q0, .ref x0, .ref r0, .int ke]))], [(q0, .inr (0, [.ref q1, .int res.2.1]))], wHa E q1 ba res.2.2.1, wTx E x0 x1 x2 ch tl nu le nx, [(r0, .inr (3, [.ref (ar 0), .ref (aw 0), .int cmd, .int pos, .int rea, .int cau]))], wHuT E an res.2.2.2.1, wHuT E au xt, wHuT E ap xp, wHuT E ar xr, wHuT E aw xw, wHuT E (ba 0) res.2.2.2.2.1, wHuT E (ba 1) res.2.2.2.2.2.1, wHuT E (ba 2) res.2.2.2.2.2.2.1, wHuT E (ba 3) res.2.2.2.2.2.2.2.1, wHuT E (ba 4) res.2.2.2.2.2.2.2.2])) (fun res => res.1) res := by
  refine g_entI (cc := cX6_load) (maxL := 4) (by decide) rfl (Nat.le_of_ble_eq_true rfl) ?_
  intro p e s m args below meth c A Q ls hx hb hml hown hts hK hP hD hS hA hG hret hl
  unfold fX6_load at h
  replace hl : lv_has ls 4 [(0, .ref g0), (1, .int p1), (2, .int p2), (3, .int p3)] := hl
  have hiX6 : ∀ w ∈ wsX60, w ∈ wsX6_load := by decide +kernel
  have hw0 := hts (.fieldLink RX6 25 "GlacierHut" "history" "LGlacierHut$History;") (by decide +kernel)
  have hw1 := hts (.fieldLink RX6 10 "GlacierHut" "now" "LGlacierHut$Hut;") (by decide +kernel)
  refine lv_aload_n hx hb dX6_load_0 rfl (lv_at hl 0 rfl) ?_
  refine va_get (D := E.1) (cl := vwCl) (ci := 6) (v := .ref q0) (C := RX6) (T := TX6) (N := 7) hx hb hts hiX6 hown hK hP 0 rfl rfl 3 (by decide) hw0 (fun _ h9 => h9) rfl dX6_load_1 ?_
  refine lv_aload_n hx hb dX6_load_4 rfl (lv_at hl 0 rfl) ?_
  refine va_get (D := E.1) (cl := vwCl) (ci := 6) (v := .ref (an 0)) (C := RX6) (T := TX6) (N := 7) hx hb hts hiX6 hown hK hP 0 rfl rfl 0 (by decide) hw1 (fun _ h9 => h9) rfl dX6_load_5 ?_
  obtain ⟨h0_2, h1_4, h2_6, h3_8, h4_10, hc11, h⟩ := bd5_s h
  refine g_callBv (As := [.ref (an 0)]) (rest := []) (bs1 := [[(g0, .inr (6, [.ref (an 0), .ref (au 0), .ref (ap 0), .ref q0, .ref x0, .ref r0, .int ke]))], [(q0, .inr (0, [.ref q1, .int lnn]))], wHa E q1 ba pm, wTx E x0 x1 x2 ch tl nu le nx, [(r0, .inr (3, [.ref (ar 0), .ref (aw 0), .int cmd, .int pos, .int rea, .int cau]))], wHuT E an xn, wHuT E au xt, wHuT E ap xp, wHuT E ar xr, wHuT E aw xw, wHuT E (ba 0) h0_2, wHuT E (ba 1) h1_4, wHuT E (ba 2) h2_6, wHuT E (ba 3) h3_8, wHuT E (ba 4) h4_10]) ⟨hx, hb, hml, hown, hts⟩ (kX0_prepare E l q0 q1 an ba lnn pm h0 h1 h2 h3 h4 xn (h0_2, h1_4, h2_6, h3_8, h4_10) hc11) (cwV 1 hts gX6_load_X0_prepare rfl rfl rfl (by decide +kernel) ⟨Nat.le_of_ble_eq_true rfl, Nat.le_of_ble_eq_true rfl⟩) hK hP hD hS hA hG hl [1, 2, 10, 11, 12, 13, 14, 5] 1 0 (by decide) rfl (ci := 0) rfl rfl rfl rfl rfl rfl rfl rfl rfl (Nat.le_of_ble_eq_true rfl) dX6_load_8 (Nat.zero_le _) (Nat.zero_le _) (fun H locs hP hD hS => ?_)
  refine lv_aload_n hx hb dX6_load_11 rfl (lv_at hl 0 rfl) ?_
  refine lv_aload_n hx hb dX6_load_12 rfl (lv_at hl 0 rfl) ?_
  refine va_get (D := E.1) (cl := vwCl) (ci := 6) (v := .ref (an 0)) (C := RX6) (T := TX6) (N := 7) hx hb hts hiX6 hown hK hP 0 rfl rfl 0 (by decide) hw1 (fun _ h9 => h9) rfl dX6_load_13 ?_
  refine lv_iload_n hx hb dX6_load_16 rfl (lv_at hl 1 rfl) ?_
  refine lv_iload_n hx hb dX6_load_17 rfl (lv_at hl 2 rfl) ?_
  refine lv_iload_n hx hb dX6_load_18 rfl (lv_at hl 3 rfl) ?_
  obtain ⟨r12, xn_14, hc15, h⟩ := bd2_s h
  refine g_callBi (As := [.int p1, .int p2, .int p3]) (rest := [.ref g0]) (r := r12) (bs1 := [[(g0, .inr (6, [.ref (an 0), .ref (au 0), .ref (ap 0), .ref q0, .ref x0, .ref r0, .int ke]))], [(q0, .inr (0, [.ref q1, .int lnn]))], wHa E q1 ba pm, wTx E x0 x1 x2 ch tl nu le nx, [(r0, .inr (3, [.ref (ar 0), .ref (aw 0), .int cmd, .int pos, .int rea, .int cau]))], wHuT E an xn_14, wHuT E au xt, wHuT E ap xp, wHuT E ar xr, wHuT E aw xw, wHuT E (ba 0) h0_2, wHuT E (ba 1) h1_4, wHuT E (ba 2) h2_6, wHuT E (ba 3) h3_8, wHuT E (ba 4) h4_10]) ⟨hx, hb, hml, hown, hts⟩ (kgX1_putOnPallet E l an xn p1 p2 p3 (r12, xn_14) hc15) (cwV 3 hts gX6_load_X1_putOnPallet rfl rfl rfl (by decide +kernel) ⟨Nat.le_of_ble_eq_true rfl, Nat.le_of_ble_eq_true rfl⟩) hK hP hD hS hA hG hl [5] 5 0 (by decide) rfl (ci := 1) rfl rfl rfl rfl rfl rfl rfl rfl rfl rfl (Nat.le_of_ble_eq_true rfl) dX6_load_19 (Nat.zero_le _) (Nat.zero_le _) (fun H locs hP hD hS => ?_)
  obtain ⟨r16, lnn_18, pm_20, hc21, h⟩ := bd3_s h
  refine g_callBi (As := [.int r12]) (rest := []) (r := r16) (bs1 := [[(g0, .inr (6, [.ref (an 0), .ref (au 0), .ref (ap 0), .ref q0, .ref x0, .ref r0, .int ke]))], [(q0, .inr (0, [.ref q1, .int lnn_18]))], wHa E q1 ba pm_20, wTx E x0 x1 x2 ch tl nu le nx, [(r0, .inr (3, [.ref (ar 0), .ref (aw 0), .int cmd, .int pos, .int rea, .int cau]))], wHuT E an xn_14, wHuT E au xt, wHuT E ap xp, wHuT E ar xr, wHuT E aw xw, wHuT E (ba 0) h0_2, wHuT E (ba 1) h1_4, wHuT E (ba 2) h2_6, wHuT E (ba 3) h3_8, wHuT E (ba 4) h4_10]) ⟨hx, hb, hml, hown, hts⟩ (kX6_recorded E l g0 q0 q1 x0 r0 an au ap ba ke lnn pm h0_2 h1_4 h2_6 h3_8 h4_10 r12 (r16, lnn_18, pm_20) hc21) (cwV 1 hts gX6_load_X6_recorded rfl rfl rfl (by decide +kernel) ⟨Nat.le_of_ble_eq_true rfl, Nat.le_of_ble_eq_true rfl⟩) hK hP hD hS hA hG hl [0, 1, 2, 10, 11, 12, 13, 14] 0 0 (by decide) rfl (ci := 6) rfl rfl rfl rfl rfl rfl rfl rfl rfl rfl (Nat.le_of_ble_eq_true rfl) dX6_load_22 (Nat.zero_le _) (Nat.zero_le _) (fun H locs hP hD hS => ?_)
  exact hret (r16, lnn_18, pm_20, xn_14, h0_2, h1_4, h2_6, h3_8, h4_10) _ _ _ _ _ (Option.some.inj h) hP hS rfl dX6_load_25
set_option maxHeartbeats 4000000 in
set_option maxRecDepth 100000 in
theorem kX6_lotOf (E : gE) (l : Launch) (g0 q0 q1 x0 x1 x2 r0 : Nat) (an au ap ar aw : Nat → Nat) (ba : Nat → Nat → Nat) (ke : Int32) (lnn : Int32) (pm : Nat → Nat) (ch : Nat → Int32) (tl : Int32) (nu : Nat → Int32) (le : Int32) (nx : Int32) (cmd : Int32) (pos : Int32) (rea : Int32) (cau : Int32) (xn : HutS) (xt : HutS) (xp : HutS) (xr : HutS) (xw : HutS) (h0 : HutS) (h1 : HutS) (h2 : HutS) (h3 : HutS) (h4 : HutS) (p1 : Int32) (p2 : Int32) (p3 : Int32) (res : Int32) (h : fX6_lotOf xn p1 p2 p3 = some res) : gMI E l yX6_lotOf wsX6_lotOf ({ frames := 1, cells := 0, slots := 0, locals := 24 } : Room) [.ref g0, .int p1, .int p2, .int p3] (List.flatten [[(g0, .inr (6, [.ref (an 0), .ref (au 0), .ref (ap 0), .ref q0, .ref x0, .ref r0, .int ke]))], [(q0, .inr (0, [.ref q1, .int lnn]))], wHa E q1 ba pm, wTx E x0 x1 x2 ch tl nu le nx, [(r0, .inr (3, [.ref (ar 0), .ref (aw 0), .int cmd, .int pos, .int rea, .int cau]))], wHuT E an xn, wHuT E au xt, wHuT E ap xp, wHuT E ar xr, wHuT E aw xw, wHuT E (ba 0) h0, wHuT E (ba 1) h1, wHuT E (ba 2) h2, wHuT E (ba 3) h3, wHuT E (ba 4) h4]) (fun res : Int32 => (List.flatten [[(g0, .inr (6, [.ref (an 0), .ref (au 0), .ref (ap 0), .ref q0, .ref x0, .ref r0, .int ke]))], [(q0, .inr (0, [.ref q1, .int lnn]))], wHa E q1 ba pm, wTx E x0 x1 x2 ch tl nu le nx, [(r0, .inr (3, [.ref (ar 0), .ref (aw 0), .int cmd, .int pos, .int rea, .int cau]))], wHuT E an xn, wHuT E au xt, wHuT E ap xp, wHuT E ar xr, wHuT E aw xw, wHuT E (ba 0) h0, wHuT E (ba 1) h1, wHuT E (ba 2) h2, wHuT E (ba 3) h3, wHuT E (ba 4) h4])) (fun res => res) res := by
  refine g_entI (cc := cX6_lotOf) (maxL := 5) (by decide) rfl (Nat.le_of_ble_eq_true rfl) ?_
  intro p e s m args below meth c A Q ls hx hb hml hown hts hK hP hD hS hA hG hret hl
  unfold fX6_lotOf at h
  replace hl : lv_has ls 5 [(0, .ref g0), (1, .int p1), (2, .int p2), (3, .int p3)] := hl
  have hiX1 : ∀ w ∈ wsX10, w ∈ wsX6_lotOf := by decide +kernel
  have hiX4 : ∀ w ∈ wsX40, w ∈ wsX6_lotOf := by decide +kernel
  have hiX6 : ∀ w ∈ wsX60, w ∈ wsX6_lotOf := by decide +kernel
  have hw0 := hts (.fieldLink RX6 10 "GlacierHut" "now" "LGlacierHut$Hut;") (by decide +kernel)
  have hw1 := hts (.fieldLink RX6 89 "GlacierHut$Hut" "stores" "LGlacierHut$Stores;") (by decide +kernel)
  have hw2 := hts (.fieldLink RX6 100 "GlacierHut$Stores" "lotLast" "[I") (by decide +kernel)
  have hw3 := hts (.fieldLink RX6 96 "GlacierHut$Stores" "lotAmount" "[I") (by decide +kernel)
  refine lv_iload_n hx hb dX6_lotOf_0 rfl (lv_at hl 1 rfl) ?_
  obtain ⟨r1, hc2, h⟩ := bd1_s h
  refine g_callSi (As := [.int p1]) (rest := []) (r := r1) ⟨hx, hb, hml, hown, hts⟩ (kX4_isKind E l p1 r1 hc2) (va_cwS 1 hts gX6_lotOf_X4_isKind rfl rfl rfl (by decide +kernel) ⟨Nat.le_of_ble_eq_true rfl, Nat.le_of_ble_eq_true rfl⟩) hK hP hD hS hA hG hl rfl rfl rfl (Nat.le_of_ble_eq_true rfl) dX6_lotOf_1 (Nat.zero_le _) (Nat.zero_le _) (fun H locs hP hD hS => ?_)
  refine lv_if_eq (tgt := 20) hx hb dX6_lotOf_4 (by decide) (fun hc3 => ?_) (fun hc3 => ?_)
  · replace h := g_it hc3 h
    refine lv_iconst (v := (-1 : Int32)) hx hb dX6_lotOf_20 (by decide) ?_
    exact hret (-1 : Int32) _ _ _ _ _ (Option.some.inj h) hP hS rfl dX6_lotOf_21
  · replace h := g_if hc3 h
    refine lv_iload_n hx hb dX6_lotOf_7 rfl (lv_at hl 3 rfl) ?_
    refine lv_if_lt (tgt := 20) hx hb dX6_lotOf_8 (by decide) (fun hc4 => ?_) (fun hc4 => ?_)
    · replace h := g_it hc4 h
      refine lv_iconst (v := (-1 : Int32)) hx hb dX6_lotOf_20 (by decide) ?_
      exact hret (-1 : Int32) _ _ _ _ _ (Option.some.inj h) hP hS rfl dX6_lotOf_21
    · replace h := g_if hc4 h
      refine lv_iload_n hx hb dX6_lotOf_11 rfl (lv_at hl 3 rfl) ?_
      refine lv_iconst (v := (1 : Int32)) hx hb dX6_lotOf_12 (by decide) ?_
      refine lv_icmp_gt (tgt := 20) hx hb dX6_lotOf_13 (by decide) (fun hc5 => ?_) (fun hc5 => ?_)
      · replace h := g_it hc5 h
        refine lv_iconst (v := (-1 : Int32)) hx hb dX6_lotOf_20 (by decide) ?_
        exact hret (-1 : Int32) _ _ _ _ _ (Option.some.inj h) hP hS rfl dX6_lotOf_21
      · replace h := g_if hc5 h
        refine lv_iload_n hx hb dX6_lotOf_16 rfl (lv_at hl 2 rfl) ?_
        refine lv_if_ge (tgt := 22) hx hb dX6_lotOf_17 (by decide) (fun hc6 => ?_) (fun hc6 => ?_)
        · replace h := g_it hc6 h
          refine lv_aload_n hx hb dX6_lotOf_22 rfl (lv_at hl 0 rfl) ?_
          refine va_get (D := E.1) (cl := vwCl) (ci := 6) (v := .ref (an 0)) (C := RX6) (T := TX6) (N := 7) hx hb hts hiX6 hown hK hP 0 rfl rfl 0 (by decide) hw0 (fun _ h9 => h9) rfl dX6_lotOf_23 ?_
          refine va_get (D := E.1) (cl := vwCl) (ci := 1) (v := .ref (an 1)) (C := RX1) (T := TX1) (N := 10) hx hb hts hiX1 hown hK hP 7 rfl rfl 0 (by decide) hw1 (fun _ h9 => h9) rfl dX6_lotOf_26 ?_
          refine lv_iload_n hx hb dX6_lotOf_29 rfl (lv_at hl 1 rfl) ?_
          refine lv_iload_n hx hb dX6_lotOf_30 rfl (lv_at hl 2 rfl) ?_
          obtain ⟨r7, hc8, h⟩ := bd1_s h
          refine g_callRi (As := [.int p1, .int p2]) (rest := []) (r := r7) ⟨hx, hb, hml, hown, hts⟩ (kX4_find E l (an 1) (an 2) (an 3) (an 4) (an 5) (an 6) (an 7) (an 8) (an 9) (an 10) xn.1 xn.2.1 xn.2.2.1 xn.2.2.2.1 xn.2.2.2.2.1 xn.2.2.2.2.2.1 xn.2.2.2.2.2.2.1 xn.2.2.2.2.2.2.2.1 xn.2.2.2.2.2.2.2.2.1 xn.2.2.2.2.2.2.2.2.2.1 xn.2.2.2.2.2.2.2.2.2.2.1 p1 p2 r7 hc8) (cwV 2 hts gX6_lotOf_X4_find rfl rfl rfl (by decide +kernel) ⟨Nat.le_of_ble_eq_true rfl, Nat.le_of_ble_eq_true rfl⟩) hK hP hD hS hA hG hl [8, 9, 10, 11, 12, 13, 14, 15, 16, 17] 8 (by decide) rfl (ci := 4) rfl rfl rfl rfl rfl rfl rfl (Nat.le_of_ble_eq_true rfl) dX6_lotOf_31 (Nat.zero_le _) (Nat.zero_le _) (fun H locs hP hD hS => ?_)
          refine lv_istore (lv' := [(4, .int r7), (0, .ref g0), (1, .int p1), (2, .int p2), (3, .int p3)]) hx hb dX6_lotOf_34 hl (by decide) rfl (fun ls hl => ?_)
          refine lv_iload hx hb dX6_lotOf_36 (lv_at hl 0 rfl) ?_
          refine lv_if_ge (tgt := 44) hx hb dX6_lotOf_38 (by decide) (fun hc9 => ?_) (fun hc9 => ?_)
          · replace h := g_it hc9 h
            refine lv_iload_n hx hb dX6_lotOf_44 rfl (lv_at hl 4 rfl) ?_
            refine lv_if_ne (tgt := 64) hx hb dX6_lotOf_45 (by decide) (fun hc10 => ?_) (fun hc10 => ?_)
            · replace h := g_if hc10 h
              refine lv_aload_n hx hb dX6_lotOf_64 rfl (lv_at hl 1 rfl) ?_
              refine va_get (D := E.1) (cl := vwCl) (ci := 6) (v := .ref (an 0)) (C := RX6) (T := TX6) (N := 7) hx hb hts hiX6 hown hK hP 0 rfl rfl 0 (by decide) hw0 (fun _ h9 => h9) rfl dX6_lotOf_65 ?_
              refine va_get (D := E.1) (cl := vwCl) (ci := 1) (v := .ref (an 1)) (C := RX1) (T := TX1) (N := 10) hx hb hts hiX1 hown hK hP 7 rfl rfl 0 (by decide) hw1 (fun _ h9 => h9) rfl dX6_lotOf_68 ?_
              refine va_get (D := E.1) (cl := vwCl) (ci := 4) (v := .ref (an 4)) (C := RX4) (T := TX4) (N := 11) hx hb hts hiX4 hown hK hP 8 rfl rfl 2 (by decide) hw2 (fun _ h9 => h9) rfl dX6_lotOf_71 ?_
              refine lv_iload hx hb dX6_lotOf_74 (lv_at hl 0 rfl) ?_
              obtain ⟨hg11, h⟩ := gd_s h
              refine va_iald (D := E.1) (cl := vwCl) (tys := gT E) hx hb hK hP 11 0 rfl rfl (inB_in hg11) dX6_lotOf_76 ?_
              exact hret (xn.2.2.1 (r7).toNatClampNeg) _ _ _ _ _ (Option.some.inj h) hP hS rfl dX6_lotOf_77
            · replace h := g_it hc10 h
              refine lv_aload_n hx hb dX6_lotOf_48 rfl (lv_at hl 1 rfl) ?_
              refine va_get (D := E.1) (cl := vwCl) (ci := 6) (v := .ref (an 0)) (C := RX6) (T := TX6) (N := 7) hx hb hts hiX6 hown hK hP 0 rfl rfl 0 (by decide) hw0 (fun _ h9 => h9) rfl dX6_lotOf_49 ?_
              refine va_get (D := E.1) (cl := vwCl) (ci := 1) (v := .ref (an 1)) (C := RX1) (T := TX1) (N := 10) hx hb hts hiX1 hown hK hP 7 rfl rfl 0 (by decide) hw1 (fun _ h9 => h9) rfl dX6_lotOf_52 ?_
              refine va_get (D := E.1) (cl := vwCl) (ci := 4) (v := .ref (an 3)) (C := RX4) (T := TX4) (N := 11) hx hb hts hiX4 hown hK hP 8 rfl rfl 1 (by decide) hw3 (fun _ h9 => h9) rfl dX6_lotOf_55 ?_
              refine lv_iload hx hb dX6_lotOf_58 (lv_at hl 0 rfl) ?_
              obtain ⟨hg12, h⟩ := gd_s h
              refine va_iald (D := E.1) (cl := vwCl) (tys := gT E) hx hb hK hP 10 0 rfl rfl (inB_in hg12) dX6_lotOf_60 ?_
              refine lv_goto (tgt := 77) hx hb dX6_lotOf_61 (by decide) ?_
              exact hret (xn.2.1 (r7).toNatClampNeg) _ _ _ _ _ (Option.some.inj h) hP hS rfl dX6_lotOf_77
          · replace h := g_if hc9 h
            refine lv_bipush (v := (-4 : Int32)) hx hb dX6_lotOf_41 (by decide) ?_
            exact hret (-4 : Int32) _ _ _ _ _ (Option.some.inj h) hP hS rfl dX6_lotOf_43
        · replace h := g_if hc6 h
          refine lv_iconst (v := (-1 : Int32)) hx hb dX6_lotOf_20 (by decide) ?_
          exact hret (-1 : Int32) _ _ _ _ _ (Option.some.inj h) hP hS rfl dX6_lotOf_21
