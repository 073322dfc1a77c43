set_option maxHeartbeats 4000000 in
set_option maxRecDepth 100000 in
theorem kX6_most (E : gE) (l : Launch) (g0 q0 q1 x0 x1 x2 r0 : Nat) (an au ap ar aw : Nat → Nat) (ba : Nat → Nat → Nat) (ke : Int32) (lnn : Int32) (pm : Nat → Nat) (ch : Nat → Int32) (tl : Int32) (nu : Nat → Int32) (le : Int32) (nx : Int32) (cmd : Int32) (pos : Int32) (rea : Int32) (cau : Int32) (xn : HutS) (xt : HutS) (xp : HutS) (xr : HutS) (xw : HutS) (h0 : HutS) (h1 : HutS) (h2 : HutS) (h3 : HutS) (h4 : HutS) (p1 : Int32) (p2 : Int32) (res : Int32 × HutS) (h : fX6_most xn xt p1 p2 = some res) : gMI E l yX6_most wsX6_most ({ frames := 3, cells := 0, slots := 0, locals := 78 } : Room) [.ref g0, .int p1, .int p2] (List.flatten [[(g0, .inr (6, [.ref (an 0), .ref (au 0), .ref (ap 0), .ref q0, .ref x0, .ref r0, .int ke]))], [(q0, .inr (0, [.ref q1, .int lnn]))], wHa E q1 ba pm, wTx E x0 x1 x2 ch tl nu le nx, [(r0, .inr (3, [.ref (ar 0), .ref (aw 0), .int cmd, .int pos, .int rea, .int cau]))], wHuT E an xn, wHuT E au xt, wHuT E ap xp, wHuT E ar xr, wHuT E aw xw, wHuT E (ba 0) h0, wHuT E (ba 1) h1, wHuT E (ba 2) h2, wHuT E (ba 3) h3, wHuT E (ba 4) h4]) (fun res : Int32 × HutS => (List.flatten [[(g0, .inr (6, [.ref (an 0), .ref (au 0), .ref (ap 0), .ref q0, .ref x0, .ref r0, .int ke]))], [(q0, .inr (0, [.ref q1, .int lnn]))], wHa E q1 ba pm, wTx E x0 x1 x2 ch tl nu le nx, [(r0, .inr (3, [.ref (ar 0), .ref (aw 0), .int cmd, .int pos, .int rea, .int cau]))], wHuT E an xn, wHuT E au res.2, wHuT E ap xp, wHuT E ar xr, wHuT E aw xw, wHuT E (ba 0) h0, wHuT E (ba 1) h1, wHuT E (ba 2) h2, wHuT E (ba 3) h3, wHuT E (ba 4) h4])) (fun res => res.1) res := by
  refine g_entI (cc := cX6_most) (maxL := 4) (by decide) rfl (Nat.le_of_ble_eq_true rfl) ?_
  intro p e s m args below meth c A Q ls hx hb hml hown hts hK hP hD hS hA hG hret hl
  unfold fX6_most at h
  replace hl : lv_has ls 4 [(0, .ref g0), (1, .int p1), (2, .int p2)] := hl
  have hiX1 : ∀ w ∈ wsX10, w ∈ wsX6_most := by decide +kernel
  have hiX2 : ∀ w ∈ wsX20, w ∈ wsX6_most := by decide +kernel
  have hiX6 : ∀ w ∈ wsX60, w ∈ wsX6_most := by decide +kernel
  have hw0 := hts (.fieldLink RX6 10 "GlacierHut" "now" "LGlacierHut$Hut;") (by decide +kernel)
  have hw1 := hts (.fieldLink RX6 121 "GlacierHut$Hut" "parties" "LGlacierHut$Parties;") (by decide +kernel)
  have hw2 := hts (.fieldLink RX6 153 "GlacierHut$Parties" "number" "I") (by decide +kernel)
  have hw3 := hts (.fieldLink RX6 16 "GlacierHut" "trial" "LGlacierHut$Hut;") (by decide +kernel)
  refine lv_aload_n hx hb dX6_most_0 rfl (lv_at hl 0 rfl) ?_
  refine va_get (D := E.1) (cl := vwCl) (ci := 6) (v := .ref (an 0)) (C := RX6) (T := TX6) (N := 7) hx hb hts hiX6 hown hK hP 0 rfl rfl 0 (by decide) hw0 (fun _ h9 => h9) rfl dX6_most_1 ?_
  refine lv_iconst (v := (1 : Int32)) hx hb dX6_most_4 (by decide) ?_
  refine lv_iload_n hx hb dX6_most_5 rfl (lv_at hl 1 rfl) ?_
  refine lv_iload_n hx hb dX6_most_6 rfl (lv_at hl 2 rfl) ?_
  obtain ⟨r1, hc2, h⟩ := bd1_s h
  refine g_callRi (As := [.int (1 : Int32), .int p1, .int p2]) (rest := []) (r := r1) ⟨hx, hb, hml, hown, hts⟩ (kX1_mayBeBooked E l (an 0) (an 1) (an 2) (an 3) (an 4) (an 5) (an 6) (an 7) (an 8) (an 9) (an 10) (an 11) (an 12) (an 13) (an 14) (an 15) (an 16) (an 17) (an 18) (an 19) xn.1 xn.2.1 xn.2.2.1 xn.2.2.2.1 xn.2.2.2.2.1 xn.2.2.2.2.2.1 xn.2.2.2.2.2.2.1 xn.2.2.2.2.2.2.2.1 xn.2.2.2.2.2.2.2.2.1 xn.2.2.2.2.2.2.2.2.2.1 xn.2.2.2.2.2.2.2.2.2.2.1 xn.2.2.2.2.2.2.2.2.2.2.2.1 xn.2.2.2.2.2.2.2.2.2.2.2.2.1 xn.2.2.2.2.2.2.2.2.2.2.2.2.2.1 xn.2.2.2.2.2.2.2.2.2.2.2.2.2.2.1 xn.2.2.2.2.2.2.2.2.2.2.2.2.2.2.2.1 xn.2.2.2.2.2.2.2.2.2.2.2.2.2.2.2.2.1 xn.2.2.2.2.2.2.2.2.2.2.2.2.2.2.2.2.2.1 xn.2.2.2.2.2.2.2.2.2.2.2.2.2.2.2.2.2.2.1 xn.2.2.2.2.2.2.2.2.2.2.2.2.2.2.2.2.2.2.2.1 xn.2.2.2.2.2.2.2.2.2.2.2.2.2.2.2.2.2.2.2.2.1 xn.2.2.2.2.2.2.2.2.2.2.2.2.2.2.2.2.2.2.2.2.2.1 xn.2.2.2.2.2.2.2.2.2.2.2.2.2.2.2.2.2.2.2.2.2.2.1 xn.2.2.2.2.2.2.2.2.2.2.2.2.2.2.2.2.2.2.2.2.2.2.2.1 xn.2.2.2.2.2.2.2.2.2.2.2.2.2.2.2.2.2.2.2.2.2.2.2.2.1 xn.2.2.2.2.2.2.2.2.2.2.2.2.2.2.2.2.2.2.2.2.2.2.2.2.2 (1 : Int32) p1 p2 r1 hc2) (cwV 3 hts gX6_most_X1_mayBeBooked rfl rfl rfl (by decide +kernel) ⟨Nat.le_of_ble_eq_true rfl, Nat.le_of_ble_eq_true rfl⟩) hK hP hD hS hA hG hl [7, 8, 9, 10, 11, 12, 13, 14, 15, 16, 17, 18, 19, 20, 21, 22, 23, 24, 25, 26] 7 (by decide) rfl (ci := 1) rfl rfl rfl rfl rfl rfl rfl (Nat.le_of_ble_eq_true rfl) dX6_most_7 (Nat.zero_le _) (Nat.zero_le _) (fun H locs hP hD hS => ?_)
  refine lv_if_ne (tgt := 15) hx hb dX6_most_10 (by decide) (fun hc3 => ?_) (fun hc3 => ?_)
  · replace h := g_if hc3 h
    refine lv_aload_n hx hb dX6_most_15 rfl (lv_at hl 0 rfl) ?_
    refine va_get (D := E.1) (cl := vwCl) (ci := 6) (v := .ref (an 0)) (C := RX6) (T := TX6) (N := 7) hx hb hts hiX6 hown hK hP 0 rfl rfl 0 (by decide) hw0 (fun _ h9 => h9) rfl dX6_most_16 ?_
    refine va_get (D := E.1) (cl := vwCl) (ci := 1) (v := .ref (an 11)) (C := RX1) (T := TX1) (N := 10) hx hb hts hiX1 hown hK hP 7 rfl rfl 1 (by decide) hw1 (fun _ h9 => h9) rfl dX6_most_19 ?_
    refine va_get (D := E.1) (cl := vwCl) (ci := 2) (v := .int xn.2.2.2.2.2.2.2.2.2.2.2.2.2.2.2.2.2.1) (C := RX2) (T := TX2) (N := 7) hx hb hts hiX2 hown hK hP 18 rfl rfl 6 (by decide) hw2 (fun _ h9 => h9) rfl dX6_most_22 ?_
    refine lv_bipush (v := (16 : Int32)) hx hb dX6_most_25 (by decide) ?_
    refine lv_icmp_lt (tgt := 33) hx hb dX6_most_27 (by decide) (fun hc4 => ?_) (fun hc4 => ?_)
    · replace h := g_it hc4 h
      refine lv_bipush (v := (6 : Int32)) hx hb dX6_most_33 (by decide) ?_
      refine lv_istore_n (lv' := [(3, .int (6 : Int32)), (0, .ref g0), (1, .int p1), (2, .int p2)]) hx hb dX6_most_35 rfl hl (by decide) rfl (fun ls hl => ?_)
      refine gl2_e h (fun S_rec5 hS_rec5 h => ?_)
      have hL_rec5 : ∀ (nF : Nat) (v6 : Int32) (xt7 : HutS) (H : Heap) (locs : List Loc) (ls : Array Slot), va_P E.1 vwCl (List.flatten [[(g0, .inr (6, [.ref (an 0), .ref (au 0), .ref (ap 0), .ref q0, .ref x0, .ref r0, .int ke]))], [(q0, .inr (0, [.ref q1, .int lnn]))], wHa E q1 ba pm, wTx E x0 x1 x2 ch tl nu le nx, [(r0, .inr (3, [.ref (ar 0), .ref (aw 0), .int cmd, .int pos, .int rea, .int cau]))], wHuT E an xn, wHuT E au xt7, wHuT E ap xp, wHuT E ar xr, wHuT E aw xw, wHuT E (ba 0) h0, wHuT E (ba 1) h1, wHuT E (ba 2) h2, wHuT E (ba 3) h3, wHuT E (ba 4) h4]) H → va_S A s.heap H locs → lv_has ls 4 [(3, .int v6), (0, .ref g0), (1, .int p1), (2, .int p2)] → gl2 S_rec5 nF v6 xt7 = some res → W p l e ({ frames := 3, cells := 0, slots := 0, locals := 78 } : Room) s m args below meth c H locs 0 0 Q (F0 m 36 ls []) := by
        intro nF
        induction nF with
        | zero => intro v6 xt7 H locs ls hP hS hl h; exact gl2_z h
        | succ nF ih_rec5 =>
          intro v6 xt7 H locs ls hP hS hl h
          replace hD : va_D A (List.flatten [[(g0, .inr (6, [.ref (an 0), .ref (au 0), .ref (ap 0), .ref q0, .ref x0, .ref r0, .int ke]))], [(q0, .inr (0, [.ref q1, .int lnn]))], wHa E q1 ba pm, wTx E x0 x1 x2 ch tl nu le nx, [(r0, .inr (3, [.ref (ar 0), .ref (aw 0), .int cmd, .int pos, .int rea, .int cau]))], wHuT E an xn, wHuT E au xt7, wHuT E ap xp, wHuT E ar xr, wHuT E aw xw, wHuT E (ba 0) h0, wHuT E (ba 1) h1, wHuT E (ba 2) h2, wHuT E (ba 3) h3, wHuT E (ba 4) h4]) := gD_same hD rfl
          replace h : S_rec5 (gl2 S_rec5 nF) v6 xt7 = some res := h
          generalize gl2 S_rec5 nF = rec5 at h ih_rec5
          subst hS_rec5
          unfold sX6_most_rec5 at h
          refine lv_iload_n hx hb dX6_most_36 rfl (lv_at hl 0 rfl) ?_
          refine lv_iconst (v := (1 : Int32)) hx hb dX6_most_37 (by decide) ?_
          refine lv_icmp_lt (tgt := 73) hx hb dX6_most_38 (by decide) (fun hc8 => ?_) (fun hc8 => ?_)
          · replace h := g_it hc8 h
            refine lv_iconst (v := (0 : Int32)) hx hb dX6_most_73 (by decide) ?_
            exact hret ((0 : Int32), xt7) _ _ _ _ _ (Option.some.inj h) hP hS rfl dX6_most_74
          · replace h := g_if hc8 h
            refine lv_aload_n hx hb dX6_most_41 rfl (lv_at hl 1 rfl) ?_
            refine va_get (D := E.1) (cl := vwCl) (ci := 6) (v := .ref (au 0)) (C := RX6) (T := TX6) (N := 7) hx hb hts hiX6 hown hK hP 0 rfl rfl 1 (by decide) hw3 (fun _ h9 => h9) rfl dX6_most_42 ?_
            refine lv_aload_n hx hb dX6_most_45 rfl (lv_at hl 1 rfl) ?_
            refine va_get (D := E.1) (cl := vwCl) (ci := 6) (v := .ref (an 0)) (C := RX6) (T := TX6) (N := 7) hx hb hts hiX6 hown hK hP 0 rfl rfl 0 (by decide) hw0 (fun _ h9 => h9) rfl dX6_most_46 ?_
            obtain ⟨xt_10, hc11, h⟩ := bd1_s h
            refine g_callBv (As := [.ref (an 0)]) (rest := []) (bs1 := [[(g0, .inr (6, [.ref (an 0), .ref (au 0), .ref (ap 0), .ref q0, .ref x0, .ref r0, .int ke]))], [(q0, .inr (0, [.ref q1, .int lnn]))], wHa E q1 ba pm, wTx E x0 x1 x2 ch tl nu le nx, [(r0, .inr (3, [.ref (ar 0), .ref (aw 0), .int cmd, .int pos, .int rea, .int cau]))], wHuT E an xn, wHuT E au xt_10, wHuT E ap xp, wHuT E ar xr, wHuT E aw xw, wHuT E (ba 0) h0, wHuT E (ba 1) h1, wHuT E (ba 2) h2, wHuT E (ba 3) h3, wHuT E (ba 4) h4]) ⟨hx, hb, hml, hown, hts⟩ (kgX1_copyFrom E l au an xt7 xn xt_10 hc11) (cwV 1 hts gX6_most_X1_copyFrom rfl rfl rfl (by decide +kernel) ⟨Nat.le_of_ble_eq_true rfl, Nat.le_of_ble_eq_true rfl⟩) hK hP hD hS hA hG hl [6, 5] 6 0 (by decide) rfl (ci := 1) rfl rfl rfl rfl rfl rfl rfl rfl rfl (Nat.le_of_ble_eq_true rfl) dX6_most_49 (Nat.zero_le _) (Nat.zero_le _) (fun H locs hP hD hS => ?_)
            refine lv_aload_n hx hb dX6_most_52 rfl (lv_at hl 1 rfl) ?_
            refine va_get (D := E.1) (cl := vwCl) (ci := 6) (v := .ref (au 0)) (C := RX6) (T := TX6) (N := 7) hx hb hts hiX6 hown hK hP 0 rfl rfl 1 (by decide) hw3 (fun _ h9 => h9) rfl dX6_most_53 ?_
            refine lv_iload_n hx hb dX6_most_56 rfl (lv_at hl 0 rfl) ?_
            refine lv_iload_n hx hb dX6_most_57 rfl (lv_at hl 2 rfl) ?_
            refine lv_iload_n hx hb dX6_most_58 rfl (lv_at hl 3 rfl) ?_
            obtain ⟨r12, xt_14, hc15, h⟩ := bd2_s h
            refine g_callBi (As := [.int v6, .int p1, .int p2]) (rest := []) (r := r12) (bs1 := [[(g0, .inr (6, [.ref (an 0), .ref (au 0), .ref (ap 0), .ref q0, .ref x0, .ref r0, .int ke]))], [(q0, .inr (0, [.ref q1, .int lnn]))], wHa E q1 ba pm, wTx E x0 x1 x2 ch tl nu le nx, [(r0, .inr (3, [.ref (ar 0), .ref (aw 0), .int cmd, .int pos, .int rea, .int cau]))], wHuT E an xn, wHuT E au xt_14, wHuT E ap xp, wHuT E ar xr, wHuT E aw xw, wHuT E (ba 0) h0, wHuT E (ba 1) h1, wHuT E (ba 2) h2, wHuT E (ba 3) h3, wHuT E (ba 4) h4]) ⟨hx, hb, hml, hown, hts⟩ (kgX1_wouldSuffice E l au xt_10 v6 p1 p2 (r12, xt_14) hc15) (cwV 3 hts gX6_most_X1_wouldSuffice rfl rfl rfl (by decide +kernel) ⟨Nat.le_of_ble_eq_true rfl, Nat.le_of_ble_eq_true rfl⟩) hK hP hD hS hA hG hl [6] 6 0 (by decide) rfl (ci := 1) rfl rfl rfl rfl rfl rfl rfl rfl rfl rfl (Nat.le_of_ble_eq_true rfl) dX6_most_59 (Nat.zero_le _) (Nat.zero_le _) (fun H locs hP hD hS => ?_)
            refine lv_if_eq (tgt := 67) hx hb dX6_most_62 (by decide) (fun hc16 => ?_) (fun hc16 => ?_)
            · replace h := g_it hc16 h
              obtain ⟨v17, e_v17⟩ : ∃ y : Int32, y = (v6 + (-1 : Int32)) := ⟨_, rfl⟩
              replace h := jl_s e_v17 h
              refine lv_iinc (v := v17) (lv' := [(3, .int v17), (0, .ref g0), (1, .int p1), (2, .int p2)]) hx hb dX6_most_67 hl (k := 0) rfl (by rw [e_v17]; rfl) (by decide) rfl (fun ls hl => ?_)
              refine lv_goto (tgt := 36) hx hb dX6_most_70 (by decide) ?_
              exact ih_rec5 v17 xt_14 _ _ _ hP hS (lv_sub hl [0, 1, 2, 3] rfl) h
            · replace h := g_if hc16 h
              refine lv_iload_n hx hb dX6_most_65 rfl (lv_at hl 0 rfl) ?_
              exact hret (v6, xt_14) _ _ _ _ _ (Option.some.inj h) hP hS rfl dX6_most_66
      exact hL_rec5 gFU (6 : Int32) xt _ _ _ hP hS (lv_sub hl [0, 1, 2, 3] rfl) h
    · replace h := g_if hc4 h
      refine lv_bipush (v := (-3 : Int32)) hx hb dX6_most_30 (by decide) ?_
      exact hret ((-3 : Int32), xt) _ _ _ _ _ (Option.some.inj h) hP hS rfl dX6_most_32
  · replace h := g_it hc3 h
    refine lv_iconst (v := (-1 : Int32)) hx hb dX6_most_13 (by decide) ?_
    exact hret ((-1 : Int32), xt) _ _ _ _ _ (Option.some.inj h) hP hS rfl dX6_most_14
set_option maxHeartbeats 4000000 in
set_option maxRecDepth 100000 in
theorem kX6_outOn (E : gE) (l : Launch) (g0 q0 q1 x0 x1 x2 r0 : Nat) (an au ap ar aw : Nat → Nat) (ba : Nat → Nat → Nat) (ke : Int32) (lnn : Int32) (pm : Nat → Nat) (ch : Nat → Int32) (tl : Int32) (nu : Nat → Int32) (le : Int32) (nx : Int32) (cmd : Int32) (pos : Int32) (rea : Int32) (cau : Int32) (xn : HutS) (xt : HutS) (xp : HutS) (xr : HutS) (xw : HutS) (h0 : HutS) (h1 : HutS) (h2 : HutS) (h3 : HutS) (h4 : HutS) (p1 : Int32) (res : Int32 × HutS) (h : fX6_outOn xn xt p1 = some res) : gMI E l yX6_outOn wsX6_outOn ({ frames := 3, cells := 0, slots := 0, locals := 76 } : Room) [.ref g0, .int p1] (List.flatten [[(g0, .inr (6, [.ref (an 0), .ref (au 0), .ref (ap 0), .ref q0, .ref x0, .ref r0, .int ke]))], [(q0, .inr (0, [.ref q1, .int lnn]))], wHa E q1 ba pm, wTx E x0 x1 x2 ch tl nu le nx, [(r0, .inr (3, [.ref (ar 0), .ref (aw 0), .int cmd, .int pos, .int rea, .int cau]))], wHuT E an xn, wHuT E au xt, wHuT E ap xp, wHuT E ar xr, wHuT E aw xw, wHuT E (ba 0) h0, wHuT E (ba 1) h1, wHuT E (ba 2) h2, wHuT E (ba 3) h3, wHuT E (ba 4) h4]) (fun res : Int32 × HutS => (List.flatten [[(g0, .inr (6, [.ref (an 0), .ref (au 0), .ref (ap 0), .ref q0, .ref x0, .ref r0, .int ke]))], [(q0, .inr (0, [.ref q1, .int lnn]))], wHa E q1 ba pm, wTx E x0 x1 x2 ch tl nu le nx, [(r0, .inr (3, [.ref (ar 0), .ref (aw 0), .int cmd, .int pos, .int rea, .int cau]))], wHuT E an xn, wHuT E au res.2, wHuT E ap xp, wHuT E ar xr, wHuT E aw xw, wHuT E (ba 0) h0, wHuT E (ba 1) h1, wHuT E (ba 2) h2, wHuT E (ba 3) h3, wHuT E (ba 4) h4])) (fun res => res.1) res := by
  refine g_entI (cc := cX6_outOn) (maxL := 2) (by decide) rfl (Nat.le_of_ble_eq_true rfl) ?_
  intro p e s m args below meth c A Q ls hx hb hml hown hts hK hP hD hS hA hG hret hl
  unfold fX6_outOn at h
  replace hl : lv_has ls 2 [(0, .ref g0), (1, .int p1)] := hl
  have hiX6 : ∀ w ∈ wsX60, w ∈ wsX6_outOn := by decide +kernel
  have hw0 := hts (.fieldLink RX6 16 "GlacierHut" "trial" "LGlacierHut$Hut;") (by decide +kernel)
  have hw1 := hts (.fieldLink RX6 10 "GlacierHut" "now" "LGlacierHut$Hut;") (by decide +kernel)
  refine lv_iload_n hx hb dX6_outOn_0 rfl (lv_at hl 1 rfl) ?_
  obtain ⟨r1, hc2, h⟩ := bd1_s h
  refine g_callSi (As := [.int p1]) (rest := []) (r := r1) ⟨hx, hb, hml, hown, hts⟩ (kX4_isKind E l p1 r1 hc2) (va_cwS 1 hts gX6_outOn_X4_isKind rfl rfl rfl (by decide +kernel) ⟨Nat.le_of_ble_eq_true rfl, Nat.le_of_ble_eq_true rfl⟩) hK hP hD hS hA hG hl rfl rfl rfl (Nat.le_of_ble_eq_true rfl) dX6_outOn_1 (Nat.zero_le _) (Nat.zero_le _) (fun H locs hP hD hS => ?_)
  refine lv_if_ne (tgt := 9) hx hb dX6_outOn_4 (by decide) (fun hc3 => ?_) (fun hc3 => ?_)
  · replace h := g_if hc3 h
    refine lv_aload_n hx hb dX6_outOn_9 rfl (lv_at hl 0 rfl) ?_
    refine va_get (D := E.1) (cl := vwCl) (ci := 6) (v := .ref (au 0)) (C := RX6) (T := TX6) (N := 7) hx hb hts hiX6 hown hK hP 0 rfl rfl 1 (by decide) hw0 (fun _ h9 => h9) rfl dX6_outOn_10 ?_
    refine lv_aload_n hx hb dX6_outOn_13 rfl (lv_at hl 0 rfl) ?_
    refine va_get (D := E.1) (cl := vwCl) (ci := 6) (v := .ref (an 0)) (C := RX6) (T := TX6) (N := 7) hx hb hts hiX6 hown hK hP 0 rfl rfl 0 (by decide) hw1 (fun _ h9 => h9) rfl dX6_outOn_14 ?_
    obtain ⟨xt_5, hc6, h⟩ := bd1_s h
    refine g_callBv (As := [.ref (an 0)]) (rest := []) (bs1 := [[(g0, .inr (6, [.ref (an 0), .ref (au 0), .ref (ap 0), .ref q0, .ref x0, .ref r0, .int ke]))], [(q0, .inr (0, [.ref q1, .int lnn]))], wHa E q1 ba pm, wTx E x0 x1 x2 ch tl nu le nx, [(r0, .inr (3, [.ref (ar 0), .ref (aw 0), .int cmd, .int pos, .int rea, .int cau]))], wHuT E an xn, wHuT E au xt_5, wHuT E ap xp, wHuT E ar xr, wHuT E aw xw, wHuT E (ba 0) h0, wHuT E (ba 1) h1, wHuT E (ba 2) h2, wHuT E (ba 3) h3, wHuT E (ba 4) h4]) ⟨hx, hb, hml, hown, hts⟩ (kgX1_copyFrom E l au an xt xn xt_5 hc6) (cwV 1 hts gX6_outOn_X1_copyFrom rfl rfl rfl (by decide +kernel) ⟨Nat.le_of_ble_eq_true rfl, Nat.le_of_ble_eq_true rfl⟩) hK hP hD hS hA hG hl [6, 5] 6 0 (by decide) rfl (ci := 1) rfl rfl rfl rfl rfl rfl rfl rfl rfl (Nat.le_of_ble_eq_true rfl) dX6_outOn_17 (Nat.zero_le _) (Nat.zero_le _) (fun H locs hP hD hS => ?_)
    refine lv_aload_n hx hb dX6_outOn_20 rfl (lv_at hl 0 rfl) ?_
    refine va_get (D := E.1) (cl := vwCl) (ci := 6) (v := .ref (au 0)) (C := RX6) (T := TX6) (N := 7) hx hb hts hiX6 hown hK hP 0 rfl rfl 1 (by decide) hw0 (fun _ h9 => h9) rfl dX6_outOn_21 ?_
    refine lv_iload_n hx hb dX6_outOn_24 rfl (lv_at hl 1 rfl) ?_
    obtain ⟨r7, xt_9, hc10, h⟩ := bd2_s h
    refine g_callBi (As := [.int p1]) (rest := []) (r := r7) (bs1 := [[(g0, .inr (6, [.ref (an 0), .ref (au 0), .ref (ap 0), .ref q0, .ref x0, .ref r0, .int ke]))], [(q0, .inr (0, [.ref q1, .int lnn]))], wHa E q1 ba pm, wTx E x0 x1 x2 ch tl nu le nx, [(r0, .inr (3, [.ref (ar 0), .ref (aw 0), .int cmd, .int pos, .int rea, .int cau]))], wHuT E an xn, wHuT E au xt_9, wHuT E ap xp, wHuT E ar xr, wHuT E aw xw, wHuT E (ba 0) h0, wHuT E (ba 1) h1, wHuT E (ba 2) h2, wHuT E (ba 3) h3, wHuT E (ba 4) h4]) ⟨hx, hb, hml, hown, hts⟩ (kgX1_dayWhenOut E l au xt_5 p1 (r7, xt_9) hc10) (cwV 1 hts gX6_outOn_X1_dayWhenOut rfl rfl rfl (by decide +kernel) ⟨Nat.le_of_ble_eq_true rfl, Nat.le_of_ble_eq_true rfl⟩) hK hP hD hS hA hG hl [6] 6 0 (by decide) rfl (ci := 1) rfl rfl rfl rfl rfl rfl rfl rfl rfl rfl (Nat.le_of_ble_eq_true rfl) dX6_outOn_25 (Nat.zero_le _) (Nat.zero_le _) (fun H locs hP hD hS => ?_)
    exact hret (r7, xt_9) _ _ _ _ _ (Option.some.inj h) hP hS rfl dX6_outOn_28
  · replace h := g_it hc3 h
    refine lv_iconst (v := (-1 : Int32)) hx hb dX6_outOn_7 (by decide) ?_
    exact hret ((-1 : Int32), xt) _ _ _ _ _ (Option.some.inj h) hP hS rfl dX6_outOn_8
set_option maxHeartbeats 4000000 in
set_option maxRecDepth 100000 in
theorem kX6_partyOf (E : gE) (l : Launch) (g0 q0 q1 x0 x1 x2 r0 : Nat) (an au ap ar aw : Nat → Nat) (ba : Nat → Nat → Nat) (ke : Int32) (lnn : Int32) (pm : Nat → Nat) (ch : Nat → Int32) (tl : Int32) (nu : Nat → Int32) (le : Int32) (nx : Int32) (cmd : Int32) (pos : Int32) (rea : Int32) (cau : Int32) (xn : HutS) (xt : HutS) (xp : HutS) (xr : HutS) (xw : HutS) (h0 : HutS) (h1 : HutS) (h2 : HutS) (h3 : HutS) (h4 : HutS) (p1 : Int32) (p2 : Int32) (res : Int32) (h : fX6_partyOf xn p1 p2 = some res) : gMI E l yX6_partyOf wsX6_partyOf ({ frames := 1, cells := 0, slots := 0, locals := 21 } : Room) [.ref g0, .int p1, .int p2] (List.flatten [[(g0, .inr (6, [.ref (an 0), .ref (au 0), .ref (ap 0), .ref q0, .ref x0, .ref r0, .int ke]))], [(q0, .inr (0, [.ref q1, .int lnn]))], wHa E q1 ba pm, wTx E x0 x1 x2 ch tl nu le nx, [(r0, .inr (3, [.ref (ar 0), .ref (aw 0), .int cmd, .int pos, .int rea, .int cau]))], wHuT E an xn, wHuT E au xt, wHuT E ap xp, wHuT E ar xr, wHuT E aw xw, wHuT E (ba 0) h0, wHuT E (ba 1) h1, wHuT E (ba 2) h2, wHuT E (ba 3) h3, wHuT E (ba 4) h4]) (fun res : Int32 => (List.flatten [[(g0, .inr (6, [.ref (an 0), .ref (au 0), .ref (ap 0), .ref q0, .ref x0, .ref r0, .int ke]))], [(q0, .inr (0, [.ref q1, .int lnn]))], wHa E q1 ba pm, wTx E x0 x1 x2 ch tl nu le nx, [(r0, .inr (3, [.ref (ar 0), .ref (aw 0), .int cmd, .int pos, .int rea, .int cau]))], wHuT E an xn, wHuT E au xt, wHuT E ap xp, wHuT E ar xr, wHuT E aw xw, wHuT E (ba 0) h0, wHuT E (ba 1) h1, wHuT E (ba 2) h2, wHuT E (ba 3) h3, wHuT E (ba 4) h4])) (fun res => res) res := by
  refine g_entI (cc := cX6_partyOf) (maxL := 4) (by decide) rfl (Nat.le_of_ble_eq_true rfl) ?_
  intro p e s m args below meth c A Q ls hx hb hml hown hts hK hP hD hS hA hG hret hl
  unfold fX6_partyOf at h
  replace hl : lv_has ls 4 [(0, .ref g0), (1, .int p1), (2, .int p2)] := hl
  have hiX1 : ∀ w ∈ wsX10, w ∈ wsX6_partyOf := by decide +kernel
  have hiX2 : ∀ w ∈ wsX20, w ∈ wsX6_partyOf := by decide +kernel
  have hiX6 : ∀ w ∈ wsX60, w ∈ wsX6_partyOf := by decide +kernel
  have hw0 := hts (.fieldLink RX6 10 "GlacierHut" "now" "LGlacierHut$Hut;") (by decide +kernel)
  have hw1 := hts (.fieldLink RX6 121 "GlacierHut$Hut" "parties" "LGlacierHut$Parties;") (by decide +kernel)
  have hw2 := hts (.fieldLink RX6 130 "GlacierHut$Parties" "size" "[I") (by decide +kernel)
  have hw3 := hts (.fieldLink RX6 133 "GlacierHut$Parties" "day" "[I") (by decide +kernel)
  have hw4 := hts (.fieldLink RX6 136 "GlacierHut$Parties" "nights" "[I") (by decide +kernel)
  have hw5 := hts (.fieldLink RX6 139 "GlacierHut$Parties" "status" "[I") (by decide +kernel)
  have hw6 := hts (.fieldLink RX6 142 "GlacierHut$Parties" "slept" "[I") (by decide +kernel)
  have hw7 := hts (.fieldLink RX6 145 "GlacierHut$Parties" "came" "[I") (by decide +kernel)
  have hw8 := hts (.methodLink RX6 148 Lib.Math.max.name) (by decide +kernel)
  have hw9 := hts (.static Lib.Math.max.name) (by decide +kernel)
  have hw10 := hts (.initialized "java/lang/Math") (by decide +kernel)
  have hw11 := hts (.code Lib.Math.max.name Lib.Math.max.code 2 (some .int)) (by decide +kernel)
  refine lv_aload_n hx hb dX6_partyOf_0 rfl (lv_at hl 0 rfl) ?_
  refine va_get (D := E.1) (cl := vwCl) (ci := 6) (v := .ref (an 0)) (C := RX6) (T := TX6) (N := 7) hx hb hts hiX6 hown hK hP 0 rfl rfl 0 (by decide) hw0 (fun _ h9 => h9) rfl dX6_partyOf_1 ?_
  refine va_get (D := E.1) (cl := vwCl) (ci := 1) (v := .ref (an 11)) (C := RX1) (T := TX1) (N := 10) hx hb hts hiX1 hown hK hP 7 rfl rfl 1 (by decide) hw1 (fun _ h9 => h9) rfl dX6_partyOf_4 ?_
  refine lv_astore_n (lv' := [(3, .ref (an 11)), (0, .ref g0), (1, .int p1), (2, .int p2)]) hx hb dX6_partyOf_7 rfl hl (by decide) rfl (fun ls hl => ?_)
  refine lv_aload_n hx hb dX6_partyOf_8 rfl (lv_at hl 0 rfl) ?_
  refine lv_iload_n hx hb dX6_partyOf_9 rfl (lv_at hl 2 rfl) ?_
  obtain ⟨r1, hc2, h⟩ := bd1_s h
  refine g_callRi (As := [.int p1]) (rest := []) (r := r1) ⟨hx, hb, hml, hown, hts⟩ (kX2_has E l (an 11) (an 12) (an 13) (an 14) (an 15) (an 16) (an 17) xn.2.2.2.2.2.2.2.2.2.2.2.1 xn.2.2.2.2.2.2.2.2.2.2.2.2.1 xn.2.2.2.2.2.2.2.2.2.2.2.2.2.1 xn.2.2.2.2.2.2.2.2.2.2.2.2.2.2.1 xn.2.2.2.2.2.2.2.2.2.2.2.2.2.2.2.1 xn.2.2.2.2.2.2.2.2.2.2.2.2.2.2.2.2.1 xn.2.2.2.2.2.2.2.2.2.2.2.2.2.2.2.2.2.1 p1 r1 hc2) (cwV 1 hts gX6_partyOf_X2_has rfl rfl rfl (by decide +kernel) ⟨Nat.le_of_ble_eq_true rfl, Nat.le_of_ble_eq_true rfl⟩) hK hP hD hS hA hG hl [18, 19, 20, 21, 22, 23, 24] 18 (by decide) rfl (ci := 2) rfl rfl rfl rfl rfl rfl rfl (Nat.le_of_ble_eq_true rfl) dX6_partyOf_10 (Nat.zero_le _) (Nat.zero_le _) (fun H locs hP hD hS => ?_)
  refine lv_if_ne (tgt := 18) hx hb dX6_partyOf_13 (by decide) (fun hc3 => ?_) (fun hc3 => ?_)
  · replace h := g_if hc3 h
    refine lv_iload_n hx hb dX6_partyOf_18 rfl (lv_at hl 3 rfl) ?_
    by_cases hk4 : p2 = (0 : Int32)
    · replace h := g_it hk4 h
      refine lv_tableIn (tgt := 60) (off := 41) hx hb dX6_partyOf_19 (by rw [hk4]; decide) (by rw [hk4]; decide) (by rw [hk4]; rfl) (by decide) ?_
      refine lv_aload_n hx hb dX6_partyOf_60 rfl (lv_at hl 0 rfl) ?_
      refine va_get (D := E.1) (cl := vwCl) (ci := 2) (v := .ref (an 12)) (C := RX2) (T := TX2) (N := 7) hx hb hts hiX2 hown hK hP 18 rfl rfl 0 (by decide) hw2 (fun _ h9 => h9) rfl dX6_partyOf_61 ?_
      refine lv_iload_n hx hb dX6_partyOf_64 rfl (lv_at hl 2 rfl) ?_
      obtain ⟨hg11, h⟩ := gd_s h
      refine va_iald (D := E.1) (cl := vwCl) (tys := gT E) hx hb hK hP 19 0 rfl rfl (inB_in hg11) dX6_partyOf_65 ?_
      exact hret (xn.2.2.2.2.2.2.2.2.2.2.2.1 (p1).toNatClampNeg) _ _ _ _ _ (Option.some.inj h) hP hS rfl dX6_partyOf_66
    replace h := g_if hk4 h
    by_cases hk5 : p2 = (1 : Int32)
    · replace h := g_it hk5 h
      refine lv_tableIn (tgt := 67) (off := 48) hx hb dX6_partyOf_19 (by rw [hk5]; decide) (by rw [hk5]; decide) (by rw [hk5]; rfl) (by decide) ?_
      refine lv_aload_n hx hb dX6_partyOf_67 rfl (lv_at hl 0 rfl) ?_
      refine va_get (D := E.1) (cl := vwCl) (ci := 2) (v := .ref (an 13)) (C := RX2) (T := TX2) (N := 7) hx hb hts hiX2 hown hK hP 18 rfl rfl 1 (by decide) hw3 (fun _ h9 => h9) rfl dX6_partyOf_68 ?_
      refine lv_iload_n hx hb dX6_partyOf_71 rfl (lv_at hl 2 rfl) ?_
      obtain ⟨hg12, h⟩ := gd_s h
      refine va_iald (D := E.1) (cl := vwCl) (tys := gT E) hx hb hK hP 20 0 rfl rfl (inB_in hg12) dX6_partyOf_72 ?_
      exact hret (xn.2.2.2.2.2.2.2.2.2.2.2.2.1 (p1).toNatClampNeg) _ _ _ _ _ (Option.some.inj h) hP hS rfl dX6_partyOf_73
    replace h := g_if hk5 h
    by_cases hk6 : p2 = (2 : Int32)
    · replace h := g_it hk6 h
      refine lv_tableIn (tgt := 74) (off := 55) hx hb dX6_partyOf_19 (by rw [hk6]; decide) (by rw [hk6]; decide) (by rw [hk6]; rfl) (by decide) ?_
      refine lv_aload_n hx hb dX6_partyOf_74 rfl (lv_at hl 0 rfl) ?_
      refine va_get (D := E.1) (cl := vwCl) (ci := 2) (v := .ref (an 14)) (C := RX2) (T := TX2) (N := 7) hx hb hts hiX2 hown hK hP 18 rfl rfl 2 (by decide) hw4 (fun _ h9 => h9) rfl dX6_partyOf_75 ?_
      refine lv_iload_n hx hb dX6_partyOf_78 rfl (lv_at hl 2 rfl) ?_
      obtain ⟨hg13, h⟩ := gd_s h
      refine va_iald (D := E.1) (cl := vwCl) (tys := gT E) hx hb hK hP 21 0 rfl rfl (inB_in hg13) dX6_partyOf_79 ?_
      exact hret (xn.2.2.2.2.2.2.2.2.2.2.2.2.2.1 (p1).toNatClampNeg) _ _ _ _ _ (Option.some.inj h) hP hS rfl dX6_partyOf_80
    replace h := g_if hk6 h
    by_cases hk7 : p2 = (3 : Int32)
    · replace h := g_it hk7 h
      refine lv_tableIn (tgt := 81) (off := 62) hx hb dX6_partyOf_19 (by rw [hk7]; decide) (by rw [hk7]; decide) (by rw [hk7]; rfl) (by decide) ?_
      refine lv_aload_n hx hb dX6_partyOf_81 rfl (lv_at hl 0 rfl) ?_
      refine va_get (D := E.1) (cl := vwCl) (ci := 2) (v := .ref (an 15)) (C := RX2) (T := TX2) (N := 7) hx hb hts hiX2 hown hK hP 18 rfl rfl 3 (by decide) hw5 (fun _ h9 => h9) rfl dX6_partyOf_82 ?_
      refine lv_iload_n hx hb dX6_partyOf_85 rfl (lv_at hl 2 rfl) ?_
      obtain ⟨hg14, h⟩ := gd_s h
      refine va_iald (D := E.1) (cl := vwCl) (tys := gT E) hx hb hK hP 22 0 rfl rfl (inB_in hg14) dX6_partyOf_86 ?_
      exact hret (xn.2.2.2.2.2.2.2.2.2.2.2.2.2.2.1 (p1).toNatClampNeg) _ _ _ _ _ (Option.some.inj h) hP hS rfl dX6_partyOf_87
    replace h := g_if hk7 h
    by_cases hk8 : p2 = (4 : Int32)
    · replace h := g_it hk8 h
      refine lv_tableIn (tgt := 88) (off := 69) hx hb dX6_partyOf_19 (by rw [hk8]; decide) (by rw [hk8]; decide) (by rw [hk8]; rfl) (by decide) ?_
      refine lv_aload_n hx hb dX6_partyOf_88 rfl (lv_at hl 0 rfl) ?_
      refine va_get (D := E.1) (cl := vwCl) (ci := 2) (v := .ref (an 16)) (C := RX2) (T := TX2) (N := 7) hx hb hts hiX2 hown hK hP 18 rfl rfl 4 (by decide) hw6 (fun _ h9 => h9) rfl dX6_partyOf_89 ?_
      refine lv_iload_n hx hb dX6_partyOf_92 rfl (lv_at hl 2 rfl) ?_
      obtain ⟨hg15, h⟩ := gd_s h
      refine va_iald (D := E.1) (cl := vwCl) (tys := gT E) hx hb hK hP 23 0 rfl rfl (inB_in hg15) dX6_partyOf_93 ?_
      exact hret (xn.2.2.2.2.2.2.2.2.2.2.2.2.2.2.2.1 (p1).toNatClampNeg) _ _ _ _ _ (Option.some.inj h) hP hS rfl dX6_partyOf_94
    replace h := g_if hk8 h
    by_cases hk9 : p2 = (5 : Int32)
    · replace h := g_it hk9 h
      refine lv_tableIn (tgt := 95) (off := 76) hx hb dX6_partyOf_19 (by rw [hk9]; decide) (by rw [hk9]; decide) (by rw [hk9]; rfl) (by decide) ?_
      refine lv_aload_n hx hb dX6_partyOf_95 rfl (lv_at hl 0 rfl) ?_
      refine va_get (D := E.1) (cl := vwCl) (ci := 2) (v := .ref (an 17)) (C := RX2) (T := TX2) (N := 7) hx hb hts hiX2 hown hK hP 18 rfl rfl 5 (by decide) hw7 (fun _ h9 => h9) rfl dX6_partyOf_96 ?_
      refine lv_iload_n hx hb dX6_partyOf_99 rfl (lv_at hl 2 rfl) ?_
      obtain ⟨hg16, h⟩ := gd_s h
      refine va_iald (D := E.1) (cl := vwCl) (tys := gT E) hx hb hK hP 24 0 rfl rfl (inB_in hg16) dX6_partyOf_100 ?_
      refine lv_if_ge (tgt := 109) hx hb dX6_partyOf_101 (by decide) (fun hc17 => ?_) (fun hc17 => ?_)
      · replace h := g_it hc17 h
        refine lv_aload_n hx hb dX6_partyOf_109 rfl (lv_at hl 0 rfl) ?_
        refine va_get (D := E.1) (cl := vwCl) (ci := 2) (v := .ref (an 17)) (C := RX2) (T := TX2) (N := 7) hx hb hts hiX2 hown hK hP 18 rfl rfl 5 (by decide) hw7 (fun _ h9 => h9) rfl dX6_partyOf_110 ?_
        refine lv_iload_n hx hb dX6_partyOf_113 rfl (lv_at hl 2 rfl) ?_
        refine va_iald (D := E.1) (cl := vwCl) (tys := gT E) hx hb hK hP 24 0 rfl rfl (inB_in hg16) dX6_partyOf_114 ?_
        exact hret (xn.2.2.2.2.2.2.2.2.2.2.2.2.2.2.2.2.1 (p1).toNatClampNeg) _ _ _ _ _ (Option.some.inj h) hP hS rfl dX6_partyOf_115
      · replace h := g_if hc17 h
        refine lv_bipush (v := (-4 : Int32)) hx hb dX6_partyOf_104 (by decide) ?_
        refine lv_goto (tgt := 115) hx hb dX6_partyOf_106 (by decide) ?_
        exact hret (-4 : Int32) _ _ _ _ _ (Option.some.inj h) hP hS rfl dX6_partyOf_115
    replace h := g_if hk9 h
    by_cases hk10 : p2 = (6 : Int32)
    · replace h := g_it hk10 h
      refine lv_tableIn (tgt := 116) (off := 97) hx hb dX6_partyOf_19 (by rw [hk10]; decide) (by rw [hk10]; decide) (by rw [hk10]; rfl) (by decide) ?_
      refine lv_iconst (v := (0 : Int32)) hx hb dX6_partyOf_116 (by decide) ?_
      refine lv_aload_n hx hb dX6_partyOf_117 rfl (lv_at hl 0 rfl) ?_
      refine va_get (D := E.1) (cl := vwCl) (ci := 2) (v := .ref (an 16)) (C := RX2) (T := TX2) (N := 7) hx hb hts hiX2 hown hK hP 18 rfl rfl 4 (by decide) hw6 (fun _ h9 => h9) rfl dX6_partyOf_118 ?_
      refine lv_iload_n hx hb dX6_partyOf_121 rfl (lv_at hl 2 rfl) ?_
      obtain ⟨hg18, h⟩ := gd_s h
      refine va_iald (D := E.1) (cl := vwCl) (tys := gT E) hx hb hK hP 23 0 rfl rfl (inB_in hg18) dX6_partyOf_122 ?_
      refine lv_aload_n hx hb dX6_partyOf_123 rfl (lv_at hl 0 rfl) ?_
      refine va_get (D := E.1) (cl := vwCl) (ci := 2) (v := .ref (an 14)) (C := RX2) (T := TX2) (N := 7) hx hb hts hiX2 hown hK hP 18 rfl rfl 2 (by decide) hw4 (fun _ h9 => h9) rfl dX6_partyOf_124 ?_
      refine lv_iload_n hx hb dX6_partyOf_127 rfl (lv_at hl 2 rfl) ?_
      refine va_iald (D := E.1) (cl := vwCl) (tys := gT E) hx hb hK hP 21 0 rfl rfl (inB_in hg18) dX6_partyOf_128 ?_
      refine lv_isub hx hb dX6_partyOf_129 ?_
      refine va_mmax hx hb (hml.trans hl.1.symm) hown hw8 hw9 hw10 hw11 (Nat.le_of_ble_eq_true rfl) (Nat.le_of_ble_eq_true rfl) (Nat.zero_le _) (Nat.zero_le _) dX6_partyOf_130 ?_
      exact hret (if (0 : Int32) < ((xn.2.2.2.2.2.2.2.2.2.2.2.2.2.2.2.1 (p1).toNatClampNeg) - (xn.2.2.2.2.2.2.2.2.2.2.2.2.2.1 (p1).toNatClampNeg)) then ((xn.2.2.2.2.2.2.2.2.2.2.2.2.2.2.2.1 (p1).toNatClampNeg) - (xn.2.2.2.2.2.2.2.2.2.2.2.2.2.1 (p1).toNatClampNeg)) else (0 : Int32)) _ _ _ _ _ (Option.some.inj h) hP hS rfl dX6_partyOf_133
    replace h := g_if hk10 h
    refine lv_tableOut (tgt := 134) hx hb dX6_partyOf_19 (by have q0 := lv_neT (a := 0) hk4 (by decide); have q1 := lv_neT (a := 1) hk5 (by decide); have q2 := lv_neT (a := 2) hk6 (by decide); have q3 := lv_neT (a := 3) hk7 (by decide); have q4 := lv_neT (a := 4) hk8 (by decide); have q5 := lv_neT (a := 5) hk9 (by decide); have q6 := lv_neT (a := 6) hk10 (by decide); omega) (by decide) ?_
    refine lv_iconst (v := (-1 : Int32)) hx hb dX6_partyOf_134 (by decide) ?_
    exact hret (-1 : Int32) _ _ _ _ _ (Option.some.inj h) hP hS rfl dX6_partyOf_135
  · replace h := g_it hc3 h
    refine lv_iconst (v := (-1 : Int32)) hx hb dX6_partyOf_16 (by decide) ?_
    exact hret (-1 : Int32) _ _ _ _ _ (Option.some.inj h) hP hS rfl dX6_partyOf_17
set_option maxHeartbeats 4000000 in
set_option maxRecDepth 100000 in
theorem kX6_play (E : gE) (l : Launch) (g0 q0 q1 x0 x1 x2 r0 : Nat) (an au ap ar aw : Nat → Nat) (ba : Nat → Nat → Nat) (ke : Int32) (lnn : Int32) (pm : Nat → Nat) (ch : Nat → Int32) (tl : Int32) (nu : Nat → Int32) (le : Int32) (nx : Int32) (cmd : Int32) (pos : Int32) (rea : Int32) (cau : Int32) (xn : HutS) (xt : HutS) (xp : HutS) (xr : HutS) (xw : HutS) (h0 : HutS) (h1 : HutS) (h2 : HutS) (h3 : HutS) (h4 : HutS)  (res : Int32 × Int32 × (Nat → Nat) × (Nat → Int32) × Int32 × Int32 × Int32 × Int32 × Int32 × Int32 × HutS × HutS × HutS × HutS × HutS × HutS × HutS × HutS) (h : fX6_play lnn pm ch tl nu le nx xn xr xw h0 h1 h2 h3 h4  = some res) : gMI E l yX6_play wsX6_play ({ frames := 6, cells := 0, slots := 0, locals := 148 } : Room) [.ref g0] (List.flatten [[(g0, .inr (6, [.ref (an 0), .ref (au 0), .ref (ap 0), .ref q0, .ref x0, .ref r0, .int ke]))], [(q0, .inr (0, [.ref q1, .int lnn]))], wHa E q1 ba pm, wTx E x0 x1 x2 ch tl nu le nx, [(r0, .inr (3, [.ref (ar 0), .ref (aw 0), .int cmd, .int pos, .int rea, .int cau]))], wHuT E an xn, wHuT E au xt, wHuT E ap xp, wHuT E ar xr, wHuT E aw xw, wHuT E (ba 0) h0, wHuT E (ba 1) h1, wHuT E (ba 2) h2, wHuT E (ba 3) h3, wHuT E (ba 4) h4]) (fun res : Int32 × Int32 × (Nat → Nat) × (Nat → Int32) × Int32 × Int32 × Int32 × Int32 × Int32 × Int32 × HutS × HutS × HutS × HutS × HutS × HutS × HutS × HutS => (List.flatten [[(g0, .inr (6, [.ref (an 0), .ref (au 0), .ref (ap 0), .ref q0, .ref x0, .ref r0, .int ke]))], [(q0, .inr (0, [.ref q1, .int res.2.1]))], wHa E q1 ba res.2.2.1, wTx E x0 x1 x2 ch tl res.2.2.2.1 res.2.2.2.2.1 res.2.2.2.2.2.1, [(r0, .inr (3, [.ref (ar 0), .ref (aw 0), .int res.2.2.2.2.2.2.1, .int res.2.2.2.2.2.2.2.1, .int res.2.2.2.2.2.2.2.2.1, .int res.2.2.2.2.2.2.2.2.2.1]))], wHuT E an res.2.2.2.2.2.2.2.2.2.2.1, wHuT E au xt, wHuT E ap xp, wHuT E ar res.2.2.2.2.2.2.2.2.2.2.2.1, wHuT E aw res.2.2.2.2.2.2.2.2.2.2.2.2.1, wHuT E (ba 0) res.2.2.2.2.2.2.2.2.2.2.2.2.2.1, wHuT E (ba 1) res.2.2.2.2.2.2.2.2.2.2.2.2.2.2.1, wHuT E (ba 2) res.2.2.2.2.2.2.2.2.2.2.2.2.2.2.2.1, wHuT E (ba 3) res.2.2.2.2.2.2.2.2.2.2.2.2.2.2.2.2.1, wHuT E (ba 4) res.2.2.2.2.2.2.2.2.2.2.2.2.2.2.2.2.2])) (fun res => res.1) res := by
  refine g_entI (cc := cX6_play) (maxL := 1) (by decide) rfl (Nat.le_of_ble_eq_true rfl) ?_
  intro p e s m args below meth c A Q ls hx hb hml hown hts hK hP hD hS hA hG hret hl
  unfold fX6_play at h
  replace hl : lv_has ls 1 [(0, .ref g0)] := hl
  have hiX3 : ∀ w ∈ wsX30, w ∈ wsX6_play := by decide +kernel
  have hiX6 : ∀ w ∈ wsX60, w ∈ wsX6_play := by decide +kernel
  have hw0 := hts (.fieldLink RX6 39 "GlacierHut" "rehearsal" "LGlacierHut$Rehearsal;") (by decide +kernel)
  have hw1 := hts (.fieldLink RX6 32 "GlacierHut" "text" "LGlacierHut$Text;") (by decide +kernel)
  have hw2 := hts (.fieldLink RX6 10 "GlacierHut" "now" "LGlacierHut$Hut;") (by decide +kernel)
  have hw3 := hts (.fieldLink RX6 224 "GlacierHut$Rehearsal" "reason" "I") (by decide +kernel)
  have hw4 := hts (.fieldLink RX6 25 "GlacierHut" "history" "LGlacierHut$History;") (by decide +kernel)
  have hw5 := hts (.fieldLink RX6 233 "GlacierHut$Rehearsal" "hut" "LGlacierHut$Hut;") (by decide +kernel)
  have hw6 := hts (.fieldLink RX6 236 "GlacierHut$Rehearsal" "commands" "I") (by decide +kernel)
  refine lv_aload_n hx hb dX6_play_0 rfl (lv_at hl 0 rfl) ?_
  refine va_get (D := E.1) (cl := vwCl) (ci := 6) (v := .ref r0) (C := RX6) (T := TX6) (N := 7) hx hb hts hiX6 hown hK hP 0 rfl rfl 5 (by decide) hw0 (fun _ h9 => h9) rfl dX6_play_1 ?_
  refine lv_aload_n hx hb dX6_play_4 rfl (lv_at hl 0 rfl) ?_
  refine va_get (D := E.1) (cl := vwCl) (ci := 6) (v := .ref x0) (C := RX6) (T := TX6) (N := 7) hx hb hts hiX6 hown hK hP 0 rfl rfl 4 (by decide) hw1 (fun _ h9 => h9) rfl dX6_play_5 ?_
  refine lv_aload_n hx hb dX6_play_8 rfl (lv_at hl 0 rfl) ?_
  refine va_get (D := E.1) (cl := vwCl) (ci := 6) (v := .ref (an 0)) (C := RX6) (T := TX6) (N := 7) hx hb hts hiX6 hown hK hP 0 rfl rfl 0 (by decide) hw2 (fun _ h9 => h9) rfl dX6_play_9 ?_
  obtain ⟨cmd_2, pos_4, rea_6, cau_8, xr_10, xw_12, nu_14, le_16, nx_18, hc19, h⟩ := bd9_s h
  refine g_callBv (As := [.ref x0, .ref (an 0)]) (rest := []) (bs1 := [[(g0, .inr (6, [.ref (an 0), .ref (au 0), .ref (ap 0), .ref q0, .ref x0, .ref r0, .int ke]))], [(q0, .inr (0, [.ref q1, .int lnn]))], wHa E q1 ba pm, wTx E x0 x1 x2 ch tl nu_14 le_16 nx_18, [(r0, .inr (3, [.ref (ar 0), .ref (aw 0), .int cmd_2, .int pos_4, .int rea_6, .int cau_8]))], wHuT E an xn, wHuT E au xt, wHuT E ap xp, wHuT E ar xr_10, wHuT E aw xw_12, wHuT E (ba 0) h0, wHuT E (ba 1) h1, wHuT E (ba 2) h2, wHuT E (ba 3) h3, wHuT E (ba 4) h4]) ⟨hx, hb, hml, hown, hts⟩ (kX3_run E l x0 x1 x2 r0 an ar aw cmd pos rea cau xr xw ch tl nu le nx xn (cmd_2, pos_4, rea_6, cau_8, xr_10, xw_12, nu_14, le_16, nx_18) hc19) (cwV 2 hts gX6_play_X3_run rfl rfl rfl (by decide +kernel) ⟨Nat.le_of_ble_eq_true rfl, Nat.le_of_ble_eq_true rfl⟩) hK hP hD hS hA hG hl [4, 8, 9, 3, 5] 4 0 (by decide) rfl (ci := 3) rfl rfl rfl rfl rfl rfl rfl rfl rfl (Nat.le_of_ble_eq_true rfl) dX6_play_12 (Nat.zero_le _) (Nat.zero_le _) (fun H locs hP hD hS => ?_)
  refine lv_aload_n hx hb dX6_play_15 rfl (lv_at hl 0 rfl) ?_
  refine va_get (D := E.1) (cl := vwCl) (ci := 6) (v := .ref r0) (C := RX6) (T := TX6) (N := 7) hx hb hts hiX6 hown hK hP 0 rfl rfl 5 (by decide) hw0 (fun _ h9 => h9) rfl dX6_play_16 ?_
  refine va_get (D := E.1) (cl := vwCl) (ci := 3) (v := .int rea_6) (C := RX3) (T := TX3) (N := 6) hx hb hts hiX3 hown hK hP 6 rfl rfl 4 (by decide) hw3 (fun _ h9 => h9) rfl dX6_play_19 ?_
  refine lv_if_eq (tgt := 28) hx hb dX6_play_22 (by decide) (fun hc20 => ?_) (fun hc20 => ?_)
  · replace h := g_it hc20 h
    refine lv_aload_n hx hb dX6_play_28 rfl (lv_at hl 0 rfl) ?_
    refine va_get (D := E.1) (cl := vwCl) (ci := 6) (v := .ref q0) (C := RX6) (T := TX6) (N := 7) hx hb hts hiX6 hown hK hP 0 rfl rfl 3 (by decide) hw4 (fun _ h9 => h9) rfl dX6_play_29 ?_
    refine lv_aload_n hx hb dX6_play_32 rfl (lv_at hl 0 rfl) ?_
    refine va_get (D := E.1) (cl := vwCl) (ci := 6) (v := .ref (an 0)) (C := RX6) (T := TX6) (N := 7) hx hb hts hiX6 hown hK hP 0 rfl rfl 0 (by decide) hw2 (fun _ h9 => h9) rfl dX6_play_33 ?_
    obtain ⟨h0_22, h1_24, h2_26, h3_28, h4_30, hc31, h⟩ := bd5_s h
    refine g_callBv (As := [.ref (an 0)]) (rest := []) (bs1 := [[(g0, .inr (6, [.ref (an 0), .ref (au 0), .ref (ap 0), .ref q0, .ref x0, .ref r0, .int ke]))], [(q0, .inr (0, [.ref q1, .int lnn]))], wHa E q1 ba pm, wTx E x0 x1 x2 ch tl nu_14 le_16 nx_18, [(r0, .inr (3, [.ref (ar 0), .ref (aw 0), .int cmd_2, .int pos_4, .int rea_6, .int cau_8]))], wHuT E an xn, wHuT E au xt, wHuT E ap xp, wHuT E ar xr_10, wHuT E aw xw_12, wHuT E (ba 0) h0_22, wHuT E (ba 1) h1_24, wHuT E (ba 2) h2_26, wHuT E (ba 3) h3_28, wHuT E (ba 4) h4_30]) ⟨hx, hb, hml, hown, hts⟩ (kX0_prepare E l q0 q1 an ba lnn pm h0 h1 h2 h3 h4 xn (h0_22, h1_24, h2_26, h3_28, h4_30) hc31) (cwV 1 hts gX6_play_X0_prepare rfl rfl rfl (by decide +kernel) ⟨Nat.le_of_ble_eq_true rfl, Nat.le_of_ble_eq_true rfl⟩) hK hP hD hS hA hG hl [1, 2, 10, 11, 12, 13, 14, 5] 1 0 (by decide) rfl (ci := 0) rfl rfl rfl rfl rfl rfl rfl rfl rfl (Nat.le_of_ble_eq_true rfl) dX6_play_36 (Nat.zero_le _) (Nat.zero_le _) (fun H locs hP hD hS => ?_)
    refine lv_aload_n hx hb dX6_play_39 rfl (lv_at hl 0 rfl) ?_
    refine va_get (D := E.1) (cl := vwCl) (ci := 6) (v := .ref (an 0)) (C := RX6) (T := TX6) (N := 7) hx hb hts hiX6 hown hK hP 0 rfl rfl 0 (by decide) hw2 (fun _ h9 => h9) rfl dX6_play_40 ?_
    refine lv_aload_n hx hb dX6_play_43 rfl (lv_at hl 0 rfl) ?_
    refine va_get (D := E.1) (cl := vwCl) (ci := 6) (v := .ref r0) (C := RX6) (T := TX6) (N := 7) hx hb hts hiX6 hown hK hP 0 rfl rfl 5 (by decide) hw0 (fun _ h9 => h9) rfl dX6_play_44 ?_
    refine va_get (D := E.1) (cl := vwCl) (ci := 3) (v := .ref (ar 0)) (C := RX3) (T := TX3) (N := 6) hx hb hts hiX3 hown hK hP 6 rfl rfl 0 (by decide) hw5 (fun _ h9 => h9) rfl dX6_play_47 ?_
    obtain ⟨xn_33, hc34, h⟩ := bd1_s h
    refine g_callBv (As := [.ref (ar 0)]) (rest := []) (bs1 := [[(g0, .inr (6, [.ref (an 0), .ref (au 0), .ref (ap 0), .ref q0, .ref x0, .ref r0, .int ke]))], [(q0, .inr (0, [.ref q1, .int lnn]))], wHa E q1 ba pm, wTx E x0 x1 x2 ch tl nu_14 le_16 nx_18, [(r0, .inr (3, [.ref (ar 0), .ref (aw 0), .int cmd_2, .int pos_4, .int rea_6, .int cau_8]))], wHuT E an xn_33, wHuT E au xt, wHuT E ap xp, wHuT E ar xr_10, wHuT E aw xw_12, wHuT E (ba 0) h0_22, wHuT E (ba 1) h1_24, wHuT E (ba 2) h2_26, wHuT E (ba 3) h3_28, wHuT E (ba 4) h4_30]) ⟨hx, hb, hml, hown, hts⟩ (kgX1_copyFrom E l an ar xn xr_10 xn_33 hc34) (cwV 1 hts gX6_play_X1_copyFrom rfl rfl rfl (by decide +kernel) ⟨Nat.le_of_ble_eq_true rfl, Nat.le_of_ble_eq_true rfl⟩) hK hP hD hS hA hG hl [5, 8] 5 0 (by decide) rfl (ci := 1) rfl rfl rfl rfl rfl rfl rfl rfl rfl (Nat.le_of_ble_eq_true rfl) dX6_play_50 (Nat.zero_le _) (Nat.zero_le _) (fun H locs hP hD hS => ?_)
    refine lv_aload_n hx hb dX6_play_53 rfl (lv_at hl 0 rfl) ?_
    refine lv_aload_n hx hb dX6_play_54 rfl (lv_at hl 0 rfl) ?_
    refine va_get (D := E.1) (cl := vwCl) (ci := 6) (v := .ref r0) (C := RX6) (T := TX6) (N := 7) hx hb hts hiX6 hown hK hP 0 rfl rfl 5 (by decide) hw0 (fun _ h9 => h9) rfl dX6_play_55 ?_
    refine va_get (D := E.1) (cl := vwCl) (ci := 3) (v := .int cmd_2) (C := RX3) (T := TX3) (N := 6) hx hb hts hiX3 hown hK hP 6 rfl rfl 2 (by decide) hw6 (fun _ h9 => h9) rfl dX6_play_58 ?_
    obtain ⟨r35, lnn_37, pm_39, hc40, h⟩ := bd3_s h
    refine g_callBi (As := [.int cmd_2]) (rest := []) (r := r35) (bs1 := [[(g0, .inr (6, [.ref (an 0), .ref (au 0), .ref (ap 0), .ref q0, .ref x0, .ref r0, .int ke]))], [(q0, .inr (0, [.ref q1, .int lnn_37]))], wHa E q1 ba pm_39, wTx E x0 x1 x2 ch tl nu_14 le_16 nx_18, [(r0, .inr (3, [.ref (ar 0), .ref (aw 0), .int cmd_2, .int pos_4, .int rea_6, .int cau_8]))], wHuT E an xn_33, wHuT E au xt, wHuT E ap xp, wHuT E ar xr_10, wHuT E aw xw_12, wHuT E (ba 0) h0_22, wHuT E (ba 1) h1_24, wHuT E (ba 2) h2_26, wHuT E (ba 3) h3_28, wHuT E (ba 4) h4_30]) ⟨hx, hb, hml, hown, hts⟩ (kX6_recorded E l g0 q0 q1 x0 r0 an au ap ba ke lnn pm h0_22 h1_24 h2_26 h3_28 h4_30 cmd_2 (r35, lnn_37, pm_39) hc40) (cwV 1 hts gX6_play_X6_recorded rfl rfl rfl (by decide +kernel) ⟨Nat.le_of_ble_eq_true rfl, Nat.le_of_ble_eq_true rfl⟩) hK hP hD hS hA hG hl [0, 1, 2, 10, 11, 12, 13, 14] 0 0 (by decide) rfl (ci := 6) rfl rfl rfl rfl rfl rfl rfl rfl rfl rfl (Nat.le_of_ble_eq_true rfl) dX6_play_61 (Nat.zero_le _) (Nat.zero_le _) (fun H locs hP hD hS => ?_)
    exact hret (r35, lnn_37, pm_39, nu_14, le_16, nx_18, cmd_2, pos_4, rea_6, cau_8, xn_33, xr_10, xw_12, h0_22, h1_24, h2_26, h3_28, h4_30) _ _ _ _ _ (Option.some.inj h) hP hS rfl dX6_play_64
  · replace h := g_if hc20 h
    refine lv_bipush (v := (-2 : Int32)) hx hb dX6_play_25 (by decide) ?_
    exact hret ((-2 : Int32), lnn, pm, nu_14, le_16, nx_18, cmd_2, pos_4, rea_6, cau_8, xn, xr_10, xw_12, h0, h1, h2, h3, h4) _ _ _ _ _ (Option.some.inj h) hP hS rfl dX6_play_27
set_option maxHeartbeats 4000000 in
set_option maxRecDepth 100000 in
theorem kX6_restore (E : gE) (l : Launch) (g0 q0 q1 x0 x1 x2 r0 : Nat) (an au ap ar aw : Nat → Nat) (ba : Nat → Nat → Nat) (ke : Int32) (lnn : Int32) (pm : Nat → Nat) (ch : Nat → Int32) (tl : Int32) (nu : Nat → Int32) (le : Int32) (nx : Int32) (cmd : Int32) (pos : Int32) (rea : Int32) (cau : Int32) (xn : HutS) (xt : HutS) (xp : HutS) (xr : HutS) (xw : HutS) (h0 : HutS) (h1 : HutS) (h2 : HutS) (h3 : HutS) (h4 : HutS)  (res : Int32 × Int32 × (Nat → Nat) × HutS × HutS × HutS × HutS × HutS × HutS) (h : fX6_restore ke lnn pm xn xp h0 h1 h2 h3 h4  = some res) : gMI E l yX6_restore wsX6_restore ({ frames := 4, cells := 0, slots := 0, locals := 82 } : Room) [.ref g0] (List.flatten [[(g0, .inr (6, [.ref (an 0), .ref (au 0), .ref (ap 0), .ref q0, .ref x0, .ref r0, .int ke]))], [(q0, .inr (0, [.ref q1, .int lnn]))], wHa E q1 ba pm, wTx E x0 x1 x2 ch tl nu le nx, [(r0, .inr (3, [.ref (ar 0), .ref (aw 0), .int cmd, .int pos, .int rea, .int cau]))], wHuT E an xn, wHuT E au xt, wHuT E ap xp, wHuT E ar xr, wHuT E aw xw, wHuT E (ba 0) h0, wHuT E (ba 1) h1, wHuT E (ba 2) h2, wHuT E (ba 3) h3, wHuT E (ba 4) h4]) (fun res : Int32 × Int32 × (Nat → Nat) × HutS × HutS × HutS × HutS × HutS × HutS => (List.flatten [[(g0, .inr (6, [.ref (an 0), .ref (au 0), .ref (ap 0), .ref q0, .ref x0, .ref r0, .int ke]))], [(q0, .inr (0, [.ref q1, .int res.2.1]))], wHa E q1 ba res.2.2.1, wTx E x0 x1 x2 ch tl nu le nx, [(r0, .inr (3, [.ref (ar 0), .ref (aw 0), .int cmd, .int pos, .int rea, .int cau]))], wHuT E an res.2.2.2.1, wHuT E au xt, wHuT E ap xp, wHuT E ar xr, wHuT E aw xw, wHuT E (ba 0) res.2.2.2.2.1, wHuT E (ba 1) res.2.2.2.2.2.1, wHuT E (ba 2) res.2.2.2.2.2.2.1, wHuT E (ba 3) res.2.2.2.2.2.2.2.1, wHuT E (ba 4) res.2.2.2.2.2.2.2.2])) (fun res => res.1) res := by
  refine g_entI (cc := cX6_restore) (maxL := 1) (by decide) rfl (Nat.le_of_ble_eq_true rfl) ?_
  intro p e s m args below meth c A Q ls hx hb hml hown hts hK hP hD hS hA hG hret hl
  unfold fX6_restore at h
  replace hl : lv_has ls 1 [(0, .ref g0)] := hl
  have hiX1 : ∀ w ∈ wsX10, w ∈ wsX6_restore := by decide +kernel
  have hiX6 : ∀ w ∈ wsX60, w ∈ wsX6_restore := by decide +kernel
  have hw0 := hts (.fieldLink RX6 43 "GlacierHut" "kept" "Z") (by decide +kernel)
  have hw1 := hts (.fieldLink RX6 25 "GlacierHut" "history" "LGlacierHut$History;") (by decide +kernel)
  have hw2 := hts (.fieldLink RX6 10 "GlacierHut" "now" "LGlacierHut$Hut;") (by decide +kernel)
  have hw3 := hts (.fieldLink RX6 19 "GlacierHut" "snapshot" "LGlacierHut$Hut;") (by decide +kernel)
  have hw4 := hts (.fieldLink RX6 163 "GlacierHut$Hut" "day" "I") (by decide +kernel)
  refine lv_aload_n hx hb dX6_restore_0 rfl (lv_at hl 0 rfl) ?_
  refine va_get (D := E.1) (cl := vwCl) (ci := 6) (v := .int ke) (C := RX6) (T := TX6) (N := 7) hx hb hts hiX6 hown hK hP 0 rfl rfl 6 (by decide) hw0 (fun _ h9 => h9) rfl dX6_restore_1 ?_
  refine lv_if_ne (tgt := 10) hx hb dX6_restore_4 (by decide) (fun hc1 => ?_) (fun hc1 => ?_)
  · replace h := g_if hc1 h
    refine lv_aload_n hx hb dX6_restore_10 rfl (lv_at hl 0 rfl) ?_
    refine va_get (D := E.1) (cl := vwCl) (ci := 6) (v := .ref q0) (C := RX6) (T := TX6) (N := 7) hx hb hts hiX6 hown hK hP 0 rfl rfl 3 (by decide) hw1 (fun _ h9 => h9) rfl dX6_restore_11 ?_
    refine lv_aload_n hx hb dX6_restore_14 rfl (lv_at hl 0 rfl) ?_
    refine va_get (D := E.1) (cl := vwCl) (ci := 6) (v := .ref (an 0)) (C := RX6) (T := TX6) (N := 7) hx hb hts hiX6 hown hK hP 0 rfl rfl 0 (by decide) hw2 (fun _ h9 => h9) rfl dX6_restore_15 ?_
    obtain ⟨h0_3, h1_5, h2_7, h3_9, h4_11, hc12, h⟩ := bd5_s h
    refine g_callBv (As := [.ref (an 0)]) (rest := []) (bs1 := [[(g0, .inr (6, [.ref (an 0), .ref (au 0), .ref (ap 0), .ref q0, .ref x0, .ref r0, .int ke]))], [(q0, .inr (0, [.ref q1, .int lnn]))], wHa E q1 ba pm, wTx E x0 x1 x2 ch tl nu le nx, [(r0, .inr (3, [.ref (ar 0), .ref (aw 0), .int cmd, .int pos, .int rea, .int cau]))], wHuT E an xn, wHuT E au xt, wHuT E ap xp, wHuT E ar xr, wHuT E aw xw, wHuT E (ba 0) h0_3, wHuT E (ba 1) h1_5, wHuT E (ba 2) h2_7, wHuT E (ba 3) h3_9, wHuT E (ba 4) h4_11]) ⟨hx, hb, hml, hown, hts⟩ (kX0_prepare E l q0 q1 an ba lnn pm h0 h1 h2 h3 h4 xn (h0_3, h1_5, h2_7, h3_9, h4_11) hc12) (cwV 1 hts gX6_restore_X0_prepare rfl rfl rfl (by decide +kernel) ⟨Nat.le_of_ble_eq_true rfl, Nat.le_of_ble_eq_true rfl⟩) hK hP hD hS hA hG hl [1, 2, 10, 11, 12, 13, 14, 5] 1 0 (by decide) rfl (ci := 0) rfl rfl rfl rfl rfl rfl rfl rfl rfl (Nat.le_of_ble_eq_true rfl) dX6_restore_18 (Nat.zero_le _) (Nat.zero_le _) (fun H locs hP hD hS => ?_)
    refine lv_aload_n hx hb dX6_restore_21 rfl (lv_at hl 0 rfl) ?_
    refine va_get (D := E.1) (cl := vwCl) (ci := 6) (v := .ref (an 0)) (C := RX6) (T := TX6) (N := 7) hx hb hts hiX6 hown hK hP 0 rfl rfl 0 (by decide) hw2 (fun _ h9 => h9) rfl dX6_restore_22 ?_
    refine lv_aload_n hx hb dX6_restore_25 rfl (lv_at hl 0 rfl) ?_
    refine va_get (D := E.1) (cl := vwCl) (ci := 6) (v := .ref (ap 0)) (C := RX6) (T := TX6) (N := 7) hx hb hts hiX6 hown hK hP 0 rfl rfl 2 (by decide) hw3 (fun _ h9 => h9) rfl dX6_restore_26 ?_
    obtain ⟨xn_14, hc15, h⟩ := bd1_s h
    refine g_callBv (As := [.ref (ap 0)]) (rest := []) (bs1 := [[(g0, .inr (6, [.ref (an 0), .ref (au 0), .ref (ap 0), .ref q0, .ref x0, .ref r0, .int ke]))], [(q0, .inr (0, [.ref q1, .int lnn]))], wHa E q1 ba pm, wTx E x0 x1 x2 ch tl nu le nx, [(r0, .inr (3, [.ref (ar 0), .ref (aw 0), .int cmd, .int pos, .int rea, .int cau]))], wHuT E an xn_14, wHuT E au xt, wHuT E ap xp, wHuT E ar xr, wHuT E aw xw, wHuT E (ba 0) h0_3, wHuT E (ba 1) h1_5, wHuT E (ba 2) h2_7, wHuT E (ba 3) h3_9, wHuT E (ba 4) h4_11]) ⟨hx, hb, hml, hown, hts⟩ (kgX1_copyFrom E l an ap xn xp xn_14 hc15) (cwV 1 hts gX6_restore_X1_copyFrom rfl rfl rfl (by decide +kernel) ⟨Nat.le_of_ble_eq_true rfl, Nat.le_of_ble_eq_true rfl⟩) hK hP hD hS hA hG hl [5, 7] 5 0 (by decide) rfl (ci := 1) rfl rfl rfl rfl rfl rfl rfl rfl rfl (Nat.le_of_ble_eq_true rfl) dX6_restore_29 (Nat.zero_le _) (Nat.zero_le _) (fun H locs hP hD hS => ?_)
    refine lv_aload_n hx hb dX6_restore_32 rfl (lv_at hl 0 rfl) ?_
    refine lv_aload_n hx hb dX6_restore_33 rfl (lv_at hl 0 rfl) ?_
    refine va_get (D := E.1) (cl := vwCl) (ci := 6) (v := .ref (an 0)) (C := RX6) (T := TX6) (N := 7) hx hb hts hiX6 hown hK hP 0 rfl rfl 0 (by decide) hw2 (fun _ h9 => h9) rfl dX6_restore_34 ?_
    refine va_get (D := E.1) (cl := vwCl) (ci := 1) (v := .int xn_14.2.2.2.2.2.2.2.2.2.2.2.2.2.2.2.2.2.2.2.2.1) (C := RX1) (T := TX1) (N := 10) hx hb hts hiX1 hown hK hP 7 rfl rfl 4 (by decide) hw4 (fun _ h9 => h9) rfl dX6_restore_37 ?_
    obtain ⟨r16, lnn_18, pm_20, hc21, h⟩ := bd3_s h
    refine g_callBi (As := [.int xn_14.2.2.2.2.2.2.2.2.2.2.2.2.2.2.2.2.2.2.2.2.1]) (rest := []) (r := r16) (bs1 := [[(g0, .inr (6, [.ref (an 0), .ref (au 0), .ref (ap 0), .ref q0, .ref x0, .ref r0, .int ke]))], [(q0, .inr (0, [.ref q1, .int lnn_18]))], wHa E q1 ba pm_20, wTx E x0 x1 x2 ch tl nu le nx, [(r0, .inr (3, [.ref (ar 0), .ref (aw 0), .int cmd, .int pos, .int rea, .int cau]))], wHuT E an xn_14, wHuT E au xt, wHuT E ap xp, wHuT E ar xr, wHuT E aw xw, wHuT E (ba 0) h0_3, wHuT E (ba 1) h1_5, wHuT E (ba 2) h2_7, wHuT E (ba 3) h3_9, wHuT E (ba 4) h4_11]) ⟨hx, hb, hml, hown, hts⟩ (kX6_recorded E l g0 q0 q1 x0 r0 an au ap ba ke lnn pm h0_3 h1_5 h2_7 h3_9 h4_11 xn_14.2.2.2.2.2.2.2.2.2.2.2.2.2.2.2.2.2.2.2.2.1 (r16, lnn_18, pm_20) hc21) (cwV 1 hts gX6_restore_X6_recorded rfl rfl rfl (by decide +kernel) ⟨Nat.le_of_ble_eq_true rfl, Nat.le_of_ble_eq_true rfl⟩) hK hP hD hS hA hG hl [0, 1, 2, 10, 11, 12, 13, 14] 0 0 (by decide) rfl (ci := 6) rfl rfl rfl rfl rfl rfl rfl rfl rfl rfl (Nat.le_of_ble_eq_true rfl) dX6_restore_40 (Nat.zero_le _) (Nat.zero_le _) (fun H locs hP hD hS => ?_)
    exact hret (r16, lnn_18, pm_20, xn_14, h0_3, h1_5, h2_7, h3_9, h4_11) _ _ _ _ _ (Option.some.inj h) hP hS rfl dX6_restore_43
  · replace h := g_it hc1 h
    refine lv_bipush (v := (-2 : Int32)) hx hb dX6_restore_7 (by decide) ?_
    exact hret ((-2 : Int32), lnn, pm, xn, h0, h1, h2, h3, h4) _ _ _ _ _ (Option.some.inj h) hP hS rfl dX6_restore_9
set_option maxHeartbeats 4000000 in
set_option maxRecDepth 100000 in
theorem kX6_set (E : gE) (l : Launch) (g0 q0 q1 x0 x1 x2 r0 : Nat) (an au ap ar aw : Nat → Nat) (ba : Nat → Nat → Nat) (ke : Int32) (lnn : Int32) (pm : Nat → Nat) (ch : Nat → Int32) (tl : Int32) (nu : Nat → Int32) (le : Int32) (nx : Int32) (cmd : Int32) (pos : Int32) (rea : Int32) (cau : Int32) (xn : HutS) (xt : HutS) (xp : HutS) (xr : HutS) (xw : HutS) (h0 : HutS) (h1 : HutS) (h2 : HutS) (h3 : HutS) (h4 : HutS) (p1 : Int32) (p2 : Int32) (res : Int32 × Int32 × (Nat → Nat) × HutS × HutS × HutS × HutS × HutS × HutS) (h : fX6_set lnn pm xn h0 h1 h2 h3 h4 p1 p2 = some res) : gMI E l yX6_set wsX6_set ({ frames := 4, cells := 0, slots := 0, locals := 82 } : Room) [.ref g0, .int p1, .int p2] (List.flatten [[(g0, .inr (6, [.ref (an 0), .ref (au 0), .ref (ap 0), .ref q0, .ref x0, .ref r0, .int ke]))], [(q0, .inr (0, [.ref q1, .int lnn]))], wHa E q1 ba pm, wTx E x0 x1 x2 ch tl nu le nx, [(r0, .inr (3, [.ref (ar 0), .ref (aw 0), .int cmd, .int pos, .int rea, .int cau]))], wHuT E an xn, wHuT E au xt, wHuT E ap xp, wHuT E ar xr, wHuT E aw xw, wHuT E (ba 0) h0, wHuT E (ba 1) h1, wHuT E (ba 2) h2, wHuT E (ba 3) h3, wHuT E (ba 4) h4]) (fun res : Int32 × Int32 × (Nat → Nat) × HutS × HutS × HutS × HutS × HutS × HutS => (List.flatten [[(g0, .inr (6, [.ref (an 0), .ref (au 0), .ref (ap 0), .ref q0, .ref x0, .ref r0, .int ke]))], [(q0, .inr (0, [.ref q1, .int res.2.1]))], wHa E q1 ba res.2.2.1, wTx E x0 x1 x2 ch tl nu le nx, [(r0, .inr (3, [.ref (ar 0), .ref (aw 0), .int cmd, .int pos, .int rea, .int cau]))], wHuT E an res.2.2.2.1, wHuT E au xt, wHuT E ap xp, wHuT E ar xr, wHuT E aw xw, wHuT E (ba 0) res.2.2.2.2.1, wHuT E (ba 1) res.2.2.2.2.2.1, wHuT E (ba 2) res.2.2.2.2.2.2.1, wHuT E (ba 3) res.2.2.2.2.2.2.2.1, wHuT E (ba 4) res.2.2.2.2.2.2.2.2])) (fun res => res.1) res := by
  refine g_entI (cc := cX6_set) (maxL := 3) (by decide) rfl (Nat.le_of_ble_eq_true rfl) ?_
  intro p e s m args below meth c A Q ls hx hb hml hown hts hK hP hD hS hA hG hret hl
  unfold fX6_set at h
  replace hl : lv_has ls 3 [(0, .ref g0), (1, .int p1), (2, .int p2)] := hl
  have hiX6 : ∀ w ∈ wsX60, w ∈ wsX6_set := by decide +kernel
  have hw0 := hts (.fieldLink RX6 25 "GlacierHut" "history" "LGlacierHut$History;") (by decide +kernel)
  have hw1 := hts (.fieldLink RX6 10 "GlacierHut" "now" "LGlacierHut$Hut;") (by decide +kernel)
  refine lv_aload_n hx hb dX6_set_0 rfl (lv_at hl 0 rfl) ?_
  refine va_get (D := E.1) (cl := vwCl) (ci := 6) (v := .ref q0) (C := RX6) (T := TX6) (N := 7) hx hb hts hiX6 hown hK hP 0 rfl rfl 3 (by decide) hw0 (fun _ h9 => h9) rfl dX6_set_1 ?_
  refine lv_aload_n hx hb dX6_set_4 rfl (lv_at hl 0 rfl) ?_
  refine va_get (D := E.1) (cl := vwCl) (ci := 6) (v := .ref (an 0)) (C := RX6) (T := TX6) (N := 7) hx hb hts hiX6 hown hK hP 0 rfl rfl 0 (by decide) hw1 (fun _ h9 => h9) rfl dX6_set_5 ?_
  obtain ⟨h0_2, h1_4, h2_6, h3_8, h4_10, hc11, h⟩ := bd5_s h
  refine g_callBv (As := [.ref (an 0)]) (rest := []) (bs1 := [[(g0, .inr (6, [.ref (an 0), .ref (au 0), .ref (ap 0), .ref q0, .ref x0, .ref r0, .int ke]))], [(q0, .inr (0, [.ref q1, .int lnn]))], wHa E q1 ba pm, wTx E x0 x1 x2 ch tl nu le nx, [(r0, .inr (3, [.ref (ar 0), .ref (aw 0), .int cmd, .int pos, .int rea, .int cau]))], wHuT E an xn, wHuT E au xt, wHuT E ap xp, wHuT E ar xr, wHuT E aw xw, wHuT E (ba 0) h0_2, wHuT E (ba 1) h1_4, wHuT E (ba 2) h2_6, wHuT E (ba 3) h3_8, wHuT E (ba 4) h4_10]) ⟨hx, hb, hml, hown, hts⟩ (kX0_prepare E l q0 q1 an ba lnn pm h0 h1 h2 h3 h4 xn (h0_2, h1_4, h2_6, h3_8, h4_10) hc11) (cwV 1 hts gX6_set_X0_prepare rfl rfl rfl (by decide +kernel) ⟨Nat.le_of_ble_eq_true rfl, Nat.le_of_ble_eq_true rfl⟩) hK hP hD hS hA hG hl [1, 2, 10, 11, 12, 13, 14, 5] 1 0 (by decide) rfl (ci := 0) rfl rfl rfl rfl rfl rfl rfl rfl rfl (Nat.le_of_ble_eq_true rfl) dX6_set_8 (Nat.zero_le _) (Nat.zero_le _) (fun H locs hP hD hS => ?_)
  refine lv_aload_n hx hb dX6_set_11 rfl (lv_at hl 0 rfl) ?_
  refine lv_aload_n hx hb dX6_set_12 rfl (lv_at hl 0 rfl) ?_
  refine va_get (D := E.1) (cl := vwCl) (ci := 6) (v := .ref (an 0)) (C := RX6) (T := TX6) (N := 7) hx hb hts hiX6 hown hK hP 0 rfl rfl 0 (by decide) hw1 (fun _ h9 => h9) rfl dX6_set_13 ?_
  refine lv_iload_n hx hb dX6_set_16 rfl (lv_at hl 1 rfl) ?_
  refine lv_iload_n hx hb dX6_set_17 rfl (lv_at hl 2 rfl) ?_
  obtain ⟨r12, xn_14, hc15, h⟩ := bd2_s h
  refine g_callBi (As := [.int p1, .int p2]) (rest := [.ref g0]) (r := r12) (bs1 := [[(g0, .inr (6, [.ref (an 0), .ref (au 0), .ref (ap 0), .ref q0, .ref x0, .ref r0, .int ke]))], [(q0, .inr (0, [.ref q1, .int lnn]))], wHa E q1 ba pm, wTx E x0 x1 x2 ch tl nu le nx, [(r0, .inr (3, [.ref (ar 0), .ref (aw 0), .int cmd, .int pos, .int rea, .int cau]))], wHuT E an xn_14, wHuT E au xt, wHuT E ap xp, wHuT E ar xr, wHuT E aw xw, wHuT E (ba 0) h0_2, wHuT E (ba 1) h1_4, wHuT E (ba 2) h2_6, wHuT E (ba 3) h3_8, wHuT E (ba 4) h4_10]) ⟨hx, hb, hml, hown, hts⟩ (kgX1_changeSetting E l an xn p1 p2 (r12, xn_14) hc15) (cwV 2 hts gX6_set_X1_changeSetting rfl rfl rfl (by decide +kernel) ⟨Nat.le_of_ble_eq_true rfl, Nat.le_of_ble_eq_true rfl⟩) hK hP hD hS hA hG hl [5] 5 0 (by decide) rfl (ci := 1) rfl rfl rfl rfl rfl rfl rfl rfl rfl rfl (Nat.le_of_ble_eq_true rfl) dX6_set_18 (Nat.zero_le _) (Nat.zero_le _) (fun H locs hP hD hS => ?_)
  obtain ⟨r16, lnn_18, pm_20, hc21, h⟩ := bd3_s h
  refine g_callBi (As := [.int r12]) (rest := []) (r := r16) (bs1 := [[(g0, .inr (6, [.ref (an 0), .ref (au 0), .ref (ap 0), .ref q0, .ref x0, .ref r0, .int ke]))], [(q0, .inr (0, [.ref q1, .int lnn_18]))], wHa E q1 ba pm_20, wTx E x0 x1 x2 ch tl nu le nx, [(r0, .inr (3, [.ref (ar 0), .ref (aw 0), .int cmd, .int pos, .int rea, .int cau]))], wHuT E an xn_14, wHuT E au xt, wHuT E ap xp, wHuT E ar xr, wHuT E aw xw, wHuT E (ba 0) h0_2, wHuT E (ba 1) h1_4, wHuT E (ba 2) h2_6, wHuT E (ba 3) h3_8, wHuT E (ba 4) h4_10]) ⟨hx, hb, hml, hown, hts⟩ (kX6_recorded E l g0 q0 q1 x0 r0 an au ap ba ke lnn pm h0_2 h1_4 h2_6 h3_8 h4_10 r12 (r16, lnn_18, pm_20) hc21) (cwV 1 hts gX6_set_X6_recorded rfl rfl rfl (by decide +kernel) ⟨Nat.le_of_ble_eq_true rfl, Nat.le_of_ble_eq_true rfl⟩) hK hP hD hS hA hG hl [0, 1, 2, 10, 11, 12, 13, 14] 0 0 (by decide) rfl (ci := 6) rfl rfl rfl rfl rfl rfl rfl rfl rfl rfl (Nat.le_of_ble_eq_true rfl) dX6_set_21 (Nat.zero_le _) (Nat.zero_le _) (fun H locs hP hD hS => ?_)
  exact hret (r16, lnn_18, pm_20, xn_14, h0_2, h1_4, h2_6, h3_8, h4_10) _ _ _ _ _ (Option.some.inj h) hP hS rfl dX6_set_24
set_option maxHeartbeats 4000000 in
set_option maxRecDepth 100000 in
theorem kX6_sleep (E : gE) (l : Launch) (g0 q0 q1 x0 x1 x2 r0 : Nat) (an au ap ar aw : Nat → Nat) (ba : Nat → Nat → Nat) (ke : Int32) (lnn : Int32) (pm : Nat → Nat) (ch : Nat → Int32) (tl : Int32) (nu : Nat → Int32) (le : Int32) (nx : Int32) (cmd : Int32) (pos : Int32) (rea : Int32) (cau : Int32) (xn : HutS) (xt : HutS) (xp : HutS) (xr : HutS) (xw : HutS) (h0 : HutS) (h1 : HutS) (h2 : HutS) (h3 : HutS) (h4 : HutS) (p1 : Int32) (res : Int32 × Int32 × (Nat → Nat) × HutS × HutS × HutS × HutS × HutS × HutS) (h : fX6_sleep lnn pm xn h0 h1 h2 h3 h4 p1 = some res) : gMI E l yX6_sleep wsX6_sleep ({ frames := 4, cells := 0, slots := 0, locals := 82 } : Room) [.ref g0, .int p1] (List.flatten [[(g0, .inr (6, [.ref (an 0), .ref (au 0), .ref (ap 0), .ref q0, .ref x0, .ref r0, .int ke]))], [(q0, .inr (0, [.ref q1, .int lnn]))], wHa E q1 ba pm, wTx E x0 x1 x2 ch tl nu le nx, [(r0, .inr (3, [.ref (ar 0), .ref (aw 0), .int cmd, .int pos, .int rea, .int cau]))], wHuT E an xn, wHuT E au xt, wHuT E ap xp, wHuT E ar xr, wHuT E aw xw, wHuT E (ba 0) h0, wHuT E (ba 1) h1, wHuT E (ba 2) h2, wHuT E (ba 3) h3, wHuT E (ba 4) h4]) (fun res : Int32 × Int32 × (Nat → Nat) × HutS × HutS × HutS × HutS × HutS × HutS => (List.flatten [[(g0, .inr (6, [.ref (an 0), .ref (au 0), .ref (ap 0), .ref q0, .ref x0, .ref r0, .int ke]))], [(q0, .inr (0, [.ref q1, .int res.2.1]))], wHa E q1 ba res.2.2.1, wTx E x0 x1 x2 ch tl nu le nx, [(r0, .inr (3, [.ref (ar 0), .ref (aw 0), .int cmd, .int pos, .int rea, .int cau]))], wHuT E an res.2.2.2.1, wHuT E au xt, wHuT E ap xp, wHuT E ar xr, wHuT E aw xw, wHuT E (ba 0) res.2.2.2.2.1, wHuT E (ba 1) res.2.2.2.2.2.1, wHuT E (ba 2) res.2.2.2.2.2.2.1, wHuT E (ba 3) res.2.2.2.2.2.2.2.1, wHuT E (ba 4) res.2.2.2.2.2.2.2.2])) (fun res => res.1) res := by
  refine g_entI (cc := cX6_sleep) (maxL := 2) (by decide) rfl (Nat.le_of_ble_eq_true rfl) ?_
  intro p e s m args below meth c A Q ls hx hb hml hown hts hK hP hD hS hA hG hret hl
  unfold fX6_sleep at h
  replace hl : lv_has ls 2 [(0, .ref g0), (1, .int p1)] := hl
  have hiX6 : ∀ w ∈ wsX60, w ∈ wsX6_sleep := by decide +kernel
  have hw0 := hts (.fieldLink RX6 25 "GlacierHut" "history" "LGlacierHut$History;") (by decide +kernel)
  have hw1 := hts (.fieldLink RX6 10 "GlacierHut" "now" "LGlacierHut$Hut;") (by decide +kernel)
  refine lv_aload_n hx hb dX6_sleep_0 rfl (lv_at hl 0 rfl) ?_
  refine va_get (D := E.1) (cl := vwCl) (ci := 6) (v := .ref q0) (C := RX6) (T := TX6) (N := 7) hx hb hts hiX6 hown hK hP 0 rfl rfl 3 (by decide) hw0 (fun _ h9 => h9) rfl dX6_sleep_1 ?_
  refine lv_aload_n hx hb dX6_sleep_4 rfl (lv_at hl 0 rfl) ?_
  refine va_get (D := E.1) (cl := vwCl) (ci := 6) (v := .ref (an 0)) (C := RX6) (T := TX6) (N := 7) hx hb hts hiX6 hown hK hP 0 rfl rfl 0 (by decide) hw1 (fun _ h9 => h9) rfl dX6_sleep_5 ?_
  obtain ⟨h0_2, h1_4, h2_6, h3_8, h4_10, hc11, h⟩ := bd5_s h
  refine g_callBv (As := [.ref (an 0)]) (rest := []) (bs1 := [[(g0, .inr (6, [.ref (an 0), .ref (au 0), .ref (ap 0), .ref q0, .ref x0, .ref r0, .int ke]))], [(q0, .inr (0, [.ref q1, .int lnn]))], wHa E q1 ba pm, wTx E x0 x1 x2 ch tl nu le nx, [(r0, .inr (3, [.ref (ar 0), .ref (aw 0), .int cmd, .int pos, .int rea, .int cau]))], wHuT E an xn, wHuT E au xt, wHuT E ap xp, wHuT E ar xr, wHuT E aw xw, wHuT E (ba 0) h0_2, wHuT E (ba 1) h1_4, wHuT E (ba 2) h2_6, wHuT E (ba 3) h3_8, wHuT E (ba 4) h4_10]) ⟨hx, hb, hml, hown, hts⟩ (kX0_prepare E l q0 q1 an ba lnn pm h0 h1 h2 h3 h4 xn (h0_2, h1_4, h2_6, h3_8, h4_10) hc11) (cwV 1 hts gX6_sleep_X0_prepare rfl rfl rfl (by decide +kernel) ⟨Nat.le_of_ble_eq_true rfl, Nat.le_of_ble_eq_true rfl⟩) hK hP hD hS hA hG hl [1, 2, 10, 11, 12, 13, 14, 5] 1 0 (by decide) rfl (ci := 0) rfl rfl rfl rfl rfl rfl rfl rfl rfl (Nat.le_of_ble_eq_true rfl) dX6_sleep_8 (Nat.zero_le _) (Nat.zero_le _) (fun H locs hP hD hS => ?_)
  refine lv_aload_n hx hb dX6_sleep_11 rfl (lv_at hl 0 rfl) ?_
  refine lv_aload_n hx hb dX6_sleep_12 rfl (lv_at hl 0 rfl) ?_
  refine va_get (D := E.1) (cl := vwCl) (ci := 6) (v := .ref (an 0)) (C := RX6) (T := TX6) (N := 7) hx hb hts hiX6 hown hK hP 0 rfl rfl 0 (by decide) hw1 (fun _ h9 => h9) rfl dX6_sleep_13 ?_
  refine lv_iload_n hx hb dX6_sleep_16 rfl (lv_at hl 1 rfl) ?_
  obtain ⟨r12, xn_14, hc15, h⟩ := bd2_s h
  refine g_callBi (As := [.int p1]) (rest := [.ref g0]) (r := r12) (bs1 := [[(g0, .inr (6, [.ref (an 0), .ref (au 0), .ref (ap 0), .ref q0, .ref x0, .ref r0, .int ke]))], [(q0, .inr (0, [.ref q1, .int lnn]))], wHa E q1 ba pm, wTx E x0 x1 x2 ch tl nu le nx, [(r0, .inr (3, [.ref (ar 0), .ref (aw 0), .int cmd, .int pos, .int rea, .int cau]))], wHuT E an xn_14, wHuT E au xt, wHuT E ap xp, wHuT E ar xr, wHuT E aw xw, wHuT E (ba 0) h0_2, wHuT E (ba 1) h1_4, wHuT E (ba 2) h2_6, wHuT E (ba 3) h3_8, wHuT E (ba 4) h4_10]) ⟨hx, hb, hml, hown, hts⟩ (kgX1_passNights E l an xn p1 (r12, xn_14) hc15) (cwV 1 hts gX6_sleep_X1_passNights rfl rfl rfl (by decide +kernel) ⟨Nat.le_of_ble_eq_true rfl, Nat.le_of_ble_eq_true rfl⟩) hK hP hD hS hA hG hl [5] 5 0 (by decide) rfl (ci := 1) rfl rfl rfl rfl rfl rfl rfl rfl rfl rfl (Nat.le_of_ble_eq_true rfl) dX6_sleep_17 (Nat.zero_le _) (Nat.zero_le _) (fun H locs hP hD hS => ?_)
  obtain ⟨r16, lnn_18, pm_20, hc21, h⟩ := bd3_s h
  refine g_callBi (As := [.int r12]) (rest := []) (r := r16) (bs1 := [[(g0, .inr (6, [.ref (an 0), .ref (au 0), .ref (ap 0), .ref q0, .ref x0, .ref r0, .int ke]))], [(q0, .inr (0, [.ref q1, .int lnn_18]))], wHa E q1 ba pm_20, wTx E x0 x1 x2 ch tl nu le nx, [(r0, .inr (3, [.ref (ar 0), .ref (aw 0), .int cmd, .int pos, .int rea, .int cau]))], wHuT E an xn_14, wHuT E au xt, wHuT E ap xp, wHuT E ar xr, wHuT E aw xw, wHuT E (ba 0) h0_2, wHuT E (ba 1) h1_4, wHuT E (ba 2) h2_6, wHuT E (ba 3) h3_8, wHuT E (ba 4) h4_10]) ⟨hx, hb, hml, hown, hts⟩ (kX6_recorded E l g0 q0 q1 x0 r0 an au ap ba ke lnn pm h0_2 h1_4 h2_6 h3_8 h4_10 r12 (r16, lnn_18, pm_20) hc21) (cwV 1 hts gX6_sleep_X6_recorded rfl rfl rfl (by decide +kernel) ⟨Nat.le_of_ble_eq_true rfl, Nat.le_of_ble_eq_true rfl⟩) hK hP hD hS hA hG hl [0, 1, 2, 10, 11, 12, 13, 14] 0 0 (by decide) rfl (ci := 6) rfl rfl rfl rfl rfl rfl rfl rfl rfl rfl (Nat.le_of_ble_eq_true rfl) dX6_sleep_20 (Nat.zero_le _) (Nat.zero_le _) (fun H locs hP hD hS => ?_)
  exact hret (r16, lnn_18, pm_20, xn_14, h0_2, h1_4, h2_6, h3_8, h4_10) _ _ _ _ _ (Option.some.inj h) hP hS rfl dX6_sleep_23
set_option maxHeartbeats 4000000 in
set_option maxRecDepth 100000 in
theorem kX6_storeOf (E : gE) (l : Launch) (g0 q0 q1 x0 x1 x2 r0 : Nat) (an au ap ar aw : Nat → Nat) (ba : Nat → Nat → Nat) (ke : Int32) (lnn : Int32) (pm : Nat → Nat) (ch : Nat → Int32) (tl : Int32) (nu : Nat → Int32) (le : Int32) (nx : Int32) (cmd : Int32) (pos : Int32) (rea : Int32) (cau : Int32) (xn : HutS) (xt : HutS) (xp : HutS) (xr : HutS) (xw : HutS) (h0 : HutS) (h1 : HutS) (h2 : HutS) (h3 : HutS) (h4 : HutS) (p1 : Int32) (p2 : Int32) (res : Int32) (h : fX6_storeOf xn p1 p2 = some res) : gMI E l yX6_storeOf wsX6_storeOf ({ frames := 1, cells := 0, slots := 0, locals := 23 } : Room) [.ref g0, .int p1, .int p2] (List.flatten [[(g0, .inr (6, [.ref (an 0), .ref (au 0), .ref (ap 0), .ref q0, .ref x0, .ref r0, .int ke]))], [(q0, .inr (0, [.ref q1, .int lnn]))], wHa E q1 ba pm, wTx E x0 x1 x2 ch tl nu le nx, [(r0, .inr (3, [.ref (ar 0), .ref (aw 0), .int cmd, .int pos, .int rea, .int cau]))], wHuT E an xn, wHuT E au xt, wHuT E ap xp, wHuT E ar xr, wHuT E aw xw, wHuT E (ba 0) h0, wHuT E (ba 1) h1, wHuT E (ba 2) h2, wHuT E (ba 3) h3, wHuT E (ba 4) h4]) (fun res : Int32 => (List.flatten [[(g0, .inr (6, [.ref (an 0), .ref (au 0), .ref (ap 0), .ref q0, .ref x0, .ref r0, .int ke]))], [(q0, .inr (0, [.ref q1, .int lnn]))], wHa E q1 ba pm, wTx E x0 x1 x2 ch tl nu le nx, [(r0, .inr (3, [.ref (ar 0), .ref (aw 0), .int cmd, .int pos, .int rea, .int cau]))], wHuT E an xn, wHuT E au xt, wHuT E ap xp, wHuT E ar xr, wHuT E aw xw, wHuT E (ba 0) h0, wHuT E (ba 1) h1, wHuT E (ba 2) h2, wHuT E (ba 3) h3, wHuT E (ba 4) h4])) (fun res => res) res := by
  refine g_entI (cc := cX6_storeOf) (maxL := 4) (by decide) rfl (Nat.le_of_ble_eq_true rfl) ?_
  intro p e s m args below meth c A Q ls hx hb hml hown hts hK hP hD hS hA hG hret hl
  unfold fX6_storeOf at h
  replace hl : lv_has ls 4 [(0, .ref g0), (1, .int p1), (2, .int p2)] := hl
  have hiX1 : ∀ w ∈ wsX10, w ∈ wsX6_storeOf := by decide +kernel
  have hiX4 : ∀ w ∈ wsX40, w ∈ wsX6_storeOf := by decide +kernel
  have hiX6 : ∀ w ∈ wsX60, w ∈ wsX6_storeOf := by decide +kernel
  have hw0 := hts (.fieldLink RX6 10 "GlacierHut" "now" "LGlacierHut$Hut;") (by decide +kernel)
  have hw1 := hts (.fieldLink RX6 89 "GlacierHut$Hut" "stores" "LGlacierHut$Stores;") (by decide +kernel)
  have hw2 := hts (.fieldLink RX6 106 "GlacierHut$Stores" "brought" "[I") (by decide +kernel)
  have hw3 := hts (.fieldLink RX6 109 "GlacierHut$Stores" "used" "[I") (by decide +kernel)
  have hw4 := hts (.fieldLink RX6 112 "GlacierHut$Stores" "spoilt" "[I") (by decide +kernel)
  refine lv_iload_n hx hb dX6_storeOf_0 rfl (lv_at hl 1 rfl) ?_
  obtain ⟨r1, hc2, h⟩ := bd1_s h
  refine g_callSi (As := [.int p1]) (rest := []) (r := r1) ⟨hx, hb, hml, hown, hts⟩ (kX4_isKind E l p1 r1 hc2) (va_cwS 1 hts gX6_storeOf_X4_isKind rfl rfl rfl (by decide +kernel) ⟨Nat.le_of_ble_eq_true rfl, Nat.le_of_ble_eq_true rfl⟩) hK hP hD hS hA hG hl rfl rfl rfl (Nat.le_of_ble_eq_true rfl) dX6_storeOf_1 (Nat.zero_le _) (Nat.zero_le _) (fun H locs hP hD hS => ?_)
  refine lv_if_ne (tgt := 9) hx hb dX6_storeOf_4 (by decide) (fun hc3 => ?_) (fun hc3 => ?_)
  · replace h := g_if hc3 h
    refine lv_aload_n hx hb dX6_storeOf_9 rfl (lv_at hl 0 rfl) ?_
    refine va_get (D := E.1) (cl := vwCl) (ci := 6) (v := .ref (an 0)) (C := RX6) (T := TX6) (N := 7) hx hb hts hiX6 hown hK hP 0 rfl rfl 0 (by decide) hw0 (fun _ h9 => h9) rfl dX6_storeOf_10 ?_
    refine va_get (D := E.1) (cl := vwCl) (ci := 1) (v := .ref (an 1)) (C := RX1) (T := TX1) (N := 10) hx hb hts hiX1 hown hK hP 7 rfl rfl 0 (by decide) hw1 (fun _ h9 => h9) rfl dX6_storeOf_13 ?_
    refine lv_astore_n (lv' := [(3, .ref (an 1)), (0, .ref g0), (1, .int p1), (2, .int p2)]) hx hb dX6_storeOf_16 rfl hl (by decide) rfl (fun ls hl => ?_)
    refine lv_iload_n hx hb dX6_storeOf_17 rfl (lv_at hl 3 rfl) ?_
    by_cases hk4 : p2 = (0 : Int32)
    · replace h := g_it hk4 h
      refine lv_tableIn (tgt := 56) (off := 38) hx hb dX6_storeOf_18 (by rw [hk4]; decide) (by rw [hk4]; decide) (by rw [hk4]; rfl) (by decide) ?_
      refine lv_aload_n hx hb dX6_storeOf_56 rfl (lv_at hl 0 rfl) ?_
      refine lv_iload_n hx hb dX6_storeOf_57 rfl (lv_at hl 2 rfl) ?_
      obtain ⟨r10, hc11, h⟩ := bd1_s h
      refine g_callRi (As := [.int p1]) (rest := []) (r := r10) ⟨hx, hb, hml, hown, hts⟩ (kX4_stock E l (an 1) (an 2) (an 3) (an 4) (an 5) (an 6) (an 7) (an 8) (an 9) (an 10) xn.1 xn.2.1 xn.2.2.1 xn.2.2.2.1 xn.2.2.2.2.1 xn.2.2.2.2.2.1 xn.2.2.2.2.2.2.1 xn.2.2.2.2.2.2.2.1 xn.2.2.2.2.2.2.2.2.1 xn.2.2.2.2.2.2.2.2.2.1 xn.2.2.2.2.2.2.2.2.2.2.1 p1 r10 hc11) (cwV 1 hts gX6_storeOf_X4_stock rfl rfl rfl (by decide +kernel) ⟨Nat.le_of_ble_eq_true rfl, Nat.le_of_ble_eq_true rfl⟩) hK hP hD hS hA hG hl [8, 9, 10, 11, 12, 13, 14, 15, 16, 17] 8 (by decide) rfl (ci := 4) rfl rfl rfl rfl rfl rfl rfl (Nat.le_of_ble_eq_true rfl) dX6_storeOf_58 (Nat.zero_le _) (Nat.zero_le _) (fun H locs hP hD hS => ?_)
      exact hret r10 _ _ _ _ _ (Option.some.inj h) hP hS rfl dX6_storeOf_61
    replace h := g_if hk4 h
    by_cases hk5 : p2 = (1 : Int32)
    · replace h := g_it hk5 h
      refine lv_tableIn (tgt := 62) (off := 44) hx hb dX6_storeOf_18 (by rw [hk5]; decide) (by rw [hk5]; decide) (by rw [hk5]; rfl) (by decide) ?_
      refine lv_aload_n hx hb dX6_storeOf_62 rfl (lv_at hl 0 rfl) ?_
      refine va_get (D := E.1) (cl := vwCl) (ci := 4) (v := .ref (an 8)) (C := RX4) (T := TX4) (N := 11) hx hb hts hiX4 hown hK hP 8 rfl rfl 8 (by decide) hw2 (fun _ h9 => h9) rfl dX6_storeOf_63 ?_
      refine lv_iload_n hx hb dX6_storeOf_66 rfl (lv_at hl 2 rfl) ?_
      obtain ⟨hg12, h⟩ := gd_s h
      refine va_iald (D := E.1) (cl := vwCl) (tys := gT E) hx hb hK hP 15 0 rfl rfl (inB_in hg12) dX6_storeOf_67 ?_
      exact hret (xn.2.2.2.2.2.2.2.2.1 (p1).toNatClampNeg) _ _ _ _ _ (Option.some.inj h) hP hS rfl dX6_storeOf_68
    replace h := g_if hk5 h
    by_cases hk6 : p2 = (2 : Int32)
    · replace h := g_it hk6 h
      refine lv_tableIn (tgt := 69) (off := 51) hx hb dX6_storeOf_18 (by rw [hk6]; decide) (by rw [hk6]; decide) (by rw [hk6]; rfl) (by decide) ?_
      refine lv_aload_n hx hb dX6_storeOf_69 rfl (lv_at hl 0 rfl) ?_
      refine va_get (D := E.1) (cl := vwCl) (ci := 4) (v := .ref (an 9)) (C := RX4) (T := TX4) (N := 11) hx hb hts hiX4 hown hK hP 8 rfl rfl 9 (by decide) hw3 (fun _ h9 => h9) rfl dX6_storeOf_70 ?_
      refine lv_iload_n hx hb dX6_storeOf_73 rfl (lv_at hl 2 rfl) ?_
      obtain ⟨hg13, h⟩ := gd_s h
      refine va_iald (D := E.1) (cl := vwCl) (tys := gT E) hx hb hK hP 16 0 rfl rfl (inB_in hg13) dX6_storeOf_74 ?_
      exact hret (xn.2.2.2.2.2.2.2.2.2.1 (p1).toNatClampNeg) _ _ _ _ _ (Option.some.inj h) hP hS rfl dX6_storeOf_75
    replace h := g_if hk6 h
    by_cases hk7 : p2 = (3 : Int32)
    · replace h := g_it hk7 h
      refine lv_tableIn (tgt := 76) (off := 58) hx hb dX6_storeOf_18 (by rw [hk7]; decide) (by rw [hk7]; decide) (by rw [hk7]; rfl) (by decide) ?_
      refine lv_aload_n hx hb dX6_storeOf_76 rfl (lv_at hl 0 rfl) ?_
      refine va_get (D := E.1) (cl := vwCl) (ci := 4) (v := .ref (an 10)) (C := RX4) (T := TX4) (N := 11) hx hb hts hiX4 hown hK hP 8 rfl rfl 10 (by decide) hw4 (fun _ h9 => h9) rfl dX6_storeOf_77 ?_
      refine lv_iload_n hx hb dX6_storeOf_80 rfl (lv_at hl 2 rfl) ?_
      obtain ⟨hg14, h⟩ := gd_s h
      refine va_iald (D := E.1) (cl := vwCl) (tys := gT E) hx hb hK hP 17 0 rfl rfl (inB_in hg14) dX6_storeOf_81 ?_
      exact hret (xn.2.2.2.2.2.2.2.2.2.2.1 (p1).toNatClampNeg) _ _ _ _ _ (Option.some.inj h) hP hS rfl dX6_storeOf_82
    replace h := g_if hk7 h
    by_cases hk8 : p2 = (4 : Int32)
    · replace h := g_it hk8 h
      refine lv_tableIn (tgt := 83) (off := 65) hx hb dX6_storeOf_18 (by rw [hk8]; decide) (by rw [hk8]; decide) (by rw [hk8]; rfl) (by decide) ?_
      refine lv_aload_n hx hb dX6_storeOf_83 rfl (lv_at hl 0 rfl) ?_
      refine lv_iload_n hx hb dX6_storeOf_84 rfl (lv_at hl 2 rfl) ?_
      obtain ⟨r15, hc16, h⟩ := bd1_s h
      refine g_callRi (As := [.int p1]) (rest := []) (r := r15) ⟨hx, hb, hml, hown, hts⟩ (kX4_lotsOfKind E l (an 1) (an 2) (an 3) (an 4) (an 5) (an 6) (an 7) (an 8) (an 9) (an 10) xn.1 xn.2.1 xn.2.2.1 xn.2.2.2.1 xn.2.2.2.2.1 xn.2.2.2.2.2.1 xn.2.2.2.2.2.2.1 xn.2.2.2.2.2.2.2.1 xn.2.2.2.2.2.2.2.2.1 xn.2.2.2.2.2.2.2.2.2.1 xn.2.2.2.2.2.2.2.2.2.2.1 p1 r15 hc16) (cwV 1 hts gX6_storeOf_X4_lotsOfKind rfl rfl rfl (by decide +kernel) ⟨Nat.le_of_ble_eq_true rfl, Nat.le_of_ble_eq_true rfl⟩) hK hP hD hS hA hG hl [8, 9, 10, 11, 12, 13, 14, 15, 16, 17] 8 (by decide) rfl (ci := 4) rfl rfl rfl rfl rfl rfl rfl (Nat.le_of_ble_eq_true rfl) dX6_storeOf_85 (Nat.zero_le _) (Nat.zero_le _) (fun H locs hP hD hS => ?_)
      exact hret r15 _ _ _ _ _ (Option.some.inj h) hP hS rfl dX6_storeOf_88
    replace h := g_if hk8 h
    by_cases hk9 : p2 = (5 : Int32)
    · replace h := g_it hk9 h
      refine lv_tableIn (tgt := 89) (off := 71) hx hb dX6_storeOf_18 (by rw [hk9]; decide) (by rw [hk9]; decide) (by rw [hk9]; rfl) (by decide) ?_
      refine lv_aload_n hx hb dX6_storeOf_89 rfl (lv_at hl 0 rfl) ?_
      refine lv_iload_n hx hb dX6_storeOf_90 rfl (lv_at hl 2 rfl) ?_
      obtain ⟨r17, hc18, h⟩ := bd1_s h
      refine g_callRi (As := [.int p1]) (rest := []) (r := r17) ⟨hx, hb, hml, hown, hts⟩ (kX4_amountOnPallet E l (an 1) (an 2) (an 3) (an 4) (an 5) (an 6) (an 7) (an 8) (an 9) (an 10) xn.1 xn.2.1 xn.2.2.1 xn.2.2.2.1 xn.2.2.2.2.1 xn.2.2.2.2.2.1 xn.2.2.2.2.2.2.1 xn.2.2.2.2.2.2.2.1 xn.2.2.2.2.2.2.2.2.1 xn.2.2.2.2.2.2.2.2.2.1 xn.2.2.2.2.2.2.2.2.2.2.1 p1 r17 hc18) (cwV 1 hts gX6_storeOf_X4_amountOnPallet rfl rfl rfl (by decide +kernel) ⟨Nat.le_of_ble_eq_true rfl, Nat.le_of_ble_eq_true rfl⟩) hK hP hD hS hA hG hl [8, 9, 10, 11, 12, 13, 14, 15, 16, 17] 8 (by decide) rfl (ci := 4) rfl rfl rfl rfl rfl rfl rfl (Nat.le_of_ble_eq_true rfl) dX6_storeOf_91 (Nat.zero_le _) (Nat.zero_le _) (fun H locs hP hD hS => ?_)
      exact hret r17 _ _ _ _ _ (Option.some.inj h) hP hS rfl dX6_storeOf_94
    replace h := g_if hk9 h
    refine lv_tableOut (tgt := 95) hx hb dX6_storeOf_18 (by have q0 := lv_neT (a := 0) hk4 (by decide); have q1 := lv_neT (a := 1) hk5 (by decide); have q2 := lv_neT (a := 2) hk6 (by decide); have q3 := lv_neT (a := 3) hk7 (by decide); have q4 := lv_neT (a := 4) hk8 (by decide); have q5 := lv_neT (a := 5) hk9 (by decide); omega) (by decide) ?_
    refine lv_iconst (v := (-1 : Int32)) hx hb dX6_storeOf_95 (by decide) ?_
    exact hret (-1 : Int32) _ _ _ _ _ (Option.some.inj h) hP hS rfl dX6_storeOf_96
  · replace h := g_it hc3 h
    refine lv_iconst (v := (-1 : Int32)) hx hb dX6_storeOf_7 (by decide) ?_
    exact hret (-1 : Int32) _ _ _ _ _ (Option.some.inj h) hP hS rfl dX6_storeOf_8
set_option maxHeartbeats 4000000 in
set_option maxRecDepth 100000 in
theorem kX6_storm (E : gE) (l : Launch) (g0 q0 q1 x0 x1 x2 r0 : Nat) (an au ap ar aw : Nat → Nat) (ba : Nat → Nat → Nat) (ke : Int32) (lnn : Int32) (pm : Nat → Nat) (ch : Nat → Int32) (tl : Int32) (nu : Nat → Int32) (le : Int32) (nx : Int32) (cmd : Int32) (pos : Int32) (rea : Int32) (cau : Int32) (xn : HutS) (xt : HutS) (xp : HutS) (xr : HutS) (xw : HutS) (h0 : HutS) (h1 : HutS) (h2 : HutS) (h3 : HutS) (h4 : HutS) (p1 : Int32) (p2 : Int32) (res : Int32 × Int32 × (Nat → Nat) × HutS × HutS × HutS × HutS × HutS × HutS) (h : fX6_storm lnn pm xn h0 h1 h2 h3 h4 p1 p2 = some res) : gMI E l yX6_storm wsX6_storm ({ frames := 4, cells := 0, slots := 0, locals := 82 } : Room) [.ref g0, .int p1, .int p2] (List.flatten [[(g0, .inr (6, [.ref (an 0), .ref (au 0), .ref (ap 0), .ref q0, .ref x0, .ref r0, .int ke]))], [(q0, .inr (0, [.ref q1, .int lnn]))], wHa E q1 ba pm, wTx E x0 x1 x2 ch tl nu le nx, [(r0, .inr (3, [.ref (ar 0), .ref (aw 0), .int cmd, .int pos, .int rea, .int cau]))], wHuT E an xn, wHuT E au xt, wHuT E ap xp, wHuT E ar xr, wHuT E aw xw, wHuT E (ba 0) h0, wHuT E (ba 1) h1, wHuT E (ba 2) h2, wHuT E (ba 3) h3, wHuT E (ba 4) h4]) (fun res : Int32 × Int32 × (Nat → Nat) × HutS × HutS × HutS × HutS × HutS × HutS => (List.flatten [[(g0, .inr (6, [.ref (an 0), .ref (au 0), .ref (ap 0), .ref q0, .ref x0, .ref r0, .int ke]))], [(q0, .inr (0, [.ref q1, .int res.2.1]))], wHa E q1 ba res.2.2.1, wTx E x0 x1 x2 ch tl nu le nx, [(r0, .inr (3, [.ref (ar 0), .ref (aw 0), .int cmd, .int pos, .int rea, .int cau]))], wHuT E an res.2.2.2.1, wHuT E au xt, wHuT E ap xp, wHuT E ar xr, wHuT E aw xw, wHuT E (ba 0) res.2.2.2.2.1, wHuT E (ba 1) res.2.2.2.2.2.1, wHuT E (ba 2) res.2.2.2.2.2.2.1, wHuT E (ba 3) res.2.2.2.2.2.2.2.1, wHuT E (ba 4) res.2.2.2.2.2.2.2.2])) (fun res => res.1) res := by
  refine g_entI (cc := cX6_storm) (maxL := 3) (by decide) rfl (Nat.le_of_ble_eq_true rfl) ?_
  intro p e s m args below meth c A Q ls hx hb hml hown hts hK hP hD hS hA hG hret hl
  unfold fX6_storm at h
  replace hl : lv_has ls 3 [(0, .ref g0), (1, .int p1), (2, .int p2)] := hl
  have hiX6 : ∀ w ∈ wsX60, w ∈ wsX6_storm := by decide +kernel
  have hw0 := hts (.fieldLink RX6 25 "GlacierHut" "history" "LGlacierHut$History;") (by decide +kernel)
  have hw1 := hts (.fieldLink RX6 10 "GlacierHut" "now" "LGlacierHut$Hut;") (by decide +kernel)
  refine lv_aload_n hx hb dX6_storm_0 rfl (lv_at hl 0 rfl) ?_
  refine va_get (D := E.1) (cl := vwCl) (ci := 6) (v := .ref q0) (C := RX6) (T := TX6) (N := 7) hx hb hts hiX6 hown hK hP 0 rfl rfl 3 (by decide) hw0 (fun _ h9 => h9) rfl dX6_storm_1 ?_
  refine lv_aload_n hx hb dX6_storm_4 rfl (lv_at hl 0 rfl) ?_
  refine va_get (D := E.1) (cl := vwCl) (ci := 6) (v := .ref (an 0)) (C := RX6) (T := TX6) (N := 7) hx hb hts hiX6 hown hK hP 0 rfl rfl 0 (by decide) hw1 (fun _ h9 => h9) rfl dX6_storm_5 ?_
  obtain ⟨h0_2, h1_4, h2_6, h3_8, h4_10, hc11, h⟩ := bd5_s h
  refine g_callBv (As := [.ref (an 0)]) (rest := []) (bs1 := [[(g0, .inr (6, [.ref (an 0), .ref (au 0), .ref (ap 0), .ref q0, .ref x0, .ref r0, .int ke]))], [(q0, .inr (0, [.ref q1, .int lnn]))], wHa E q1 ba pm, wTx E x0 x1 x2 ch tl nu le nx, [(r0, .inr (3, [.ref (ar 0), .ref (aw 0), .int cmd, .int pos, .int rea, .int cau]))], wHuT E an xn, wHuT E au xt, wHuT E ap xp, wHuT E ar xr, wHuT E aw xw, wHuT E (ba 0) h0_2, wHuT E (ba 1) h1_4, wHuT E (ba 2) h2_6, wHuT E (ba 3) h3_8, wHuT E (ba 4) h4_10]) ⟨hx, hb, hml, hown, hts⟩ (kX0_prepare E l q0 q1 an ba lnn pm h0 h1 h2 h3 h4 xn (h0_2, h1_4, h2_6, h3_8, h4_10) hc11) (cwV 1 hts gX6_storm_X0_prepare rfl rfl rfl (by decide +kernel) ⟨Nat.le_of_ble_eq_true rfl, Nat.le_of_ble_eq_true rfl⟩) hK hP hD hS hA hG hl [1, 2, 10, 11, 12, 13, 14, 5] 1 0 (by decide) rfl (ci := 0) rfl rfl rfl rfl rfl rfl rfl rfl rfl (Nat.le_of_ble_eq_true rfl) dX6_storm_8 (Nat.zero_le _) (Nat.zero_le _) (fun H locs hP hD hS => ?_)
  refine lv_aload_n hx hb dX6_storm_11 rfl (lv_at hl 0 rfl) ?_
  refine lv_aload_n hx hb dX6_storm_12 rfl (lv_at hl 0 rfl) ?_
  refine va_get (D := E.1) (cl := vwCl) (ci := 6) (v := .ref (an 0)) (C := RX6) (T := TX6) (N := 7) hx hb hts hiX6 hown hK hP 0 rfl rfl 0 (by decide) hw1 (fun _ h9 => h9) rfl dX6_storm_13 ?_
  refine lv_iload_n hx hb dX6_storm_16 rfl (lv_at hl 1 rfl) ?_
  refine lv_iload_n hx hb dX6_storm_17 rfl (lv_at hl 2 rfl) ?_
  obtain ⟨r12, xn_14, hc15, h⟩ := bd2_s h
  refine g_callBi (As := [.int p1, .int p2]) (rest := [.ref g0]) (r := r12) (bs1 := [[(g0, .inr (6, [.ref (an 0), .ref (au 0), .ref (ap 0), .ref q0, .ref x0, .ref r0, .int ke]))], [(q0, .inr (0, [.ref q1, .int lnn]))], wHa E q1 ba pm, wTx E x0 x1 x2 ch tl nu le nx, [(r0, .inr (3, [.ref (ar 0), .ref (aw 0), .int cmd, .int pos, .int rea, .int cau]))], wHuT E an xn_14, wHuT E au xt, wHuT E ap xp, wHuT E ar xr, wHuT E aw xw, wHuT E (ba 0) h0_2, wHuT E (ba 1) h1_4, wHuT E (ba 2) h2_6, wHuT E (ba 3) h3_8, wHuT E (ba 4) h4_10]) ⟨hx, hb, hml, hown, hts⟩ (kgX1_tellStorm E l an xn p1 p2 (r12, xn_14) hc15) (cwV 2 hts gX6_storm_X1_tellStorm rfl rfl rfl (by decide +kernel) ⟨Nat.le_of_ble_eq_true rfl, Nat.le_of_ble_eq_true rfl⟩) hK hP hD hS hA hG hl [5] 5 0 (by decide) rfl (ci := 1) rfl rfl rfl rfl rfl rfl rfl rfl rfl rfl (Nat.le_of_ble_eq_true rfl) dX6_storm_18 (Nat.zero_le _) (Nat.zero_le _) (fun H locs hP hD hS => ?_)
  obtain ⟨r16, lnn_18, pm_20, hc21, h⟩ := bd3_s h
  refine g_callBi (As := [.int r12]) (rest := []) (r := r16) (bs1 := [[(g0, .inr (6, [.ref (an 0), .ref (au 0), .ref (ap 0), .ref q0, .ref x0, .ref r0, .int ke]))], [(q0, .inr (0, [.ref q1, .int lnn_18]))], wHa E q1 ba pm_20, wTx E x0 x1 x2 ch tl nu le nx, [(r0, .inr (3, [.ref (ar 0), .ref (aw 0), .int cmd, .int pos, .int rea, .int cau]))], wHuT E an xn_14, wHuT E au xt, wHuT E ap xp, wHuT E ar xr, wHuT E aw xw, wHuT E (ba 0) h0_2, wHuT E (ba 1) h1_4, wHuT E (ba 2) h2_6, wHuT E (ba 3) h3_8, wHuT E (ba 4) h4_10]) ⟨hx, hb, hml, hown, hts⟩ (kX6_recorded E l g0 q0 q1 x0 r0 an au ap ba ke lnn pm h0_2 h1_4 h2_6 h3_8 h4_10 r12 (r16, lnn_18, pm_20) hc21) (cwV 1 hts gX6_storm_X6_recorded rfl rfl rfl (by decide +kernel) ⟨Nat.le_of_ble_eq_true rfl, Nat.le_of_ble_eq_true rfl⟩) hK hP hD hS hA hG hl [0, 1, 2, 10, 11, 12, 13, 14] 0 0 (by decide) rfl (ci := 6) rfl rfl rfl rfl rfl rfl rfl rfl rfl rfl (Nat.le_of_ble_eq_true rfl) dX6_storm_21 (Nat.zero_le _) (Nat.zero_le _) (fun H locs hP hD hS => ?_)
  exact hret (r16, lnn_18, pm_20, xn_14, h0_2, h1_4, h2_6, h3_8, h4_10) _ _ _ _ _ (Option.some.inj h) hP hS rfl dX6_storm_24
set_option maxHeartbeats 4000000 in
set_option maxRecDepth 100000 in
theorem kX6_type (E : gE) (l : Launch) (g0 q0 q1 x0 x1 x2 r0 : Nat) (an au ap ar aw : Nat → Nat) (ba : Nat → Nat → Nat) (ke : Int32) (lnn : Int32) (pm : Nat → Nat) (ch : Nat → Int32) (tl : Int32) (nu : Nat → Int32) (le : Int32) (nx : Int32) (cmd : Int32) (pos : Int32) (rea : Int32) (cau : Int32) (xn : HutS) (xt : HutS) (xp : HutS) (xr : HutS) (xw : HutS) (h0 : HutS) (h1 : HutS) (h2 : HutS) (h3 : HutS) (h4 : HutS) (p1 : Int32) (res : Int32 × (Nat → Int32) × Int32) (h : fX6_type ch tl p1 = some res) : gMI E l yX6_type wsX6_type ({ frames := 1, cells := 0, slots := 0, locals := 21 } : Room) [.ref g0, .int p1] (List.flatten [[(g0, .inr (6, [.ref (an 0), .ref (au 0), .ref (ap 0), .ref q0, .ref x0, .ref r0, .int ke]))], [(q0, .inr (0, [.ref q1, .int lnn]))], wHa E q1 ba pm, wTx E x0 x1 x2 ch tl nu le nx, [(r0, .inr (3, [.ref (ar 0), .ref (aw 0), .int cmd, .int pos, .int rea, .int cau]))], wHuT E an xn, wHuT E au xt, wHuT E ap xp, wHuT E ar xr, wHuT E aw xw, wHuT E (ba 0) h0, wHuT E (ba 1) h1, wHuT E (ba 2) h2, wHuT E (ba 3) h3, wHuT E (ba 4) h4]) (fun res : Int32 × (Nat → Int32) × Int32 => (List.flatten [[(g0, .inr (6, [.ref (an 0), .ref (au 0), .ref (ap 0), .ref q0, .ref x0, .ref r0, .int ke]))], [(q0, .inr (0, [.ref q1, .int lnn]))], wHa E q1 ba pm, wTx E x0 x1 x2 res.2.1 res.2.2 nu le nx, [(r0, .inr (3, [.ref (ar 0), .ref (aw 0), .int cmd, .int pos, .int rea, .int cau]))], wHuT E an xn, wHuT E au xt, wHuT E ap xp, wHuT E ar xr, wHuT E aw xw, wHuT E (ba 0) h0, wHuT E (ba 1) h1, wHuT E (ba 2) h2, wHuT E (ba 3) h3, wHuT E (ba 4) h4])) (fun res => res.1) res := by
  refine g_entI (cc := cX6_type) (maxL := 2) (by decide) rfl (Nat.le_of_ble_eq_true rfl) ?_
  intro p e s m args below meth c A Q ls hx hb hml hown hts hK hP hD hS hA hG hret hl
  unfold fX6_type at h
  replace hl : lv_has ls 2 [(0, .ref g0), (1, .int p1)] := hl
  have hiX5 : ∀ w ∈ wsX50, w ∈ wsX6_type := by decide +kernel
  have hiX6 : ∀ w ∈ wsX60, w ∈ wsX6_type := by decide +kernel
  have hw0 := hts (.fieldLink RX6 32 "GlacierHut" "text" "LGlacierHut$Text;") (by decide +kernel)
  have hw1 := hts (.fieldLink RX6 190 "GlacierHut$Text" "length" "I") (by decide +kernel)
  refine lv_iload_n hx hb dX6_type_0 rfl (lv_at hl 1 rfl) ?_
  refine lv_bipush (v := (32 : Int32)) hx hb dX6_type_1 (by decide) ?_
  refine lv_icmp_lt (tgt := 12) hx hb dX6_type_3 (by decide) (fun hc1 => ?_) (fun hc1 => ?_)
  · replace h := g_it hc1 h
    refine lv_iconst (v := (-1 : Int32)) hx hb dX6_type_12 (by decide) ?_
    exact hret ((-1 : Int32), ch, tl) _ _ _ _ _ (Option.some.inj h) hP hS rfl dX6_type_13
  · replace h := g_if hc1 h
    refine lv_iload_n hx hb dX6_type_6 rfl (lv_at hl 1 rfl) ?_
    refine lv_bipush (v := (126 : Int32)) hx hb dX6_type_7 (by decide) ?_
    refine lv_icmp_le (tgt := 14) hx hb dX6_type_9 (by decide) (fun hc2 => ?_) (fun hc2 => ?_)
    · replace h := g_it hc2 h
      refine lv_aload_n hx hb dX6_type_14 rfl (lv_at hl 0 rfl) ?_
      refine va_get (D := E.1) (cl := vwCl) (ci := 6) (v := .ref x0) (C := RX6) (T := TX6) (N := 7) hx hb hts hiX6 hown hK hP 0 rfl rfl 4 (by decide) hw0 (fun _ h9 => h9) rfl dX6_type_15 ?_
      refine va_get (D := E.1) (cl := vwCl) (ci := 5) (v := .int tl) (C := RX5) (T := TX5) (N := 5) hx hb hts hiX5 hown hK hP 3 rfl rfl 1 (by decide) hw1 (fun _ h9 => h9) rfl dX6_type_18 ?_
      refine lv_bipush (v := (60 : Int32)) hx hb dX6_type_21 (by decide) ?_
      refine lv_icmp_lt (tgt := 29) hx hb dX6_type_23 (by decide) (fun hc3 => ?_) (fun hc3 => ?_)
      · replace h := g_it hc3 h
        refine lv_aload_n hx hb dX6_type_29 rfl (lv_at hl 0 rfl) ?_
        refine va_get (D := E.1) (cl := vwCl) (ci := 6) (v := .ref x0) (C := RX6) (T := TX6) (N := 7) hx hb hts hiX6 hown hK hP 0 rfl rfl 4 (by decide) hw0 (fun _ h9 => h9) rfl dX6_type_30 ?_
        refine lv_iload_n hx hb dX6_type_33 rfl (lv_at hl 1 rfl) ?_
        obtain ⟨ch4, tl5, hc6, h⟩ := bd2_s h
        refine g_call1v (As := [.int p1]) (rest := []) (bs1 := [[(g0, .inr (6, [.ref (an 0), .ref (au 0), .ref (ap 0), .ref q0, .ref x0, .ref r0, .int ke]))], [(q0, .inr (0, [.ref q1, .int lnn]))], wHa E q1 ba pm, wTx E x0 x1 x2 ch4 tl5 nu le nx, [(r0, .inr (3, [.ref (ar 0), .ref (aw 0), .int cmd, .int pos, .int rea, .int cau]))], wHuT E an xn, wHuT E au xt, wHuT E ap xp, wHuT E ar xr, wHuT E aw xw, wHuT E (ba 0) h0, wHuT E (ba 1) h1, wHuT E (ba 2) h2, wHuT E (ba 3) h3, wHuT E (ba 4) h4]) ⟨hx, hb, hml, hown, hts⟩ (kX5_append E l x0 x1 x2 ch tl nu le nx p1 (ch4, tl5) hc6) (cwV 1 hts gX6_type_X5_append rfl rfl rfl (by decide +kernel) ⟨Nat.le_of_ble_eq_true rfl, Nat.le_of_ble_eq_true rfl⟩) hK hP hD hS hA hG hl 3 0 (ci := 5) rfl rfl rfl rfl rfl rfl rfl rfl (Nat.le_of_ble_eq_true rfl) dX6_type_34 (Nat.zero_le _) (Nat.zero_le _) (fun H locs hP hD hS => ?_)
        refine lv_aload_n hx hb dX6_type_37 rfl (lv_at hl 0 rfl) ?_
        refine va_get (D := E.1) (cl := vwCl) (ci := 6) (v := .ref x0) (C := RX6) (T := TX6) (N := 7) hx hb hts hiX6 hown hK hP 0 rfl rfl 4 (by decide) hw0 (fun _ h9 => h9) rfl dX6_type_38 ?_
        refine va_get (D := E.1) (cl := vwCl) (ci := 5) (v := .int tl5) (C := RX5) (T := TX5) (N := 5) hx hb hts hiX5 hown hK hP 3 rfl rfl 1 (by decide) hw1 (fun _ h9 => h9) rfl dX6_type_41 ?_
        exact hret (tl5, ch4, tl5) _ _ _ _ _ (Option.some.inj h) hP hS rfl dX6_type_44
      · replace h := g_if hc3 h
        refine lv_bipush (v := (-3 : Int32)) hx hb dX6_type_26 (by decide) ?_
        exact hret ((-3 : Int32), ch, tl) _ _ _ _ _ (Option.some.inj h) hP hS rfl dX6_type_28
    · replace h := g_if hc2 h
      refine lv_iconst (v := (-1 : Int32)) hx hb dX6_type_12 (by decide) ?_
      exact hret ((-1 : Int32), ch, tl) _ _ _ _ _ (Option.some.inj h) hP hS rfl dX6_type_13
