set_option maxHeartbeats 4000000 in
set_option maxRecDepth 100000 in
theorem kX1_isStorm (E : gE) (l : Launch) (a0 a1 a2 a3 a4 a5 a6 a7 a8 a9 a10 a11 a12 a13 a14 a15 a16 a17 a18 a19 : Nat) (lk : Nat → Int32) (la : Nat → Int32) (ll : Nat → Int32) (lots : Int32) (pk : Nat → Int32) (pa : Nat → Int32) (pd : Nat → Int32) (onp : Int32) (br : Nat → Int32) (us : Nat → Int32) (sp : Nat → Int32) (zs : Nat → Int32) (zd : Nat → Int32) (zn : Nat → Int32) (zt : Nat → Int32) (zl : Nat → Int32) (zc : Nat → Int32) (nm : Int32) (sto : Nat → Int32) (sg : Nat → Int32) (dy : Int32) (fl : Int32) (hu : Int32) (cn : Int32) (gn : Int32) (cs : Int32)  (res : Int32) (h : fX1_isStorm sto dy  = some res) : gMI E l yX1_isStorm wsX1_isStorm ({ frames := 0, cells := 0, slots := 0, locals := 0 } : Room) [.ref a0] (List.flatten [wHo E a0 a1 a11 a18 a19 dy fl hu cn gn cs, wSt E a1 a2 a3 a4 a5 a6 a7 a8 a9 a10 lk la ll lots pk pa pd onp br us sp, wPa E a11 a12 a13 a14 a15 a16 a17 zs zd zn zt zl zc nm, wH8 E a18 sto, wH9 E a19 sg]) (fun res : Int32 => (List.flatten [wHo E a0 a1 a11 a18 a19 dy fl hu cn gn cs, wSt E a1 a2 a3 a4 a5 a6 a7 a8 a9 a10 lk la ll lots pk pa pd onp br us sp, wPa E a11 a12 a13 a14 a15 a16 a17 zs zd zn zt zl zc nm, wH8 E a18 sto, wH9 E a19 sg])) (fun res => res) res := by
  refine g_entZ (cc := cX1_isStorm) (maxL := 1) (by decide) rfl (Nat.le_of_ble_eq_true rfl) ?_
  intro p e s m args below meth c A Q ls hx hb hml hown hts hK hP hD hS hA hG hret hl
  unfold fX1_isStorm at h
  replace hl : lv_has ls 1 [(0, .ref a0)] := hl
  have hiX1 : ∀ w ∈ wsX10, w ∈ wsX1_isStorm := by decide +kernel
  have hw0 := hts (.fieldLink RX1 49 "GlacierHut$Hut" "day" "I") (by decide +kernel)
  have hw1 := hts (.fieldLink RX1 25 "GlacierHut$Hut" "storms" "[Z") (by decide +kernel)
  refine lv_aload_n hx hb dX1_isStorm_0 rfl (lv_at hl 0 rfl) ?_
  refine va_get (D := E.1) (cl := vwCl) (ci := 1) (v := .int dy) (C := RX1) (T := TX1) (N := 10) hx hb hts hiX1 hown hK hP 0 rfl rfl 4 (by decide) hw0 (fun _ h9 => h9) rfl dX1_isStorm_1 ?_
  refine lv_aload_n hx hb dX1_isStorm_4 rfl (lv_at hl 0 rfl) ?_
  refine va_get (D := E.1) (cl := vwCl) (ci := 1) (v := .ref a18) (C := RX1) (T := TX1) (N := 10) hx hb hts hiX1 hown hK hP 0 rfl rfl 2 (by decide) hw1 (fun _ h9 => h9) rfl dX1_isStorm_5 ?_
  refine va_alen (D := E.1) (cl := vwCl) (tys := gT E) (v := (396 : Int32)) hx hb hK hP 18 1 rfl rfl (show Int32.ofNat 396 = (396 : Int32) by decide) dX1_isStorm_8 ?_
  refine lv_icmp_ge (tgt := 28) hx hb dX1_isStorm_9 (by decide) (fun hc1 => ?_) (fun hc1 => ?_)
  · replace h := g_it hc1 h
    refine lv_iconst (v := (0 : Int32)) hx hb dX1_isStorm_28 (by decide) ?_
    exact hret (0 : Int32) _ _ _ _ _ (Option.some.inj h) hP hS rfl rfl dX1_isStorm_29
  · replace h := g_if hc1 h
    refine lv_aload_n hx hb dX1_isStorm_12 rfl (lv_at hl 0 rfl) ?_
    refine va_get (D := E.1) (cl := vwCl) (ci := 1) (v := .ref a18) (C := RX1) (T := TX1) (N := 10) hx hb hts hiX1 hown hK hP 0 rfl rfl 2 (by decide) hw1 (fun _ h9 => h9) rfl dX1_isStorm_13 ?_
    refine lv_aload_n hx hb dX1_isStorm_16 rfl (lv_at hl 0 rfl) ?_
    refine va_get (D := E.1) (cl := vwCl) (ci := 1) (v := .int dy) (C := RX1) (T := TX1) (N := 10) hx hb hts hiX1 hown hK hP 0 rfl rfl 4 (by decide) hw0 (fun _ h9 => h9) rfl dX1_isStorm_17 ?_
    obtain ⟨hg2, h⟩ := gd_s h
    refine va_zald (D := E.1) (cl := vwCl) (tys := gT E) hx hb hK hP 18 1 rfl rfl (inB_in hg2) dX1_isStorm_20 ?_
    refine lv_if_eq (tgt := 28) hx hb dX1_isStorm_21 (by decide) (fun hc3 => ?_) (fun hc3 => ?_)
    · replace h := g_it hc3 h
      refine lv_iconst (v := (0 : Int32)) hx hb dX1_isStorm_28 (by decide) ?_
      exact hret (0 : Int32) _ _ _ _ _ (Option.some.inj h) hP hS rfl rfl dX1_isStorm_29
    · replace h := g_if hc3 h
      refine lv_iconst (v := (1 : Int32)) hx hb dX1_isStorm_24 (by decide) ?_
      refine lv_goto (tgt := 29) hx hb dX1_isStorm_25 (by decide) ?_
      exact hret (1 : Int32) _ _ _ _ _ (Option.some.inj h) hP hS rfl rfl dX1_isStorm_29
set_option maxHeartbeats 4000000 in
set_option maxRecDepth 100000 in
theorem kX1_bringPallet (E : gE) (l : Launch) (a0 a1 a2 a3 a4 a5 a6 a7 a8 a9 a10 a11 a12 a13 a14 a15 a16 a17 a18 a19 : Nat) (lk : Nat → Int32) (la : Nat → Int32) (ll : Nat → Int32) (lots : Int32) (pk : Nat → Int32) (pa : Nat → Int32) (pd : Nat → Int32) (onp : Int32) (br : Nat → Int32) (us : Nat → Int32) (sp : Nat → Int32) (zs : Nat → Int32) (zd : Nat → Int32) (zn : Nat → Int32) (zt : Nat → Int32) (zl : Nat → Int32) (zc : Nat → Int32) (nm : Int32) (sto : Nat → Int32) (sg : Nat → Int32) (dy : Int32) (fl : Int32) (hu : Int32) (cn : Int32) (gn : Int32) (cs : Int32)  (res : Int32 × (Nat → Int32) × (Nat → Int32) × (Nat → Int32) × Int32 × Int32 × (Nat → Int32) × Int32) (h : fX1_bringPallet lk la ll lots pk pa pd onp br sto sg dy fl  = some res) : gMI E l yX1_bringPallet wsX1_bringPallet ({ frames := 3, cells := 0, slots := 0, locals := 66 } : Room) [.ref a0] (List.flatten [wHo E a0 a1 a11 a18 a19 dy fl hu cn gn cs, wSt E a1 a2 a3 a4 a5 a6 a7 a8 a9 a10 lk la ll lots pk pa pd onp br us sp, wPa E a11 a12 a13 a14 a15 a16 a17 zs zd zn zt zl zc nm, wH8 E a18 sto, wH9 E a19 sg]) (fun res : Int32 × (Nat → Int32) × (Nat → Int32) × (Nat → Int32) × Int32 × Int32 × (Nat → Int32) × Int32 => (List.flatten [wHo E a0 a1 a11 a18 a19 dy res.2.2.2.2.2.2.2 hu cn gn cs, wSt E a1 a2 a3 a4 a5 a6 a7 a8 a9 a10 res.2.1 res.2.2.1 res.2.2.2.1 res.2.2.2.2.1 pk pa pd res.2.2.2.2.2.1 res.2.2.2.2.2.2.1 us sp, wPa E a11 a12 a13 a14 a15 a16 a17 zs zd zn zt zl zc nm, wH8 E a18 sto, wH9 E a19 sg])) (fun res => res.1) res := by
  refine g_entI (cc := cX1_bringPallet) (maxL := 2) (by decide) rfl (Nat.le_of_ble_eq_true rfl) ?_
  intro p e s m args below meth c A Q ls hx hb hml hown hts hK hP hD hS hA hG hret hl
  unfold fX1_bringPallet at h
  replace hl : lv_has ls 2 [(0, .ref a0)] := hl
  have hiX1 : ∀ w ∈ wsX10, w ∈ wsX1_bringPallet := by decide +kernel
  have hiX4 : ∀ w ∈ wsX40, w ∈ wsX1_bringPallet := by decide +kernel
  have hw0 := hts (.fieldLink RX1 12 "GlacierHut$Hut" "stores" "LGlacierHut$Stores;") (by decide +kernel)
  have hw1 := hts (.fieldLink RX1 72 "GlacierHut$Stores" "onPallet" "I") (by decide +kernel)
  have hw2 := hts (.fieldLink RX1 53 "GlacierHut$Hut" "flights" "I") (by decide +kernel)
  have hw3 := hts (.fieldLink RX1 29 "GlacierHut$Hut" "settings" "[I") (by decide +kernel)
  have hw4 := hts (.fieldLink RX1 83 "GlacierHut$Stores" "lots" "I") (by decide +kernel)
  have hw5 := hts (.fieldLink RX1 49 "GlacierHut$Hut" "day" "I") (by decide +kernel)
  refine lv_aload_n hx hb dX1_bringPallet_0 rfl (lv_at hl 0 rfl) ?_
  refine va_get (D := E.1) (cl := vwCl) (ci := 1) (v := .ref a1) (C := RX1) (T := TX1) (N := 10) hx hb hts hiX1 hown hK hP 0 rfl rfl 0 (by decide) hw0 (fun _ h9 => h9) rfl dX1_bringPallet_1 ?_
  refine va_get (D := E.1) (cl := vwCl) (ci := 4) (v := .int onp) (C := RX4) (T := TX4) (N := 11) hx hb hts hiX4 hown hK hP 1 rfl rfl 7 (by decide) hw1 (fun _ h9 => h9) rfl dX1_bringPallet_4 ?_
  refine lv_istore_n (lv' := [(1, .int onp), (0, .ref a0)]) hx hb dX1_bringPallet_7 rfl hl (by decide) rfl (fun ls hl => ?_)
  refine lv_iload_n hx hb dX1_bringPallet_8 rfl (lv_at hl 0 rfl) ?_
  refine lv_if_eq (tgt := 32) hx hb dX1_bringPallet_9 (by decide) (fun hc1 => ?_) (fun hc1 => ?_)
  · replace h := g_it hc1 h
    refine lv_bipush (v := (-2 : Int32)) hx hb dX1_bringPallet_32 (by decide) ?_
    exact hret ((-2 : Int32), lk, la, ll, lots, onp, br, fl) _ _ _ _ _ (Option.some.inj h) hP hS rfl dX1_bringPallet_34
  · replace h := g_if hc1 h
    refine lv_aload_n hx hb dX1_bringPallet_12 rfl (lv_at hl 1 rfl) ?_
    obtain ⟨r2, hc3, h⟩ := bd1_s h
    refine g_callRi (As := []) (rest := []) (r := r2) ⟨hx, hb, hml, hown, hts⟩ (kX1_isStorm E l a0 a1 a2 a3 a4 a5 a6 a7 a8 a9 a10 a11 a12 a13 a14 a15 a16 a17 a18 a19 lk la ll lots pk pa pd onp br us sp zs zd zn zt zl zc nm sto sg dy fl hu cn gn cs r2 hc3) (cwV 0 hts gX1_bringPallet_X1_isStorm rfl rfl rfl (by decide +kernel) ⟨Nat.le_of_ble_eq_true rfl, Nat.le_of_ble_eq_true rfl⟩) hK hP hD hS hA hG hl [0, 1, 2, 3, 4, 5, 6, 7, 8, 9, 10, 11, 12, 13, 14, 15, 16, 17, 18, 19] 0 (by decide) rfl (ci := 1) rfl rfl rfl rfl rfl rfl rfl (Nat.le_of_ble_eq_true rfl) dX1_bringPallet_13 (Nat.zero_le _) (Nat.zero_le _) (fun H locs hP hD hS => ?_)
    refine lv_if_ne (tgt := 32) hx hb dX1_bringPallet_16 (by decide) (fun hc4 => ?_) (fun hc4 => ?_)
    · replace h := g_if hc4 h
      refine lv_bipush (v := (-2 : Int32)) hx hb dX1_bringPallet_32 (by decide) ?_
      exact hret ((-2 : Int32), lk, la, ll, lots, onp, br, fl) _ _ _ _ _ (Option.some.inj h) hP hS rfl dX1_bringPallet_34
    · replace h := g_it hc4 h
      refine lv_aload_n hx hb dX1_bringPallet_19 rfl (lv_at hl 1 rfl) ?_
      refine va_get (D := E.1) (cl := vwCl) (ci := 1) (v := .int fl) (C := RX1) (T := TX1) (N := 10) hx hb hts hiX1 hown hK hP 0 rfl rfl 5 (by decide) hw2 (fun _ h9 => h9) rfl dX1_bringPallet_20 ?_
      refine lv_aload_n hx hb dX1_bringPallet_23 rfl (lv_at hl 1 rfl) ?_
      refine va_get (D := E.1) (cl := vwCl) (ci := 1) (v := .ref a19) (C := RX1) (T := TX1) (N := 10) hx hb hts hiX1 hown hK hP 0 rfl rfl 3 (by decide) hw3 (fun _ h9 => h9) rfl dX1_bringPallet_24 ?_
      refine lv_iconst (v := (3 : Int32)) hx hb dX1_bringPallet_27 (by decide) ?_
      obtain ⟨hg5, h⟩ := gd_s h
      refine va_iald (D := E.1) (cl := vwCl) (tys := gT E) hx hb hK hP 19 0 rfl rfl (inB_in hg5) dX1_bringPallet_28 ?_
      refine lv_icmp_lt (tgt := 35) hx hb dX1_bringPallet_29 (by decide) (fun hc6 => ?_) (fun hc6 => ?_)
      · replace h := g_it hc6 h
        refine lv_aload_n hx hb dX1_bringPallet_35 rfl (lv_at hl 1 rfl) ?_
        refine va_get (D := E.1) (cl := vwCl) (ci := 1) (v := .ref a1) (C := RX1) (T := TX1) (N := 10) hx hb hts hiX1 hown hK hP 0 rfl rfl 0 (by decide) hw0 (fun _ h9 => h9) rfl dX1_bringPallet_36 ?_
        refine va_get (D := E.1) (cl := vwCl) (ci := 4) (v := .int lots) (C := RX4) (T := TX4) (N := 11) hx hb hts hiX4 hown hK hP 1 rfl rfl 3 (by decide) hw4 (fun _ h9 => h9) rfl dX1_bringPallet_39 ?_
        refine lv_iload_n hx hb dX1_bringPallet_42 rfl (lv_at hl 0 rfl) ?_
        refine lv_iadd hx hb dX1_bringPallet_43 ?_
        refine lv_bipush (v := (20 : Int32)) hx hb dX1_bringPallet_44 (by decide) ?_
        refine lv_icmp_le (tgt := 52) hx hb dX1_bringPallet_46 (by decide) (fun hc7 => ?_) (fun hc7 => ?_)
        · replace h := g_it hc7 h
          refine lv_aload_n hx hb dX1_bringPallet_52 rfl (lv_at hl 1 rfl) ?_
          refine va_get (D := E.1) (cl := vwCl) (ci := 1) (v := .ref a1) (C := RX1) (T := TX1) (N := 10) hx hb hts hiX1 hown hK hP 0 rfl rfl 0 (by decide) hw0 (fun _ h9 => h9) rfl dX1_bringPallet_53 ?_
          refine lv_aload_n hx hb dX1_bringPallet_56 rfl (lv_at hl 1 rfl) ?_
          refine va_get (D := E.1) (cl := vwCl) (ci := 1) (v := .int dy) (C := RX1) (T := TX1) (N := 10) hx hb hts hiX1 hown hK hP 0 rfl rfl 4 (by decide) hw5 (fun _ h9 => h9) rfl dX1_bringPallet_57 ?_
          obtain ⟨lk8, la9, ll10, lots11, onp12, br13, hc14, h⟩ := bd6_s h
          refine g_call1v (As := [.int dy]) (rest := []) (bs1 := [wHo E a0 a1 a11 a18 a19 dy fl hu cn gn cs, wSt E a1 a2 a3 a4 a5 a6 a7 a8 a9 a10 lk8 la9 ll10 lots11 pk pa pd onp12 br13 us sp, wPa E a11 a12 a13 a14 a15 a16 a17 zs zd zn zt zl zc nm, wH8 E a18 sto, wH9 E a19 sg]) ⟨hx, hb, hml, hown, hts⟩ (kX4_unloadPallet E l a1 a2 a3 a4 a5 a6 a7 a8 a9 a10 lk la ll lots pk pa pd onp br us sp dy (lk8, la9, ll10, lots11, onp12, br13) hc14) (cwV 1 hts gX1_bringPallet_X4_unloadPallet rfl rfl rfl (by decide +kernel) ⟨Nat.le_of_ble_eq_true rfl, Nat.le_of_ble_eq_true rfl⟩) hK hP hD hS hA hG hl 1 0 (ci := 4) rfl rfl rfl rfl rfl rfl rfl rfl (Nat.le_of_ble_eq_true rfl) dX1_bringPallet_60 (Nat.zero_le _) (Nat.zero_le _) (fun H locs hP hD hS => ?_)
          refine lv_aload_n hx hb dX1_bringPallet_63 rfl (lv_at hl 1 rfl) ?_
          refine lv_dup hx hb dX1_bringPallet_64 rfl ?_
          refine va_get (D := E.1) (cl := vwCl) (ci := 1) (v := .int fl) (C := RX1) (T := TX1) (N := 10) hx hb hts hiX1 hown hK hP 0 rfl rfl 5 (by decide) hw2 (fun _ h9 => h9) rfl dX1_bringPallet_65 ?_
          refine lv_iconst (v := (1 : Int32)) hx hb dX1_bringPallet_68 (by decide) ?_
          refine lv_iadd hx hb dX1_bringPallet_69 ?_
          refine lv_topi (fun v15 e_v15 => ?_)
          replace h := jl_s e_v15 h
          refine va_put (D := E.1) (cl := vwCl) (ci := 1) (v := .int v15) (ty := .int) (C := RX1) (T := TX1) (N := 10) hx hb hts hiX1 tyX1 tyX1_ok nmX1 hown hK hP hD hS 0 rfl rfl 5 (by decide) hw2 (fun _ h9 => h9) rfl (by decide +kernel) rfl rfl (Nat.le_of_ble_eq_true rfl) dX1_bringPallet_70 (fun H locs hP hD hS => ?_)
          replace hP : va_P E.1 vwCl (List.flatten [wHo E a0 a1 a11 a18 a19 dy v15 hu cn gn cs, wSt E a1 a2 a3 a4 a5 a6 a7 a8 a9 a10 lk8 la9 ll10 lots11 pk pa pd onp12 br13 us sp, wPa E a11 a12 a13 a14 a15 a16 a17 zs zd zn zt zl zc nm, wH8 E a18 sto, wH9 E a19 sg]) H := hP
          replace hD : va_D A (List.flatten [wHo E a0 a1 a11 a18 a19 dy v15 hu cn gn cs, wSt E a1 a2 a3 a4 a5 a6 a7 a8 a9 a10 lk8 la9 ll10 lots11 pk pa pd onp12 br13 us sp, wPa E a11 a12 a13 a14 a15 a16 a17 zs zd zn zt zl zc nm, wH8 E a18 sto, wH9 E a19 sg]) := hD
          refine lv_iload_n hx hb dX1_bringPallet_73 rfl (lv_at hl 0 rfl) ?_
          exact hret (onp, lk8, la9, ll10, lots11, onp12, br13, v15) _ _ _ _ _ (Option.some.inj h) hP hS rfl dX1_bringPallet_74
        · replace h := g_if hc7 h
          refine lv_bipush (v := (-3 : Int32)) hx hb dX1_bringPallet_49 (by decide) ?_
          exact hret ((-3 : Int32), lk, la, ll, lots, onp, br, fl) _ _ _ _ _ (Option.some.inj h) hP hS rfl dX1_bringPallet_51
      · replace h := g_if hc6 h
        refine lv_bipush (v := (-2 : Int32)) hx hb dX1_bringPallet_32 (by decide) ?_
        exact hret ((-2 : Int32), lk, la, ll, lots, onp, br, fl) _ _ _ _ _ (Option.some.inj h) hP hS rfl dX1_bringPallet_34
set_option maxHeartbeats 4000000 in
set_option maxRecDepth 100000 in
theorem kX1_callOff (E : gE) (l : Launch) (a0 a1 a2 a3 a4 a5 a6 a7 a8 a9 a10 a11 a12 a13 a14 a15 a16 a17 a18 a19 : Nat) (lk : Nat → Int32) (la : Nat → Int32) (ll : Nat → Int32) (lots : Int32) (pk : Nat → Int32) (pa : Nat → Int32) (pd : Nat → Int32) (onp : Int32) (br : Nat → Int32) (us : Nat → Int32) (sp : Nat → Int32) (zs : Nat → Int32) (zd : Nat → Int32) (zn : Nat → Int32) (zt : Nat → Int32) (zl : Nat → Int32) (zc : Nat → Int32) (nm : Int32) (sto : Nat → Int32) (sg : Nat → Int32) (dy : Int32) (fl : Int32) (hu : Int32) (cn : Int32) (gn : Int32) (cs : Int32) (p1 : Int32) (res : Int32 × (Nat → Int32)) (h : fX1_callOff zt nm p1 = some res) : gMI E l yX1_callOff wsX1_callOff ({ frames := 1, cells := 0, slots := 0, locals := 23 } : Room) [.ref a0, .int p1] (List.flatten [wHo E a0 a1 a11 a18 a19 dy fl hu cn gn cs, wSt E a1 a2 a3 a4 a5 a6 a7 a8 a9 a10 lk la ll lots pk pa pd onp br us sp, wPa E a11 a12 a13 a14 a15 a16 a17 zs zd zn zt zl zc nm, wH8 E a18 sto, wH9 E a19 sg]) (fun res : Int32 × (Nat → Int32) => (List.flatten [wHo E a0 a1 a11 a18 a19 dy fl hu cn gn cs, wSt E a1 a2 a3 a4 a5 a6 a7 a8 a9 a10 lk la ll lots pk pa pd onp br us sp, wPa E a11 a12 a13 a14 a15 a16 a17 zs zd zn res.2 zl zc nm, wH8 E a18 sto, wH9 E a19 sg])) (fun res => res.1) res := by
  refine g_entI (cc := cX1_callOff) (maxL := 2) (by decide) rfl (Nat.le_of_ble_eq_true rfl) ?_
  intro p e s m args below meth c A Q ls hx hb hml hown hts hK hP hD hS hA hG hret hl
  unfold fX1_callOff at h
  replace hl : lv_has ls 2 [(0, .ref a0), (1, .int p1)] := hl
  have hiX1 : ∀ w ∈ wsX10, w ∈ wsX1_callOff := by decide +kernel
  have hiX2 : ∀ w ∈ wsX20, w ∈ wsX1_callOff := by decide +kernel
  have hw0 := hts (.fieldLink RX1 21 "GlacierHut$Hut" "parties" "LGlacierHut$Parties;") (by decide +kernel)
  have hw1 := hts (.fieldLink RX1 115 "GlacierHut$Parties" "status" "[I") (by decide +kernel)
  refine lv_aload_n hx hb dX1_callOff_0 rfl (lv_at hl 0 rfl) ?_
  refine va_get (D := E.1) (cl := vwCl) (ci := 1) (v := .ref a11) (C := RX1) (T := TX1) (N := 10) hx hb hts hiX1 hown hK hP 0 rfl rfl 1 (by decide) hw0 (fun _ h9 => h9) rfl dX1_callOff_1 ?_
  refine lv_iload_n hx hb dX1_callOff_4 rfl (lv_at hl 1 rfl) ?_
  obtain ⟨r1, hc2, h⟩ := bd1_s h
  refine g_callRi (As := [.int p1]) (rest := []) (r := r1) ⟨hx, hb, hml, hown, hts⟩ (kX2_has E l a11 a12 a13 a14 a15 a16 a17 zs zd zn zt zl zc nm p1 r1 hc2) (cwV 1 hts gX1_callOff_X2_has rfl rfl rfl (by decide +kernel) ⟨Nat.le_of_ble_eq_true rfl, Nat.le_of_ble_eq_true rfl⟩) hK hP hD hS hA hG hl [11, 12, 13, 14, 15, 16, 17] 11 (by decide) rfl (ci := 2) rfl rfl rfl rfl rfl rfl rfl (Nat.le_of_ble_eq_true rfl) dX1_callOff_5 (Nat.zero_le _) (Nat.zero_le _) (fun H locs hP hD hS => ?_)
  refine lv_if_ne (tgt := 13) hx hb dX1_callOff_8 (by decide) (fun hc3 => ?_) (fun hc3 => ?_)
  · replace h := g_if hc3 h
    refine lv_aload_n hx hb dX1_callOff_13 rfl (lv_at hl 0 rfl) ?_
    refine va_get (D := E.1) (cl := vwCl) (ci := 1) (v := .ref a11) (C := RX1) (T := TX1) (N := 10) hx hb hts hiX1 hown hK hP 0 rfl rfl 1 (by decide) hw0 (fun _ h9 => h9) rfl dX1_callOff_14 ?_
    refine va_get (D := E.1) (cl := vwCl) (ci := 2) (v := .ref a15) (C := RX2) (T := TX2) (N := 7) hx hb hts hiX2 hown hK hP 11 rfl rfl 3 (by decide) hw1 (fun _ h9 => h9) rfl dX1_callOff_17 ?_
    refine lv_iload_n hx hb dX1_callOff_20 rfl (lv_at hl 1 rfl) ?_
    obtain ⟨hg4, h⟩ := gd_s h
    refine va_iald (D := E.1) (cl := vwCl) (tys := gT E) hx hb hK hP 15 0 rfl rfl (inB_in hg4) dX1_callOff_21 ?_
    refine lv_if_eq (tgt := 28) hx hb dX1_callOff_22 (by decide) (fun hc5 => ?_) (fun hc5 => ?_)
    · replace h := g_it hc5 h
      refine lv_aload_n hx hb dX1_callOff_28 rfl (lv_at hl 0 rfl) ?_
      refine va_get (D := E.1) (cl := vwCl) (ci := 1) (v := .ref a11) (C := RX1) (T := TX1) (N := 10) hx hb hts hiX1 hown hK hP 0 rfl rfl 1 (by decide) hw0 (fun _ h9 => h9) rfl dX1_callOff_29 ?_
      refine va_get (D := E.1) (cl := vwCl) (ci := 2) (v := .ref a15) (C := RX2) (T := TX2) (N := 7) hx hb hts hiX2 hown hK hP 11 rfl rfl 3 (by decide) hw1 (fun _ h9 => h9) rfl dX1_callOff_32 ?_
      refine lv_iload_n hx hb dX1_callOff_35 rfl (lv_at hl 1 rfl) ?_
      refine lv_iconst (v := (3 : Int32)) hx hb dX1_callOff_36 (by decide) ?_
      refine va_iast (D := E.1) (cl := vwCl) (tys := gT E) hx hb hK hP hD hS 15 0 rfl rfl (inB_in hg4) dX1_callOff_37 (fun H locs hP hD hS => ?_)
      obtain ⟨zt6, e_zt6⟩ : ∃ y : Nat → Int32, y = (upd zt (p1).toNatClampNeg (3 : Int32)) := ⟨_, rfl⟩
      replace h := jl_s e_zt6 h
      replace hP : va_P E.1 vwCl (List.flatten [wHo E a0 a1 a11 a18 a19 dy fl hu cn gn cs, wSt E a1 a2 a3 a4 a5 a6 a7 a8 a9 a10 lk la ll lots pk pa pd onp br us sp, wPa E a11 a12 a13 a14 a15 a16 a17 zs zd zn zt6 zl zc nm, wH8 E a18 sto, wH9 E a19 sg]) H := (by rw [e_zt6]; exact hP)
      replace hD : va_D A (List.flatten [wHo E a0 a1 a11 a18 a19 dy fl hu cn gn cs, wSt E a1 a2 a3 a4 a5 a6 a7 a8 a9 a10 lk la ll lots pk pa pd onp br us sp, wPa E a11 a12 a13 a14 a15 a16 a17 zs zd zn zt6 zl zc nm, wH8 E a18 sto, wH9 E a19 sg]) := gD_same hD rfl
      refine lv_aload_n hx hb dX1_callOff_38 rfl (lv_at hl 0 rfl) ?_
      refine va_get (D := E.1) (cl := vwCl) (ci := 1) (v := .ref a11) (C := RX1) (T := TX1) (N := 10) hx hb hts hiX1 hown hK hP 0 rfl rfl 1 (by decide) hw0 (fun _ h9 => h9) rfl dX1_callOff_39 ?_
      refine lv_iconst (v := (0 : Int32)) hx hb dX1_callOff_42 (by decide) ?_
      obtain ⟨r7, hc8, h⟩ := bd1_s h
      refine g_callRi (As := [.int (0 : Int32)]) (rest := []) (r := r7) ⟨hx, hb, hml, hown, hts⟩ (kX2_withStatus E l a11 a12 a13 a14 a15 a16 a17 zs zd zn zt6 zl zc nm (0 : Int32) r7 hc8) (cwV 1 hts gX1_callOff_X2_withStatus rfl rfl rfl (by decide +kernel) ⟨Nat.le_of_ble_eq_true rfl, Nat.le_of_ble_eq_true rfl⟩) hK hP hD hS hA hG hl [11, 12, 13, 14, 15, 16, 17] 11 (by decide) rfl (ci := 2) rfl rfl rfl rfl rfl rfl rfl (Nat.le_of_ble_eq_true rfl) dX1_callOff_43 (Nat.zero_le _) (Nat.zero_le _) (fun H locs hP hD hS => ?_)
      exact hret (r7, zt6) _ _ _ _ _ (Option.some.inj h) hP hS rfl dX1_callOff_46
    · replace h := g_if hc5 h
      refine lv_bipush (v := (-2 : Int32)) hx hb dX1_callOff_25 (by decide) ?_
      exact hret ((-2 : Int32), zt) _ _ _ _ _ (Option.some.inj h) hP hS rfl dX1_callOff_27
  · replace h := g_it hc3 h
    refine lv_iconst (v := (-1 : Int32)) hx hb dX1_callOff_11 (by decide) ?_
    exact hret ((-1 : Int32), zt) _ _ _ _ _ (Option.some.inj h) hP hS rfl dX1_callOff_12
set_option maxHeartbeats 4000000 in
set_option maxRecDepth 100000 in
theorem kX1_changeSetting (E : gE) (l : Launch) (a0 a1 a2 a3 a4 a5 a6 a7 a8 a9 a10 a11 a12 a13 a14 a15 a16 a17 a18 a19 : Nat) (lk : Nat → Int32) (la : Nat → Int32) (ll : Nat → Int32) (lots : Int32) (pk : Nat → Int32) (pa : Nat → Int32) (pd : Nat → Int32) (onp : Int32) (br : Nat → Int32) (us : Nat → Int32) (sp : Nat → Int32) (zs : Nat → Int32) (zd : Nat → Int32) (zn : Nat → Int32) (zt : Nat → Int32) (zl : Nat → Int32) (zc : Nat → Int32) (nm : Int32) (sto : Nat → Int32) (sg : Nat → Int32) (dy : Int32) (fl : Int32) (hu : Int32) (cn : Int32) (gn : Int32) (cs : Int32) (p1 : Int32) (p2 : Int32) (res : Int32 × (Nat → Int32)) (h : fX1_changeSetting sg p1 p2 = some res) : gMI E l yX1_changeSetting wsX1_changeSetting ({ frames := 0, cells := 0, slots := 0, locals := 0 } : Room) [.ref a0, .int p1, .int p2] (List.flatten [wHo E a0 a1 a11 a18 a19 dy fl hu cn gn cs, wSt E a1 a2 a3 a4 a5 a6 a7 a8 a9 a10 lk la ll lots pk pa pd onp br us sp, wPa E a11 a12 a13 a14 a15 a16 a17 zs zd zn zt zl zc nm, wH8 E a18 sto, wH9 E a19 sg]) (fun res : Int32 × (Nat → Int32) => (List.flatten [wHo E a0 a1 a11 a18 a19 dy fl hu cn gn cs, wSt E a1 a2 a3 a4 a5 a6 a7 a8 a9 a10 lk la ll lots pk pa pd onp br us sp, wPa E a11 a12 a13 a14 a15 a16 a17 zs zd zn zt zl zc nm, wH8 E a18 sto, wH9 E a19 res.2])) (fun res => res.1) res := by
  refine g_entI (cc := cX1_changeSetting) (maxL := 4) (by decide) rfl (Nat.le_of_ble_eq_true rfl) ?_
  intro p e s m args below meth c A Q ls hx hb hml hown hts hK hP hD hS hA hG hret hl
  unfold fX1_changeSetting at h
  replace hl : lv_has ls 4 [(0, .ref a0), (1, .int p1), (2, .int p2)] := hl
  have hiX1 : ∀ w ∈ wsX10, w ∈ wsX1_changeSetting := by decide +kernel
  have hw0 := hts (.fieldLink RX1 161 "GlacierHut$Hut" "LOWEST" "[I") (by decide +kernel)
  have hw1 := hts (.fieldLink RX1 164 "GlacierHut$Hut" "HIGHEST" "[I") (by decide +kernel)
  have hw2 := hts (.fieldLink RX1 29 "GlacierHut$Hut" "settings" "[I") (by decide +kernel)
  refine lv_iload_n hx hb dX1_changeSetting_0 rfl (lv_at hl 1 rfl) ?_
  refine lv_if_lt (tgt := 27) hx hb dX1_changeSetting_1 (by decide) (fun hc1 => ?_) (fun hc1 => ?_)
  · replace h := g_it hc1 h
    refine lv_iconst (v := (-1 : Int32)) hx hb dX1_changeSetting_27 (by decide) ?_
    exact hret ((-1 : Int32), sg) _ _ _ _ _ (Option.some.inj h) hP hS rfl dX1_changeSetting_28
  · replace h := g_if hc1 h
    refine lv_iload_n hx hb dX1_changeSetting_4 rfl (lv_at hl 1 rfl) ?_
    refine lv_iconst (v := (4 : Int32)) hx hb dX1_changeSetting_5 (by decide) ?_
    refine lv_icmp_ge (tgt := 27) hx hb dX1_changeSetting_6 (by decide) (fun hc2 => ?_) (fun hc2 => ?_)
    · replace h := g_it hc2 h
      refine lv_iconst (v := (-1 : Int32)) hx hb dX1_changeSetting_27 (by decide) ?_
      exact hret ((-1 : Int32), sg) _ _ _ _ _ (Option.some.inj h) hP hS rfl dX1_changeSetting_28
    · replace h := g_if hc2 h
      refine lv_iload_n hx hb dX1_changeSetting_9 rfl (lv_at hl 2 rfl) ?_
      refine va_gets hx hb hG.1.1 hS hown hw0 (fun _ h9 => h9) dX1_changeSetting_10 ?_
      refine lv_iload_n hx hb dX1_changeSetting_13 rfl (lv_at hl 1 rfl) ?_
      obtain ⟨hg3, h⟩ := gd_s h
      refine va_ti hx hb hG.1.2 hS (inB_in hg3) (v := .int (gLowN (p1).toNatClampNeg)) rfl dX1_changeSetting_14 ?_
      refine lv_icmp_lt (tgt := 27) hx hb dX1_changeSetting_15 (by decide) (fun hc4 => ?_) (fun hc4 => ?_)
      · replace h := g_it hc4 h
        refine lv_iconst (v := (-1 : Int32)) hx hb dX1_changeSetting_27 (by decide) ?_
        exact hret ((-1 : Int32), sg) _ _ _ _ _ (Option.some.inj h) hP hS rfl dX1_changeSetting_28
      · replace h := g_if hc4 h
        refine lv_iload_n hx hb dX1_changeSetting_18 rfl (lv_at hl 2 rfl) ?_
        refine va_gets hx hb hG.2.1.1 hS hown hw1 (fun _ h9 => h9) dX1_changeSetting_19 ?_
        refine lv_iload_n hx hb dX1_changeSetting_22 rfl (lv_at hl 1 rfl) ?_
        refine va_ti hx hb hG.2.1.2 hS (inB_in hg3) (v := .int (gHighN (p1).toNatClampNeg)) rfl dX1_changeSetting_23 ?_
        refine lv_icmp_le (tgt := 29) hx hb dX1_changeSetting_24 (by decide) (fun hc5 => ?_) (fun hc5 => ?_)
        · replace h := g_it hc5 h
          refine lv_aload_n hx hb dX1_changeSetting_29 rfl (lv_at hl 0 rfl) ?_
          refine va_get (D := E.1) (cl := vwCl) (ci := 1) (v := .ref a19) (C := RX1) (T := TX1) (N := 10) hx hb hts hiX1 hown hK hP 0 rfl rfl 3 (by decide) hw2 (fun _ h9 => h9) rfl dX1_changeSetting_30 ?_
          refine lv_iload_n hx hb dX1_changeSetting_33 rfl (lv_at hl 1 rfl) ?_
          refine va_iald (D := E.1) (cl := vwCl) (tys := gT E) hx hb hK hP 19 0 rfl rfl (inB_in hg3) dX1_changeSetting_34 ?_
          refine lv_topi (fun v6 e_v6 => ?_)
          replace h := jl_s e_v6 h
          refine lv_istore_n (lv' := [(3, .int v6), (0, .ref a0), (1, .int p1), (2, .int p2)]) hx hb dX1_changeSetting_35 rfl hl (by decide) rfl (fun ls hl => ?_)
          refine lv_aload_n hx hb dX1_changeSetting_36 rfl (lv_at hl 1 rfl) ?_
          refine va_get (D := E.1) (cl := vwCl) (ci := 1) (v := .ref a19) (C := RX1) (T := TX1) (N := 10) hx hb hts hiX1 hown hK hP 0 rfl rfl 3 (by decide) hw2 (fun _ h9 => h9) rfl dX1_changeSetting_37 ?_
          refine lv_iload_n hx hb dX1_changeSetting_40 rfl (lv_at hl 2 rfl) ?_
          refine lv_iload_n hx hb dX1_changeSetting_41 rfl (lv_at hl 3 rfl) ?_
          refine va_iast (D := E.1) (cl := vwCl) (tys := gT E) hx hb hK hP hD hS 19 0 rfl rfl (inB_in hg3) dX1_changeSetting_42 (fun H locs hP hD hS => ?_)
          obtain ⟨sg7, e_sg7⟩ : ∃ y : Nat → Int32, y = (upd sg (p1).toNatClampNeg p2) := ⟨_, rfl⟩
          replace h := jl_s e_sg7 h
          replace hP : va_P E.1 vwCl (List.flatten [wHo E a0 a1 a11 a18 a19 dy fl hu cn gn cs, wSt E a1 a2 a3 a4 a5 a6 a7 a8 a9 a10 lk la ll lots pk pa pd onp br us sp, wPa E a11 a12 a13 a14 a15 a16 a17 zs zd zn zt zl zc nm, wH8 E a18 sto, wH9 E a19 sg7]) H := (by rw [e_sg7]; exact hP)
          replace hD : va_D A (List.flatten [wHo E a0 a1 a11 a18 a19 dy fl hu cn gn cs, wSt E a1 a2 a3 a4 a5 a6 a7 a8 a9 a10 lk la ll lots pk pa pd onp br us sp, wPa E a11 a12 a13 a14 a15 a16 a17 zs zd zn zt zl zc nm, wH8 E a18 sto, wH9 E a19 sg7]) := gD_same hD rfl
          refine lv_iload_n hx hb dX1_changeSetting_43 rfl (lv_at hl 0 rfl) ?_
          exact hret (v6, sg7) _ _ _ _ _ (Option.some.inj h) hP hS rfl dX1_changeSetting_44
        · replace h := g_if hc5 h
          refine lv_iconst (v := (-1 : Int32)) hx hb dX1_changeSetting_27 (by decide) ?_
          exact hret ((-1 : Int32), sg) _ _ _ _ _ (Option.some.inj h) hP hS rfl dX1_changeSetting_28
set_option maxHeartbeats 4000000 in
set_option maxRecDepth 100000 in
theorem kX1_copyFrom (E : gE) (l : Launch) (a0 a1 a2 a3 a4 a5 a6 a7 a8 a9 a10 a11 a12 a13 a14 a15 a16 a17 a18 a19 b0 b1 b2 b3 b4 b5 b6 b7 b8 b9 b10 b11 b12 b13 b14 b15 b16 b17 b18 b19 : Nat) (lk : Nat → Int32) (la : Nat → Int32) (ll : Nat → Int32) (lots : Int32) (pk : Nat → Int32) (pa : Nat → Int32) (pd : Nat → Int32) (onp : Int32) (br : Nat → Int32) (us : Nat → Int32) (sp : Nat → Int32) (zs : Nat → Int32) (zd : Nat → Int32) (zn : Nat → Int32) (zt : Nat → Int32) (zl : Nat → Int32) (zc : Nat → Int32) (nm : Int32) (sto : Nat → Int32) (sg : Nat → Int32) (dy : Int32) (fl : Int32) (hu : Int32) (cn : Int32) (gn : Int32) (cs : Int32) (o0_lk : Nat → Int32) (o0_la : Nat → Int32) (o0_ll : Nat → Int32) (o0_lots : Int32) (o0_pk : Nat → Int32) (o0_pa : Nat → Int32) (o0_pd : Nat → Int32) (o0_onp : Int32) (o0_br : Nat → Int32) (o0_us : Nat → Int32) (o0_sp : Nat → Int32) (o0_zs : Nat → Int32) (o0_zd : Nat → Int32) (o0_zn : Nat → Int32) (o0_zt : Nat → Int32) (o0_zl : Nat → Int32) (o0_zc : Nat → Int32) (o0_nm : Int32) (o0_sto : Nat → Int32) (o0_sg : Nat → Int32) (o0_dy : Int32) (o0_fl : Int32) (o0_hu : Int32) (o0_cn : Int32) (o0_gn : Int32) (o0_cs : Int32)  (res : (Nat → Int32) × (Nat → Int32) × (Nat → Int32) × Int32 × (Nat → Int32) × (Nat → Int32) × (Nat → Int32) × Int32 × (Nat → Int32) × (Nat → Int32) × (Nat → Int32) × (Nat → Int32) × (Nat → Int32) × (Nat → Int32) × (Nat → Int32) × (Nat → Int32) × (Nat → Int32) × Int32 × (Nat → Int32) × (Nat → Int32) × Int32 × Int32 × Int32 × Int32 × Int32 × Int32) (h : fX1_copyFrom o0_lk o0_la o0_ll o0_lots o0_pk o0_pa o0_pd o0_onp o0_br o0_us o0_sp o0_zs o0_zd o0_zn o0_zt o0_zl o0_zc o0_nm o0_sto o0_sg o0_dy o0_fl o0_hu o0_cn o0_gn o0_cs  = some res) : gMV E l yX1_copyFrom wsX1_copyFrom ({ frames := 2, cells := 0, slots := 0, locals := 39 } : Room) [.ref a0, .ref b0] (List.flatten [wHo E a0 a1 a11 a18 a19 dy fl hu cn gn cs, wSt E a1 a2 a3 a4 a5 a6 a7 a8 a9 a10 lk la ll lots pk pa pd onp br us sp, wPa E a11 a12 a13 a14 a15 a16 a17 zs zd zn zt zl zc nm, wH8 E a18 sto, wH9 E a19 sg, wHo E b0 b1 b11 b18 b19 o0_dy o0_fl o0_hu o0_cn o0_gn o0_cs, wSt E b1 b2 b3 b4 b5 b6 b7 b8 b9 b10 o0_lk o0_la o0_ll o0_lots o0_pk o0_pa o0_pd o0_onp o0_br o0_us o0_sp, wPa E b11 b12 b13 b14 b15 b16 b17 o0_zs o0_zd o0_zn o0_zt o0_zl o0_zc o0_nm, wH8 E b18 o0_sto, wH9 E b19 o0_sg]) (fun res : (Nat → Int32) × (Nat → Int32) × (Nat → Int32) × Int32 × (Nat → Int32) × (Nat → Int32) × (Nat → Int32) × Int32 × (Nat → Int32) × (Nat → Int32) × (Nat → Int32) × (Nat → Int32) × (Nat → Int32) × (Nat → Int32) × (Nat → Int32) × (Nat → Int32) × (Nat → Int32) × Int32 × (Nat → Int32) × (Nat → Int32) × Int32 × Int32 × Int32 × Int32 × Int32 × Int32 => (List.flatten [wHo E a0 a1 a11 a18 a19 res.2.2.2.2.2.2.2.2.2.2.2.2.2.2.2.2.2.2.2.2.1 res.2.2.2.2.2.2.2.2.2.2.2.2.2.2.2.2.2.2.2.2.2.1 res.2.2.2.2.2.2.2.2.2.2.2.2.2.2.2.2.2.2.2.2.2.2.1 res.2.2.2.2.2.2.2.2.2.2.2.2.2.2.2.2.2.2.2.2.2.2.2.1 res.2.2.2.2.2.2.2.2.2.2.2.2.2.2.2.2.2.2.2.2.2.2.2.2.1 res.2.2.2.2.2.2.2.2.2.2.2.2.2.2.2.2.2.2.2.2.2.2.2.2.2, wSt E a1 a2 a3 a4 a5 a6 a7 a8 a9 a10 res.1 res.2.1 res.2.2.1 res.2.2.2.1 res.2.2.2.2.1 res.2.2.2.2.2.1 res.2.2.2.2.2.2.1 res.2.2.2.2.2.2.2.1 res.2.2.2.2.2.2.2.2.1 res.2.2.2.2.2.2.2.2.2.1 res.2.2.2.2.2.2.2.2.2.2.1, wPa E a11 a12 a13 a14 a15 a16 a17 res.2.2.2.2.2.2.2.2.2.2.2.1 res.2.2.2.2.2.2.2.2.2.2.2.2.1 res.2.2.2.2.2.2.2.2.2.2.2.2.2.1 res.2.2.2.2.2.2.2.2.2.2.2.2.2.2.1 res.2.2.2.2.2.2.2.2.2.2.2.2.2.2.2.1 res.2.2.2.2.2.2.2.2.2.2.2.2.2.2.2.2.1 res.2.2.2.2.2.2.2.2.2.2.2.2.2.2.2.2.2.1, wH8 E a18 res.2.2.2.2.2.2.2.2.2.2.2.2.2.2.2.2.2.2.1, wH9 E a19 res.2.2.2.2.2.2.2.2.2.2.2.2.2.2.2.2.2.2.2.1, wHo E b0 b1 b11 b18 b19 o0_dy o0_fl o0_hu o0_cn o0_gn o0_cs, wSt E b1 b2 b3 b4 b5 b6 b7 b8 b9 b10 o0_lk o0_la o0_ll o0_lots o0_pk o0_pa o0_pd o0_onp o0_br o0_us o0_sp, wPa E b11 b12 b13 b14 b15 b16 b17 o0_zs o0_zd o0_zn o0_zt o0_zl o0_zc o0_nm, wH8 E b18 o0_sto, wH9 E b19 o0_sg])) res := by
  refine g_entV (cc := cX1_copyFrom) (maxL := 2) (by decide) rfl (Nat.le_of_ble_eq_true rfl) ?_
  intro p e s m args below meth c A Q ls hx hb hml hown hts hK hP hD hS hA hG hret hl
  unfold fX1_copyFrom at h
  replace hl : lv_has ls 2 [(0, .ref a0), (1, .ref b0)] := hl
  have hiX1 : ∀ w ∈ wsX10, w ∈ wsX1_copyFrom := by decide +kernel
  have hw0 := hts (.fieldLink RX1 12 "GlacierHut$Hut" "stores" "LGlacierHut$Stores;") (by decide +kernel)
  have hw1 := hts (.fieldLink RX1 21 "GlacierHut$Hut" "parties" "LGlacierHut$Parties;") (by decide +kernel)
  have hw2 := hts (.fieldLink RX1 25 "GlacierHut$Hut" "storms" "[Z") (by decide +kernel)
  have hw3 := hts (.methodLink RX1 43 arraycopyName) (by decide +kernel)
  have hw4 := hts (.native arraycopyName) (by decide +kernel)
  have hw5 := hts (.static arraycopyName) (by decide +kernel)
  have hw6 := hts (.initialized "java/lang/System") (by decide +kernel)
  have hw7 := hts (.fieldLink RX1 29 "GlacierHut$Hut" "settings" "[I") (by decide +kernel)
  have hw8 := hts (.fieldLink RX1 49 "GlacierHut$Hut" "day" "I") (by decide +kernel)
  have hw9 := hts (.fieldLink RX1 53 "GlacierHut$Hut" "flights" "I") (by decide +kernel)
  have hw10 := hts (.fieldLink RX1 56 "GlacierHut$Hut" "hungry" "I") (by decide +kernel)
  have hw11 := hts (.fieldLink RX1 59 "GlacierHut$Hut" "coldNights" "I") (by decide +kernel)
  have hw12 := hts (.fieldLink RX1 62 "GlacierHut$Hut" "guestNights" "I") (by decide +kernel)
  have hw13 := hts (.fieldLink RX1 65 "GlacierHut$Hut" "cutSuppers" "I") (by decide +kernel)
  refine lv_aload_n hx hb dX1_copyFrom_0 rfl (lv_at hl 0 rfl) ?_
  refine va_get (D := E.1) (cl := vwCl) (ci := 1) (v := .ref a1) (C := RX1) (T := TX1) (N := 10) hx hb hts hiX1 hown hK hP 0 rfl rfl 0 (by decide) hw0 (fun _ h9 => h9) rfl dX1_copyFrom_1 ?_
  refine lv_aload_n hx hb dX1_copyFrom_4 rfl (lv_at hl 1 rfl) ?_
  refine va_get (D := E.1) (cl := vwCl) (ci := 1) (v := .ref b1) (C := RX1) (T := TX1) (N := 10) hx hb hts hiX1 hown hK hP 20 rfl rfl 0 (by decide) hw0 (fun _ h9 => h9) rfl dX1_copyFrom_5 ?_
  obtain ⟨lk1, la2, ll3, lots4, pk5, pa6, pd7, onp8, br9, us10, sp11, hc12, h⟩ := bd11_s h
  refine g_callBv (As := [.ref b1]) (rest := []) (bs1 := [wHo E a0 a1 a11 a18 a19 dy fl hu cn gn cs, wSt E a1 a2 a3 a4 a5 a6 a7 a8 a9 a10 lk1 la2 ll3 lots4 pk5 pa6 pd7 onp8 br9 us10 sp11, wPa E a11 a12 a13 a14 a15 a16 a17 zs zd zn zt zl zc nm, wH8 E a18 sto, wH9 E a19 sg, wHo E b0 b1 b11 b18 b19 o0_dy o0_fl o0_hu o0_cn o0_gn o0_cs, wSt E b1 b2 b3 b4 b5 b6 b7 b8 b9 b10 o0_lk o0_la o0_ll o0_lots o0_pk o0_pa o0_pd o0_onp o0_br o0_us o0_sp, wPa E b11 b12 b13 b14 b15 b16 b17 o0_zs o0_zd o0_zn o0_zt o0_zl o0_zc o0_nm, wH8 E b18 o0_sto, wH9 E b19 o0_sg]) ⟨hx, hb, hml, hown, hts⟩ (kX4_copyFrom E l a1 a2 a3 a4 a5 a6 a7 a8 a9 a10 b1 b2 b3 b4 b5 b6 b7 b8 b9 b10 lk la ll lots pk pa pd onp br us sp o0_lk o0_la o0_ll o0_lots o0_pk o0_pa o0_pd o0_onp o0_br o0_us o0_sp (lk1, la2, ll3, lots4, pk5, pa6, pd7, onp8, br9, us10, sp11) hc12) (cwV 1 hts gX1_copyFrom_X4_copyFrom rfl rfl rfl (by decide +kernel) ⟨Nat.le_of_ble_eq_true rfl, Nat.le_of_ble_eq_true rfl⟩) hK hP hD hS hA hG hl [1, 6] 1 0 (by decide) rfl (ci := 4) rfl rfl rfl rfl rfl rfl rfl rfl rfl (Nat.le_of_ble_eq_true rfl) dX1_copyFrom_8 (Nat.zero_le _) (Nat.zero_le _) (fun H locs hP hD hS => ?_)
  refine lv_aload_n hx hb dX1_copyFrom_11 rfl (lv_at hl 0 rfl) ?_
  refine va_get (D := E.1) (cl := vwCl) (ci := 1) (v := .ref a11) (C := RX1) (T := TX1) (N := 10) hx hb hts hiX1 hown hK hP 0 rfl rfl 1 (by decide) hw1 (fun _ h9 => h9) rfl dX1_copyFrom_12 ?_
  refine lv_aload_n hx hb dX1_copyFrom_15 rfl (lv_at hl 1 rfl) ?_
  refine va_get (D := E.1) (cl := vwCl) (ci := 1) (v := .ref b11) (C := RX1) (T := TX1) (N := 10) hx hb hts hiX1 hown hK hP 20 rfl rfl 1 (by decide) hw1 (fun _ h9 => h9) rfl dX1_copyFrom_16 ?_
  obtain ⟨zs13, zd14, zn15, zt16, zl17, zc18, nm19, hc20, h⟩ := bd7_s h
  refine g_callBv (As := [.ref b11]) (rest := []) (bs1 := [wHo E a0 a1 a11 a18 a19 dy fl hu cn gn cs, wSt E a1 a2 a3 a4 a5 a6 a7 a8 a9 a10 lk1 la2 ll3 lots4 pk5 pa6 pd7 onp8 br9 us10 sp11, wPa E a11 a12 a13 a14 a15 a16 a17 zs13 zd14 zn15 zt16 zl17 zc18 nm19, wH8 E a18 sto, wH9 E a19 sg, wHo E b0 b1 b11 b18 b19 o0_dy o0_fl o0_hu o0_cn o0_gn o0_cs, wSt E b1 b2 b3 b4 b5 b6 b7 b8 b9 b10 o0_lk o0_la o0_ll o0_lots o0_pk o0_pa o0_pd o0_onp o0_br o0_us o0_sp, wPa E b11 b12 b13 b14 b15 b16 b17 o0_zs o0_zd o0_zn o0_zt o0_zl o0_zc o0_nm, wH8 E b18 o0_sto, wH9 E b19 o0_sg]) ⟨hx, hb, hml, hown, hts⟩ (kX2_copyFrom E l a11 a12 a13 a14 a15 a16 a17 b11 b12 b13 b14 b15 b16 b17 zs zd zn zt zl zc nm o0_zs o0_zd o0_zn o0_zt o0_zl o0_zc o0_nm (zs13, zd14, zn15, zt16, zl17, zc18, nm19) hc20) (cwV 1 hts gX1_copyFrom_X2_copyFrom rfl rfl rfl (by decide +kernel) ⟨Nat.le_of_ble_eq_true rfl, Nat.le_of_ble_eq_true rfl⟩) hK hP hD hS hA hG hl [2, 7] 2 0 (by decide) rfl (ci := 2) rfl rfl rfl rfl rfl rfl rfl rfl rfl (Nat.le_of_ble_eq_true rfl) dX1_copyFrom_19 (Nat.zero_le _) (Nat.zero_le _) (fun H locs hP hD hS => ?_)
  refine lv_aload_n hx hb dX1_copyFrom_22 rfl (lv_at hl 1 rfl) ?_
  refine va_get (D := E.1) (cl := vwCl) (ci := 1) (v := .ref b18) (C := RX1) (T := TX1) (N := 10) hx hb hts hiX1 hown hK hP 20 rfl rfl 2 (by decide) hw2 (fun _ h9 => h9) rfl dX1_copyFrom_23 ?_
  refine lv_iconst (v := (0 : Int32)) hx hb dX1_copyFrom_26 (by decide) ?_
  refine lv_aload_n hx hb dX1_copyFrom_27 rfl (lv_at hl 0 rfl) ?_
  refine va_get (D := E.1) (cl := vwCl) (ci := 1) (v := .ref a18) (C := RX1) (T := TX1) (N := 10) hx hb hts hiX1 hown hK hP 0 rfl rfl 2 (by decide) hw2 (fun _ h9 => h9) rfl dX1_copyFrom_28 ?_
  refine lv_iconst (v := (0 : Int32)) hx hb dX1_copyFrom_31 (by decide) ?_
  refine lv_sipush (v := (396 : Int32)) hx hb dX1_copyFrom_32 (by decide) ?_
  obtain ⟨hg21, h⟩ := gd_s h
  refine g_copyi (ty := .boolean) (N := 396) hx hb (hml.trans hl.1.symm) hown hw3 hw4 hw5 hw6 hK hP hD hS 38 18 1 rfl rfl rfl rfl (by decide) (by decide) (fzB_fit hg21) (Nat.le_of_ble_eq_true rfl) (Nat.le_of_ble_eq_true rfl) dX1_copyFrom_35 (fun H locs hP hD hS => ?_)
  replace hP : va_P E.1 vwCl (List.flatten [wHo E a0 a1 a11 a18 a19 dy fl hu cn gn cs, wSt E a1 a2 a3 a4 a5 a6 a7 a8 a9 a10 lk1 la2 ll3 lots4 pk5 pa6 pd7 onp8 br9 us10 sp11, wPa E a11 a12 a13 a14 a15 a16 a17 zs13 zd14 zn15 zt16 zl17 zc18 nm19, wH8 E a18 o0_sto, wH9 E a19 sg, wHo E b0 b1 b11 b18 b19 o0_dy o0_fl o0_hu o0_cn o0_gn o0_cs, wSt E b1 b2 b3 b4 b5 b6 b7 b8 b9 b10 o0_lk o0_la o0_ll o0_lots o0_pk o0_pa o0_pd o0_onp o0_br o0_us o0_sp, wPa E b11 b12 b13 b14 b15 b16 b17 o0_zs o0_zd o0_zn o0_zt o0_zl o0_zc o0_nm, wH8 E b18 o0_sto, wH9 E b19 o0_sg]) H := hP
  replace hD : va_D A (List.flatten [wHo E a0 a1 a11 a18 a19 dy fl hu cn gn cs, wSt E a1 a2 a3 a4 a5 a6 a7 a8 a9 a10 lk1 la2 ll3 lots4 pk5 pa6 pd7 onp8 br9 us10 sp11, wPa E a11 a12 a13 a14 a15 a16 a17 zs13 zd14 zn15 zt16 zl17 zc18 nm19, wH8 E a18 o0_sto, wH9 E a19 sg, wHo E b0 b1 b11 b18 b19 o0_dy o0_fl o0_hu o0_cn o0_gn o0_cs, wSt E b1 b2 b3 b4 b5 b6 b7 b8 b9 b10 o0_lk o0_la o0_ll o0_lots o0_pk o0_pa o0_pd o0_onp o0_br o0_us o0_sp, wPa E b11 b12 b13 b14 b15 b16 b17 o0_zs o0_zd o0_zn o0_zt o0_zl o0_zc o0_nm, wH8 E b18 o0_sto, wH9 E b19 o0_sg]) := hD
  refine lv_aload_n hx hb dX1_copyFrom_38 rfl (lv_at hl 1 rfl) ?_
  refine va_get (D := E.1) (cl := vwCl) (ci := 1) (v := .ref b19) (C := RX1) (T := TX1) (N := 10) hx hb hts hiX1 hown hK hP 20 rfl rfl 3 (by decide) hw7 (fun _ h9 => h9) rfl dX1_copyFrom_39 ?_
  refine lv_iconst (v := (0 : Int32)) hx hb dX1_copyFrom_42 (by decide) ?_
  refine lv_aload_n hx hb dX1_copyFrom_43 rfl (lv_at hl 0 rfl) ?_
  refine va_get (D := E.1) (cl := vwCl) (ci := 1) (v := .ref a19) (C := RX1) (T := TX1) (N := 10) hx hb hts hiX1 hown hK hP 0 rfl rfl 3 (by decide) hw7 (fun _ h9 => h9) rfl dX1_copyFrom_44 ?_
  refine lv_iconst (v := (0 : Int32)) hx hb dX1_copyFrom_47 (by decide) ?_
  refine lv_iconst (v := (4 : Int32)) hx hb dX1_copyFrom_48 (by decide) ?_
  refine g_copyi (ty := .int) (N := 4) hx hb (hml.trans hl.1.symm) hown hw3 hw4 hw5 hw6 hK hP hD hS 39 19 0 rfl rfl rfl rfl (by decide) (by decide) (fun _ _ => rfl) (Nat.le_of_ble_eq_true rfl) (Nat.le_of_ble_eq_true rfl) dX1_copyFrom_49 (fun H locs hP hD hS => ?_)
  replace hP : va_P E.1 vwCl (List.flatten [wHo E a0 a1 a11 a18 a19 dy fl hu cn gn cs, wSt E a1 a2 a3 a4 a5 a6 a7 a8 a9 a10 lk1 la2 ll3 lots4 pk5 pa6 pd7 onp8 br9 us10 sp11, wPa E a11 a12 a13 a14 a15 a16 a17 zs13 zd14 zn15 zt16 zl17 zc18 nm19, wH8 E a18 o0_sto, wH9 E a19 o0_sg, wHo E b0 b1 b11 b18 b19 o0_dy o0_fl o0_hu o0_cn o0_gn o0_cs, wSt E b1 b2 b3 b4 b5 b6 b7 b8 b9 b10 o0_lk o0_la o0_ll o0_lots o0_pk o0_pa o0_pd o0_onp o0_br o0_us o0_sp, wPa E b11 b12 b13 b14 b15 b16 b17 o0_zs o0_zd o0_zn o0_zt o0_zl o0_zc o0_nm, wH8 E b18 o0_sto, wH9 E b19 o0_sg]) H := hP
  replace hD : va_D A (List.flatten [wHo E a0 a1 a11 a18 a19 dy fl hu cn gn cs, wSt E a1 a2 a3 a4 a5 a6 a7 a8 a9 a10 lk1 la2 ll3 lots4 pk5 pa6 pd7 onp8 br9 us10 sp11, wPa E a11 a12 a13 a14 a15 a16 a17 zs13 zd14 zn15 zt16 zl17 zc18 nm19, wH8 E a18 o0_sto, wH9 E a19 o0_sg, wHo E b0 b1 b11 b18 b19 o0_dy o0_fl o0_hu o0_cn o0_gn o0_cs, wSt E b1 b2 b3 b4 b5 b6 b7 b8 b9 b10 o0_lk o0_la o0_ll o0_lots o0_pk o0_pa o0_pd o0_onp o0_br o0_us o0_sp, wPa E b11 b12 b13 b14 b15 b16 b17 o0_zs o0_zd o0_zn o0_zt o0_zl o0_zc o0_nm, wH8 E b18 o0_sto, wH9 E b19 o0_sg]) := hD
  refine lv_aload_n hx hb dX1_copyFrom_52 rfl (lv_at hl 0 rfl) ?_
  refine lv_aload_n hx hb dX1_copyFrom_53 rfl (lv_at hl 1 rfl) ?_
  refine va_get (D := E.1) (cl := vwCl) (ci := 1) (v := .int o0_dy) (C := RX1) (T := TX1) (N := 10) hx hb hts hiX1 hown hK hP 20 rfl rfl 4 (by decide) hw8 (fun _ h9 => h9) rfl dX1_copyFrom_54 ?_
  refine va_put (D := E.1) (cl := vwCl) (ci := 1) (v := .int o0_dy) (ty := .int) (C := RX1) (T := TX1) (N := 10) hx hb hts hiX1 tyX1 tyX1_ok nmX1 hown hK hP hD hS 0 rfl rfl 4 (by decide) hw8 (fun _ h9 => h9) rfl (by decide +kernel) rfl rfl (Nat.le_of_ble_eq_true rfl) dX1_copyFrom_57 (fun H locs hP hD hS => ?_)
  replace hP : va_P E.1 vwCl (List.flatten [wHo E a0 a1 a11 a18 a19 o0_dy fl hu cn gn cs, wSt E a1 a2 a3 a4 a5 a6 a7 a8 a9 a10 lk1 la2 ll3 lots4 pk5 pa6 pd7 onp8 br9 us10 sp11, wPa E a11 a12 a13 a14 a15 a16 a17 zs13 zd14 zn15 zt16 zl17 zc18 nm19, wH8 E a18 o0_sto, wH9 E a19 o0_sg, wHo E b0 b1 b11 b18 b19 o0_dy o0_fl o0_hu o0_cn o0_gn o0_cs, wSt E b1 b2 b3 b4 b5 b6 b7 b8 b9 b10 o0_lk o0_la o0_ll o0_lots o0_pk o0_pa o0_pd o0_onp o0_br o0_us o0_sp, wPa E b11 b12 b13 b14 b15 b16 b17 o0_zs o0_zd o0_zn o0_zt o0_zl o0_zc o0_nm, wH8 E b18 o0_sto, wH9 E b19 o0_sg]) H := hP
  replace hD : va_D A (List.flatten [wHo E a0 a1 a11 a18 a19 o0_dy fl hu cn gn cs, wSt E a1 a2 a3 a4 a5 a6 a7 a8 a9 a10 lk1 la2 ll3 lots4 pk5 pa6 pd7 onp8 br9 us10 sp11, wPa E a11 a12 a13 a14 a15 a16 a17 zs13 zd14 zn15 zt16 zl17 zc18 nm19, wH8 E a18 o0_sto, wH9 E a19 o0_sg, wHo E b0 b1 b11 b18 b19 o0_dy o0_fl o0_hu o0_cn o0_gn o0_cs, wSt E b1 b2 b3 b4 b5 b6 b7 b8 b9 b10 o0_lk o0_la o0_ll o0_lots o0_pk o0_pa o0_pd o0_onp o0_br o0_us o0_sp, wPa E b11 b12 b13 b14 b15 b16 b17 o0_zs o0_zd o0_zn o0_zt o0_zl o0_zc o0_nm, wH8 E b18 o0_sto, wH9 E b19 o0_sg]) := hD
  refine lv_aload_n hx hb dX1_copyFrom_60 rfl (lv_at hl 0 rfl) ?_
  refine lv_aload_n hx hb dX1_copyFrom_61 rfl (lv_at hl 1 rfl) ?_
  refine va_get (D := E.1) (cl := vwCl) (ci := 1) (v := .int o0_fl) (C := RX1) (T := TX1) (N := 10) hx hb hts hiX1 hown hK hP 20 rfl rfl 5 (by decide) hw9 (fun _ h9 => h9) rfl dX1_copyFrom_62 ?_
  refine va_put (D := E.1) (cl := vwCl) (ci := 1) (v := .int o0_fl) (ty := .int) (C := RX1) (T := TX1) (N := 10) hx hb hts hiX1 tyX1 tyX1_ok nmX1 hown hK hP hD hS 0 rfl rfl 5 (by decide) hw9 (fun _ h9 => h9) rfl (by decide +kernel) rfl rfl (Nat.le_of_ble_eq_true rfl) dX1_copyFrom_65 (fun H locs hP hD hS => ?_)
  replace hP : va_P E.1 vwCl (List.flatten [wHo E a0 a1 a11 a18 a19 o0_dy o0_fl hu cn gn cs, wSt E a1 a2 a3 a4 a5 a6 a7 a8 a9 a10 lk1 la2 ll3 lots4 pk5 pa6 pd7 onp8 br9 us10 sp11, wPa E a11 a12 a13 a14 a15 a16 a17 zs13 zd14 zn15 zt16 zl17 zc18 nm19, wH8 E a18 o0_sto, wH9 E a19 o0_sg, wHo E b0 b1 b11 b18 b19 o0_dy o0_fl o0_hu o0_cn o0_gn o0_cs, wSt E b1 b2 b3 b4 b5 b6 b7 b8 b9 b10 o0_lk o0_la o0_ll o0_lots o0_pk o0_pa o0_pd o0_onp o0_br o0_us o0_sp, wPa E b11 b12 b13 b14 b15 b16 b17 o0_zs o0_zd o0_zn o0_zt o0_zl o0_zc o0_nm, wH8 E b18 o0_sto, wH9 E b19 o0_sg]) H := hP
  replace hD : va_D A (List.flatten [wHo E a0 a1 a11 a18 a19 o0_dy o0_fl hu cn gn cs, wSt E a1 a2 a3 a4 a5 a6 a7 a8 a9 a10 lk1 la2 ll3 lots4 pk5 pa6 pd7 onp8 br9 us10 sp11, wPa E a11 a12 a13 a14 a15 a16 a17 zs13 zd14 zn15 zt16 zl17 zc18 nm19, wH8 E a18 o0_sto, wH9 E a19 o0_sg, wHo E b0 b1 b11 b18 b19 o0_dy o0_fl o0_hu o0_cn o0_gn o0_cs, wSt E b1 b2 b3 b4 b5 b6 b7 b8 b9 b10 o0_lk o0_la o0_ll o0_lots o0_pk o0_pa o0_pd o0_onp o0_br o0_us o0_sp, wPa E b11 b12 b13 b14 b15 b16 b17 o0_zs o0_zd o0_zn o0_zt o0_zl o0_zc o0_nm, wH8 E b18 o0_sto, wH9 E b19 o0_sg]) := hD
  refine lv_aload_n hx hb dX1_copyFrom_68 rfl (lv_at hl 0 rfl) ?_
  refine lv_aload_n hx hb dX1_copyFrom_69 rfl (lv_at hl 1 rfl) ?_
  refine va_get (D := E.1) (cl := vwCl) (ci := 1) (v := .int o0_hu) (C := RX1) (T := TX1) (N := 10) hx hb hts hiX1 hown hK hP 20 rfl rfl 6 (by decide) hw10 (fun _ h9 => h9) rfl dX1_copyFrom_70 ?_
  refine va_put (D := E.1) (cl := vwCl) (ci := 1) (v := .int o0_hu) (ty := .int) (C := RX1) (T := TX1) (N := 10) hx hb hts hiX1 tyX1 tyX1_ok nmX1 hown hK hP hD hS 0 rfl rfl 6 (by decide) hw10 (fun _ h9 => h9) rfl (by decide +kernel) rfl rfl (Nat.le_of_ble_eq_true rfl) dX1_copyFrom_73 (fun H locs hP hD hS => ?_)
  replace hP : va_P E.1 vwCl (List.flatten [wHo E a0 a1 a11 a18 a19 o0_dy o0_fl o0_hu cn gn cs, wSt E a1 a2 a3 a4 a5 a6 a7 a8 a9 a10 lk1 la2 ll3 lots4 pk5 pa6 pd7 onp8 br9 us10 sp11, wPa E a11 a12 a13 a14 a15 a16 a17 zs13 zd14 zn15 zt16 zl17 zc18 nm19, wH8 E a18 o0_sto, wH9 E a19 o0_sg, wHo E b0 b1 b11 b18 b19 o0_dy o0_fl o0_hu o0_cn o0_gn o0_cs, wSt E b1 b2 b3 b4 b5 b6 b7 b8 b9 b10 o0_lk o0_la o0_ll o0_lots o0_pk o0_pa o0_pd o0_onp o0_br o0_us o0_sp, wPa E b11 b12 b13 b14 b15 b16 b17 o0_zs o0_zd o0_zn o0_zt o0_zl o0_zc o0_nm, wH8 E b18 o0_sto, wH9 E b19 o0_sg]) H := hP
  replace hD : va_D A (List.flatten [wHo E a0 a1 a11 a18 a19 o0_dy o0_fl o0_hu cn gn cs, wSt E a1 a2 a3 a4 a5 a6 a7 a8 a9 a10 lk1 la2 ll3 lots4 pk5 pa6 pd7 onp8 br9 us10 sp11, wPa E a11 a12 a13 a14 a15 a16 a17 zs13 zd14 zn15 zt16 zl17 zc18 nm19, wH8 E a18 o0_sto, wH9 E a19 o0_sg, wHo E b0 b1 b11 b18 b19 o0_dy o0_fl o0_hu o0_cn o0_gn o0_cs, wSt E b1 b2 b3 b4 b5 b6 b7 b8 b9 b10 o0_lk o0_la o0_ll o0_lots o0_pk o0_pa o0_pd o0_onp o0_br o0_us o0_sp, wPa E b11 b12 b13 b14 b15 b16 b17 o0_zs o0_zd o0_zn o0_zt o0_zl o0_zc o0_nm, wH8 E b18 o0_sto, wH9 E b19 o0_sg]) := hD
  refine lv_aload_n hx hb dX1_copyFrom_76 rfl (lv_at hl 0 rfl) ?_
  refine lv_aload_n hx hb dX1_copyFrom_77 rfl (lv_at hl 1 rfl) ?_
  refine va_get (D := E.1) (cl := vwCl) (ci := 1) (v := .int o0_cn) (C := RX1) (T := TX1) (N := 10) hx hb hts hiX1 hown hK hP 20 rfl rfl 7 (by decide) hw11 (fun _ h9 => h9) rfl dX1_copyFrom_78 ?_
  refine va_put (D := E.1) (cl := vwCl) (ci := 1) (v := .int o0_cn) (ty := .int) (C := RX1) (T := TX1) (N := 10) hx hb hts hiX1 tyX1 tyX1_ok nmX1 hown hK hP hD hS 0 rfl rfl 7 (by decide) hw11 (fun _ h9 => h9) rfl (by decide +kernel) rfl rfl (Nat.le_of_ble_eq_true rfl) dX1_copyFrom_81 (fun H locs hP hD hS => ?_)
  replace hP : va_P E.1 vwCl (List.flatten [wHo E a0 a1 a11 a18 a19 o0_dy o0_fl o0_hu o0_cn gn cs, wSt E a1 a2 a3 a4 a5 a6 a7 a8 a9 a10 lk1 la2 ll3 lots4 pk5 pa6 pd7 onp8 br9 us10 sp11, wPa E a11 a12 a13 a14 a15 a16 a17 zs13 zd14 zn15 zt16 zl17 zc18 nm19, wH8 E a18 o0_sto, wH9 E a19 o0_sg, wHo E b0 b1 b11 b18 b19 o0_dy o0_fl o0_hu o0_cn o0_gn o0_cs, wSt E b1 b2 b3 b4 b5 b6 b7 b8 b9 b10 o0_lk o0_la o0_ll o0_lots o0_pk o0_pa o0_pd o0_onp o0_br o0_us o0_sp, wPa E b11 b12 b13 b14 b15 b16 b17 o0_zs o0_zd o0_zn o0_zt o0_zl o0_zc o0_nm, wH8 E b18 o0_sto, wH9 E b19 o0_sg]) H := hP
  replace hD : va_D A (List.flatten [wHo E a0 a1 a11 a18 a19 o0_dy o0_fl o0_hu o0_cn gn cs, wSt E a1 a2 a3 a4 a5 a6 a7 a8 a9 a10 lk1 la2 ll3 lots4 pk5 pa6 pd7 onp8 br9 us10 sp11, wPa E a11 a12 a13 a14 a15 a16 a17 zs13 zd14 zn15 zt16 zl17 zc18 nm19, wH8 E a18 o0_sto, wH9 E a19 o0_sg, wHo E b0 b1 b11 b18 b19 o0_dy o0_fl o0_hu o0_cn o0_gn o0_cs, wSt E b1 b2 b3 b4 b5 b6 b7 b8 b9 b10 o0_lk o0_la o0_ll o0_lots o0_pk o0_pa o0_pd o0_onp o0_br o0_us o0_sp, wPa E b11 b12 b13 b14 b15 b16 b17 o0_zs o0_zd o0_zn o0_zt o0_zl o0_zc o0_nm, wH8 E b18 o0_sto, wH9 E b19 o0_sg]) := hD
  refine lv_aload_n hx hb dX1_copyFrom_84 rfl (lv_at hl 0 rfl) ?_
  refine lv_aload_n hx hb dX1_copyFrom_85 rfl (lv_at hl 1 rfl) ?_
  refine va_get (D := E.1) (cl := vwCl) (ci := 1) (v := .int o0_gn) (C := RX1) (T := TX1) (N := 10) hx hb hts hiX1 hown hK hP 20 rfl rfl 8 (by decide) hw12 (fun _ h9 => h9) rfl dX1_copyFrom_86 ?_
  refine va_put (D := E.1) (cl := vwCl) (ci := 1) (v := .int o0_gn) (ty := .int) (C := RX1) (T := TX1) (N := 10) hx hb hts hiX1 tyX1 tyX1_ok nmX1 hown hK hP hD hS 0 rfl rfl 8 (by decide) hw12 (fun _ h9 => h9) rfl (by decide +kernel) rfl rfl (Nat.le_of_ble_eq_true rfl) dX1_copyFrom_89 (fun H locs hP hD hS => ?_)
  replace hP : va_P E.1 vwCl (List.flatten [wHo E a0 a1 a11 a18 a19 o0_dy o0_fl o0_hu o0_cn o0_gn cs, wSt E a1 a2 a3 a4 a5 a6 a7 a8 a9 a10 lk1 la2 ll3 lots4 pk5 pa6 pd7 onp8 br9 us10 sp11, wPa E a11 a12 a13 a14 a15 a16 a17 zs13 zd14 zn15 zt16 zl17 zc18 nm19, wH8 E a18 o0_sto, wH9 E a19 o0_sg, wHo E b0 b1 b11 b18 b19 o0_dy o0_fl o0_hu o0_cn o0_gn o0_cs, wSt E b1 b2 b3 b4 b5 b6 b7 b8 b9 b10 o0_lk o0_la o0_ll o0_lots o0_pk o0_pa o0_pd o0_onp o0_br o0_us o0_sp, wPa E b11 b12 b13 b14 b15 b16 b17 o0_zs o0_zd o0_zn o0_zt o0_zl o0_zc o0_nm, wH8 E b18 o0_sto, wH9 E b19 o0_sg]) H := hP
  replace hD : va_D A (List.flatten [wHo E a0 a1 a11 a18 a19 o0_dy o0_fl o0_hu o0_cn o0_gn cs, wSt E a1 a2 a3 a4 a5 a6 a7 a8 a9 a10 lk1 la2 ll3 lots4 pk5 pa6 pd7 onp8 br9 us10 sp11, wPa E a11 a12 a13 a14 a15 a16 a17 zs13 zd14 zn15 zt16 zl17 zc18 nm19, wH8 E a18 o0_sto, wH9 E a19 o0_sg, wHo E b0 b1 b11 b18 b19 o0_dy o0_fl o0_hu o0_cn o0_gn o0_cs, wSt E b1 b2 b3 b4 b5 b6 b7 b8 b9 b10 o0_lk o0_la o0_ll o0_lots o0_pk o0_pa o0_pd o0_onp o0_br o0_us o0_sp, wPa E b11 b12 b13 b14 b15 b16 b17 o0_zs o0_zd o0_zn o0_zt o0_zl o0_zc o0_nm, wH8 E b18 o0_sto, wH9 E b19 o0_sg]) := hD
  refine lv_aload_n hx hb dX1_copyFrom_92 rfl (lv_at hl 0 rfl) ?_
  refine lv_aload_n hx hb dX1_copyFrom_93 rfl (lv_at hl 1 rfl) ?_
  refine va_get (D := E.1) (cl := vwCl) (ci := 1) (v := .int o0_cs) (C := RX1) (T := TX1) (N := 10) hx hb hts hiX1 hown hK hP 20 rfl rfl 9 (by decide) hw13 (fun _ h9 => h9) rfl dX1_copyFrom_94 ?_
  refine va_put (D := E.1) (cl := vwCl) (ci := 1) (v := .int o0_cs) (ty := .int) (C := RX1) (T := TX1) (N := 10) hx hb hts hiX1 tyX1 tyX1_ok nmX1 hown hK hP hD hS 0 rfl rfl 9 (by decide) hw13 (fun _ h9 => h9) rfl (by decide +kernel) rfl rfl (Nat.le_of_ble_eq_true rfl) dX1_copyFrom_97 (fun H locs hP hD hS => ?_)
  replace hP : va_P E.1 vwCl (List.flatten [wHo E a0 a1 a11 a18 a19 o0_dy o0_fl o0_hu o0_cn o0_gn o0_cs, wSt E a1 a2 a3 a4 a5 a6 a7 a8 a9 a10 lk1 la2 ll3 lots4 pk5 pa6 pd7 onp8 br9 us10 sp11, wPa E a11 a12 a13 a14 a15 a16 a17 zs13 zd14 zn15 zt16 zl17 zc18 nm19, wH8 E a18 o0_sto, wH9 E a19 o0_sg, wHo E b0 b1 b11 b18 b19 o0_dy o0_fl o0_hu o0_cn o0_gn o0_cs, wSt E b1 b2 b3 b4 b5 b6 b7 b8 b9 b10 o0_lk o0_la o0_ll o0_lots o0_pk o0_pa o0_pd o0_onp o0_br o0_us o0_sp, wPa E b11 b12 b13 b14 b15 b16 b17 o0_zs o0_zd o0_zn o0_zt o0_zl o0_zc o0_nm, wH8 E b18 o0_sto, wH9 E b19 o0_sg]) H := hP
  replace hD : va_D A (List.flatten [wHo E a0 a1 a11 a18 a19 o0_dy o0_fl o0_hu o0_cn o0_gn o0_cs, wSt E a1 a2 a3 a4 a5 a6 a7 a8 a9 a10 lk1 la2 ll3 lots4 pk5 pa6 pd7 onp8 br9 us10 sp11, wPa E a11 a12 a13 a14 a15 a16 a17 zs13 zd14 zn15 zt16 zl17 zc18 nm19, wH8 E a18 o0_sto, wH9 E a19 o0_sg, wHo E b0 b1 b11 b18 b19 o0_dy o0_fl o0_hu o0_cn o0_gn o0_cs, wSt E b1 b2 b3 b4 b5 b6 b7 b8 b9 b10 o0_lk o0_la o0_ll o0_lots o0_pk o0_pa o0_pd o0_onp o0_br o0_us o0_sp, wPa E b11 b12 b13 b14 b15 b16 b17 o0_zs o0_zd o0_zn o0_zt o0_zl o0_zc o0_nm, wH8 E b18 o0_sto, wH9 E b19 o0_sg]) := hD
  exact hret (lk1, la2, ll3, lots4, pk5, pa6, pd7, onp8, br9, us10, sp11, zs13, zd14, zn15, zt16, zl17, zc18, nm19, o0_sto, o0_sg, o0_dy, o0_fl, o0_hu, o0_cn, o0_gn, o0_cs) _ _ _ _ (Option.some.inj h) hP hS dX1_copyFrom_100
set_option maxHeartbeats 4000000 in
set_option maxRecDepth 100000 in
theorem kX1_rationFor (E : gE) (l : Launch) (a0 a1 a2 a3 a4 a5 a6 a7 a8 a9 a10 a11 a12 a13 a14 a15 a16 a17 a18 a19 : Nat) (lk : Nat → Int32) (la : Nat → Int32) (ll : Nat → Int32) (lots : Int32) (pk : Nat → Int32) (pa : Nat → Int32) (pd : Nat → Int32) (onp : Int32) (br : Nat → Int32) (us : Nat → Int32) (sp : Nat → Int32) (zs : Nat → Int32) (zd : Nat → Int32) (zn : Nat → Int32) (zt : Nat → Int32) (zl : Nat → Int32) (zc : Nat → Int32) (nm : Int32) (sto : Nat → Int32) (sg : Nat → Int32) (dy : Int32) (fl : Int32) (hu : Int32) (cn : Int32) (gn : Int32) (cs : Int32) (p1 : Int32) (p2 : Int32) (res : Int32) (h : fX1_rationFor sg p1 p2 = some res) : gMI E l yX1_rationFor wsX1_rationFor ({ frames := 0, cells := 0, slots := 0, locals := 0 } : Room) [.ref a0, .int p1, .int p2] (List.flatten [wHo E a0 a1 a11 a18 a19 dy fl hu cn gn cs, wSt E a1 a2 a3 a4 a5 a6 a7 a8 a9 a10 lk la ll lots pk pa pd onp br us sp, wPa E a11 a12 a13 a14 a15 a16 a17 zs zd zn zt zl zc nm, wH8 E a18 sto, wH9 E a19 sg]) (fun res : Int32 => (List.flatten [wHo E a0 a1 a11 a18 a19 dy fl hu cn gn cs, wSt E a1 a2 a3 a4 a5 a6 a7 a8 a9 a10 lk la ll lots pk pa pd onp br us sp, wPa E a11 a12 a13 a14 a15 a16 a17 zs zd zn zt zl zc nm, wH8 E a18 sto, wH9 E a19 sg])) (fun res => res) res := by
  refine g_entI (cc := cX1_rationFor) (maxL := 4) (by decide) rfl (Nat.le_of_ble_eq_true rfl) ?_
  intro p e s m args below meth c A Q ls hx hb hml hown hts hK hP hD hS hA hG hret hl
  unfold fX1_rationFor at h
  replace hl : lv_has ls 4 [(0, .ref a0), (1, .int p1), (2, .int p2)] := hl
  have hiX1 : ∀ w ∈ wsX10, w ∈ wsX1_rationFor := by decide +kernel
  have hw0 := hts (.fieldLink RX1 29 "GlacierHut$Hut" "settings" "[I") (by decide +kernel)
  refine lv_aload_n hx hb dX1_rationFor_0 rfl (lv_at hl 0 rfl) ?_
  refine va_get (D := E.1) (cl := vwCl) (ci := 1) (v := .ref a19) (C := RX1) (T := TX1) (N := 10) hx hb hts hiX1 hown hK hP 0 rfl rfl 3 (by decide) hw0 (fun _ h9 => h9) rfl dX1_rationFor_1 ?_
  refine lv_iconst (v := (1 : Int32)) hx hb dX1_rationFor_4 (by decide) ?_
  obtain ⟨hg1, h⟩ := gd_s h
  refine va_iald (D := E.1) (cl := vwCl) (tys := gT E) hx hb hK hP 19 0 rfl rfl (inB_in hg1) dX1_rationFor_5 ?_
  refine lv_topi (fun v2 e_v2 => ?_)
  replace h := jl_s e_v2 h
  refine lv_istore_n (lv' := [(3, .int v2), (0, .ref a0), (1, .int p1), (2, .int p2)]) hx hb dX1_rationFor_6 rfl hl (by decide) rfl (fun ls hl => ?_)
  refine lv_iload_n hx hb dX1_rationFor_7 rfl (lv_at hl 3 rfl) ?_
  refine lv_aload_n hx hb dX1_rationFor_8 rfl (lv_at hl 1 rfl) ?_
  refine va_get (D := E.1) (cl := vwCl) (ci := 1) (v := .ref a19) (C := RX1) (T := TX1) (N := 10) hx hb hts hiX1 hown hK hP 0 rfl rfl 3 (by decide) hw0 (fun _ h9 => h9) rfl dX1_rationFor_9 ?_
  refine lv_iconst (v := (2 : Int32)) hx hb dX1_rationFor_12 (by decide) ?_
  obtain ⟨hg3, h⟩ := gd_s h
  refine va_iald (D := E.1) (cl := vwCl) (tys := gT E) hx hb hK hP 19 0 rfl rfl (inB_in hg3) dX1_rationFor_13 ?_
  refine lv_iload_n hx hb dX1_rationFor_14 rfl (lv_at hl 2 rfl) ?_
  refine lv_imul hx hb dX1_rationFor_15 ?_
  refine lv_iload_n hx hb dX1_rationFor_16 rfl (lv_at hl 0 rfl) ?_
  refine lv_imul hx hb dX1_rationFor_17 ?_
  refine lv_icmp_ge (tgt := 25) hx hb dX1_rationFor_18 (by decide) (fun hc4 => ?_) (fun hc4 => ?_)
  · replace h := g_it hc4 h
    refine lv_iload_n hx hb dX1_rationFor_25 rfl (lv_at hl 0 rfl) ?_
    exact hret v2 _ _ _ _ _ (Option.some.inj h) hP hS rfl dX1_rationFor_26
  · replace h := g_if hc4 h
    refine lv_iconst (v := (1 : Int32)) hx hb dX1_rationFor_21 (by decide) ?_
    refine lv_goto (tgt := 26) hx hb dX1_rationFor_22 (by decide) ?_
    exact hret (1 : Int32) _ _ _ _ _ (Option.some.inj h) hP hS rfl dX1_rationFor_26
set_option maxHeartbeats 4000000 in
set_option maxRecDepth 100000 in
theorem kX1_gasFor (E : gE) (l : Launch) (a0 a1 a2 a3 a4 a5 a6 a7 a8 a9 a10 a11 a12 a13 a14 a15 a16 a17 a18 a19 : Nat) (lk : Nat → Int32) (la : Nat → Int32) (ll : Nat → Int32) (lots : Int32) (pk : Nat → Int32) (pa : Nat → Int32) (pd : Nat → Int32) (onp : Int32) (br : Nat → Int32) (us : Nat → Int32) (sp : Nat → Int32) (zs : Nat → Int32) (zd : Nat → Int32) (zn : Nat → Int32) (zt : Nat → Int32) (zl : Nat → Int32) (zc : Nat → Int32) (nm : Int32) (sto : Nat → Int32) (sg : Nat → Int32) (dy : Int32) (fl : Int32) (hu : Int32) (cn : Int32) (gn : Int32) (cs : Int32) (p1 : Int32) (p2 : Int32) (res : Int32) (h : fX1_gasFor  p1 p2 = some res) : gMI E l yX1_gasFor wsX1_gasFor ({ frames := 0, cells := 0, slots := 0, locals := 0 } : Room) [.ref a0, .int p1, .int p2] (List.flatten [wHo E a0 a1 a11 a18 a19 dy fl hu cn gn cs, wSt E a1 a2 a3 a4 a5 a6 a7 a8 a9 a10 lk la ll lots pk pa pd onp br us sp, wPa E a11 a12 a13 a14 a15 a16 a17 zs zd zn zt zl zc nm, wH8 E a18 sto, wH9 E a19 sg]) (fun res : Int32 => (List.flatten [wHo E a0 a1 a11 a18 a19 dy fl hu cn gn cs, wSt E a1 a2 a3 a4 a5 a6 a7 a8 a9 a10 lk la ll lots pk pa pd onp br us sp, wPa E a11 a12 a13 a14 a15 a16 a17 zs zd zn zt zl zc nm, wH8 E a18 sto, wH9 E a19 sg])) (fun res => res) res := by
  refine g_entI (cc := cX1_gasFor) (maxL := 3) (by decide) rfl (Nat.le_of_ble_eq_true rfl) ?_
  intro p e s m args below meth c A Q ls hx hb hml hown hts hK hP hD hS hA hG hret hl
  unfold fX1_gasFor at h
  replace hl : lv_has ls 3 [(0, .ref a0), (1, .int p1), (2, .int p2)] := hl
  refine lv_iload_n hx hb dX1_gasFor_0 rfl (lv_at hl 1 rfl) ?_
  refine lv_if_ne (tgt := 6) hx hb dX1_gasFor_1 (by decide) (fun hc1 => ?_) (fun hc1 => ?_)
  · replace h := g_if hc1 h
    refine lv_iload_n hx hb dX1_gasFor_6 rfl (lv_at hl 1 rfl) ?_
    refine lv_iconst (v := (3 : Int32)) hx hb dX1_gasFor_7 (by decide) ?_
    refine lv_iadd hx hb dX1_gasFor_8 ?_
    refine lv_iconst (v := (4 : Int32)) hx hb dX1_gasFor_9 (by decide) ?_
    refine lv_idiv hx hb dX1_gasFor_10 (by decide) ?_
    refine lv_iload_n hx hb dX1_gasFor_11 rfl (lv_at hl 2 rfl) ?_
    refine lv_if_eq (tgt := 19) hx hb dX1_gasFor_12 (by decide) (fun hc2 => ?_) (fun hc2 => ?_)
    · replace h := g_it hc2 h
      refine lv_iconst (v := (0 : Int32)) hx hb dX1_gasFor_19 (by decide) ?_
      refine lv_iadd hx hb dX1_gasFor_20 ?_
      exact hret (((p1 + (3 : Int32)) / (4 : Int32)) + (0 : Int32)) _ _ _ _ _ (Option.some.inj h) hP hS rfl dX1_gasFor_21
    · replace h := g_if hc2 h
      refine lv_iconst (v := (1 : Int32)) hx hb dX1_gasFor_15 (by decide) ?_
      refine lv_goto (tgt := 20) hx hb dX1_gasFor_16 (by decide) ?_
      refine lv_iadd hx hb dX1_gasFor_20 ?_
      exact hret (((p1 + (3 : Int32)) / (4 : Int32)) + (1 : Int32)) _ _ _ _ _ (Option.some.inj h) hP hS rfl dX1_gasFor_21
  · replace h := g_it hc1 h
    refine lv_iconst (v := (0 : Int32)) hx hb dX1_gasFor_4 (by decide) ?_
    exact hret (0 : Int32) _ _ _ _ _ (Option.some.inj h) hP hS rfl dX1_gasFor_5
