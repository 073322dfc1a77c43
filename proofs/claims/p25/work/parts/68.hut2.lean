set_option maxHeartbeats 4000000 in
set_option maxRecDepth 100000 in
theorem kX1_passNight (E : gE) (l : Launch) (a0 a1 a2 a3 a4 a5 a6 a7 a8 a9 a10 a11 a12 a13 a14 a15 a16 a17 a18 a19 : Nat) (lk : Nat → Int32) (la : Nat → Int32) (ll : Nat → Int32) (lots : Int32) (pk : Nat → Int32) (pa : Nat → Int32) (pd : Nat → Int32) (onp : Int32) (br : Nat → Int32) (us : Nat → Int32) (sp : Nat → Int32) (zs : Nat → Int32) (zd : Nat → Int32) (zn : Nat → Int32) (zt : Nat → Int32) (zl : Nat → Int32) (zc : Nat → Int32) (nm : Int32) (sto : Nat → Int32) (sg : Nat → Int32) (dy : Int32) (fl : Int32) (hu : Int32) (cn : Int32) (gn : Int32) (cs : Int32)  (res : Int32 × (Nat → Int32) × (Nat → Int32) × (Nat → Int32) × Int32 × (Nat → Int32) × (Nat → Int32) × (Nat → Int32) × (Nat → Int32) × (Nat → Int32) × Int32 × Int32 × Int32 × Int32 × Int32) (h : fX1_passNight lk la ll lots us sp zs zd zn zt zl zc nm sto sg dy hu cn gn cs  = some res) : gMI E l yX1_passNight wsX1_passNight ({ frames := 1, cells := 0, slots := 0, locals := 26 } : Room) [.ref a0] (List.flatten [wHo E a0 a1 a11 a18 a19 dy fl hu cn gn cs, wSt E a1 a2 a3 a4 a5 a6 a7 a8 a9 a10 lk la ll lots pk pa pd onp br us sp, wPa E a11 a12 a13 a14 a15 a16 a17 zs zd zn zt zl zc nm, wH8 E a18 sto, wH9 E a19 sg]) (fun res : Int32 × (Nat → Int32) × (Nat → Int32) × (Nat → Int32) × Int32 × (Nat → Int32) × (Nat → Int32) × (Nat → Int32) × (Nat → Int32) × (Nat → Int32) × Int32 × Int32 × Int32 × Int32 × Int32 => (List.flatten [wHo E a0 a1 a11 a18 a19 res.2.2.2.2.2.2.2.2.2.2.1 fl res.2.2.2.2.2.2.2.2.2.2.2.1 res.2.2.2.2.2.2.2.2.2.2.2.2.1 res.2.2.2.2.2.2.2.2.2.2.2.2.2.1 res.2.2.2.2.2.2.2.2.2.2.2.2.2.2, wSt E a1 a2 a3 a4 a5 a6 a7 a8 a9 a10 res.2.1 res.2.2.1 res.2.2.2.1 res.2.2.2.2.1 pk pa pd onp br res.2.2.2.2.2.1 res.2.2.2.2.2.2.1, wPa E a11 a12 a13 a14 a15 a16 a17 zs zd zn res.2.2.2.2.2.2.2.1 res.2.2.2.2.2.2.2.2.1 res.2.2.2.2.2.2.2.2.2.1 nm, wH8 E a18 sto, wH9 E a19 sg])) (fun res => res.1) res := by
  refine g_entZ (cc := cX1_passNight) (maxL := 9) (by decide) rfl (Nat.le_of_ble_eq_true rfl) ?_
  intro p e s m args below meth c A Q ls hx hb hml hown hts hK hP hD hS hA hG hret hl
  unfold fX1_passNight at h
  replace hl : lv_has ls 9 [(0, .ref a0)] := hl
  have hiX1 : ∀ w ∈ wsX10, w ∈ wsX1_passNight := by decide +kernel
  have hw0 := hts (.fieldLink RX1 21 "GlacierHut$Hut" "parties" "LGlacierHut$Parties;") (by decide +kernel)
  have hw1 := hts (.fieldLink RX1 49 "GlacierHut$Hut" "day" "I") (by decide +kernel)
  have hw2 := hts (.fieldLink RX1 29 "GlacierHut$Hut" "settings" "[I") (by decide +kernel)
  have hw3 := hts (.fieldLink RX1 12 "GlacierHut$Hut" "stores" "LGlacierHut$Stores;") (by decide +kernel)
  have hw4 := hts (.fieldLink RX1 65 "GlacierHut$Hut" "cutSuppers" "I") (by decide +kernel)
  have hw5 := hts (.methodLink RX1 143 Lib.Math.min.name) (by decide +kernel)
  have hw6 := hts (.static Lib.Math.min.name) (by decide +kernel)
  have hw7 := hts (.initialized "java/lang/Math") (by decide +kernel)
  have hw8 := hts (.code Lib.Math.min.name Lib.Math.min.code 2 (some .int)) (by decide +kernel)
  have hw9 := hts (.fieldLink RX1 56 "GlacierHut$Hut" "hungry" "I") (by decide +kernel)
  have hw10 := hts (.fieldLink RX1 59 "GlacierHut$Hut" "coldNights" "I") (by decide +kernel)
  have hw11 := hts (.fieldLink RX1 62 "GlacierHut$Hut" "guestNights" "I") (by decide +kernel)
  refine lv_aload_n hx hb dX1_passNight_0 rfl (lv_at hl 0 rfl) ?_
  obtain ⟨r1, hc2, h⟩ := bd1_s h
  refine g_callRi (As := []) (rest := []) (r := r1) ⟨hx, hb, hml, hown, hts⟩ (kX1_isStorm E l a0 a1 a2 a3 a4 a5 a6 a7 a8 a9 a10 a11 a12 a13 a14 a15 a16 a17 a18 a19 lk la ll lots pk pa pd onp br us sp zs zd zn zt zl zc nm sto sg dy fl hu cn gn cs r1 hc2) (cwV 0 hts gX1_passNight_X1_isStorm rfl rfl rfl (by decide +kernel) ⟨Nat.le_of_ble_eq_true rfl, Nat.le_of_ble_eq_true rfl⟩) hK hP hD hS hA hG hl [0, 1, 2, 3, 4, 5, 6, 7, 8, 9, 10, 11, 12, 13, 14, 15, 16, 17, 18, 19] 0 (by decide) rfl (ci := 1) rfl rfl rfl rfl rfl rfl rfl (Nat.le_of_ble_eq_true rfl) dX1_passNight_1 (Nat.zero_le _) (Nat.zero_le _) (fun H locs hP hD hS => ?_)
  refine lv_istore_n (lv' := [(1, .int r1), (0, .ref a0)]) hx hb dX1_passNight_4 rfl hl (by decide) rfl (fun ls hl => ?_)
  refine lv_iload_n hx hb dX1_passNight_5 rfl (lv_at hl 0 rfl) ?_
  refine mrg_e h (fun J4 hK_J4 h => ?_)
  have hJ_J4 : ∀ (zt7 : Nat → Int32) (H : Heap) (locs : List Loc) (ls : Array Slot), va_P E.1 vwCl (List.flatten [wHo E a0 a1 a11 a18 a19 dy fl hu cn gn cs, wSt E a1 a2 a3 a4 a5 a6 a7 a8 a9 a10 lk la ll lots pk pa pd onp br us sp, wPa E a11 a12 a13 a14 a15 a16 a17 zs zd zn zt7 zl zc nm, wH8 E a18 sto, wH9 E a19 sg]) H → va_S A s.heap H locs → lv_has ls 9 [(1, .int r1), (0, .ref a0)] → J4 zt7 = some res → W p l e ({ frames := 1, cells := 0, slots := 0, locals := 26 } : Room) s m args below meth c H locs 0 0 Q (F0 m 16 ls []) := by
    intro zt7 H locs ls hP hS hl h
    replace hD : va_D A (List.flatten [wHo E a0 a1 a11 a18 a19 dy fl hu cn gn cs, wSt E a1 a2 a3 a4 a5 a6 a7 a8 a9 a10 lk la ll lots pk pa pd onp br us sp, wPa E a11 a12 a13 a14 a15 a16 a17 zs zd zn zt7 zl zc nm, wH8 E a18 sto, wH9 E a19 sg]) := gD_same hD rfl
    subst hK_J4
    refine lv_aload_n hx hb dX1_passNight_16 rfl (lv_at hl 1 rfl) ?_
    refine va_get (D := E.1) (cl := vwCl) (ci := 1) (v := .ref a11) (C := RX1) (T := TX1) (N := 10) hx hb hts hiX1 hown hK hP 0 rfl rfl 1 (by decide) hw0 (fun _ h9 => h9) rfl dX1_passNight_17 ?_
    refine lv_aload_n hx hb dX1_passNight_20 rfl (lv_at hl 1 rfl) ?_
    refine va_get (D := E.1) (cl := vwCl) (ci := 1) (v := .int dy) (C := RX1) (T := TX1) (N := 10) hx hb hts hiX1 hown hK hP 0 rfl rfl 4 (by decide) hw1 (fun _ h9 => h9) rfl dX1_passNight_21 ?_
    refine lv_iload_n hx hb dX1_passNight_24 rfl (lv_at hl 0 rfl) ?_
    refine lv_aload_n hx hb dX1_passNight_25 rfl (lv_at hl 1 rfl) ?_
    refine va_get (D := E.1) (cl := vwCl) (ci := 1) (v := .ref a19) (C := RX1) (T := TX1) (N := 10) hx hb hts hiX1 hown hK hP 0 rfl rfl 3 (by decide) hw2 (fun _ h9 => h9) rfl dX1_passNight_26 ?_
    refine lv_iconst (v := (0 : Int32)) hx hb dX1_passNight_29 (by decide) ?_
    obtain ⟨hg8, h⟩ := gd_s h
    refine va_iald (D := E.1) (cl := vwCl) (tys := gT E) hx hb hK hP 19 0 rfl rfl (inB_in hg8) dX1_passNight_30 ?_
    refine lv_aload_n hx hb dX1_passNight_31 rfl (lv_at hl 1 rfl) ?_
    refine va_get (D := E.1) (cl := vwCl) (ci := 1) (v := .ref a11) (C := RX1) (T := TX1) (N := 10) hx hb hts hiX1 hown hK hP 0 rfl rfl 1 (by decide) hw0 (fun _ h9 => h9) rfl dX1_passNight_32 ?_
    obtain ⟨r9, hc10, h⟩ := bd1_s h
    refine g_callRi (As := []) (rest := [.int (sg ((0 : Int32)).toNatClampNeg), .int r1, .int dy, .ref a11]) (r := r9) ⟨hx, hb, hml, hown, hts⟩ (kX2_guests E l a11 a12 a13 a14 a15 a16 a17 zs zd zn zt7 zl zc nm r9 hc10) (cwV 0 hts gX1_passNight_X2_guests rfl rfl rfl (by decide +kernel) ⟨Nat.le_of_ble_eq_true rfl, Nat.le_of_ble_eq_true rfl⟩) hK hP hD hS hA hG hl [11, 12, 13, 14, 15, 16, 17] 11 (by decide) rfl (ci := 2) rfl rfl rfl rfl rfl rfl rfl (Nat.le_of_ble_eq_true rfl) dX1_passNight_35 (Nat.zero_le _) (Nat.zero_le _) (fun H locs hP hD hS => ?_)
    refine lv_isub hx hb dX1_passNight_38 ?_
    obtain ⟨r11, zt12, zc13, hc14, h⟩ := bd3_s h
    refine g_call1i (As := [.int dy, .int r1, .int ((sg ((0 : Int32)).toNatClampNeg) - r9)]) (rest := []) (r := r11) (bs1 := [wHo E a0 a1 a11 a18 a19 dy fl hu cn gn cs, wSt E a1 a2 a3 a4 a5 a6 a7 a8 a9 a10 lk la ll lots pk pa pd onp br us sp, wPa E a11 a12 a13 a14 a15 a16 a17 zs zd zn zt12 zl zc13 nm, wH8 E a18 sto, wH9 E a19 sg]) ⟨hx, hb, hml, hown, hts⟩ (kX2_arrive E l a11 a12 a13 a14 a15 a16 a17 zs zd zn zt7 zl zc nm dy r1 ((sg ((0 : Int32)).toNatClampNeg) - r9) (r11, zt12, zc13) hc14) (cwV 3 hts gX1_passNight_X2_arrive rfl rfl rfl (by decide +kernel) ⟨Nat.le_of_ble_eq_true rfl, Nat.le_of_ble_eq_true rfl⟩) hK hP hD hS hA hG hl 2 0 (ci := 2) rfl rfl rfl rfl rfl rfl rfl rfl rfl (Nat.le_of_ble_eq_true rfl) dX1_passNight_39 (Nat.zero_le _) (Nat.zero_le _) (fun H locs hP hD hS => ?_)
    refine lv_istore_n (lv' := [(2, .int r11), (1, .int r1), (0, .ref a0)]) hx hb dX1_passNight_42 rfl hl (by decide) rfl (fun ls hl => ?_)
    refine lv_aload_n hx hb dX1_passNight_43 rfl (lv_at hl 2 rfl) ?_
    refine va_get (D := E.1) (cl := vwCl) (ci := 1) (v := .ref a11) (C := RX1) (T := TX1) (N := 10) hx hb hts hiX1 hown hK hP 0 rfl rfl 1 (by decide) hw0 (fun _ h9 => h9) rfl dX1_passNight_44 ?_
    obtain ⟨r15, hc16, h⟩ := bd1_s h
    refine g_callRi (As := []) (rest := []) (r := r15) ⟨hx, hb, hml, hown, hts⟩ (kX2_guests E l a11 a12 a13 a14 a15 a16 a17 zs zd zn zt12 zl zc13 nm r15 hc16) (cwV 0 hts gX1_passNight_X2_guests rfl rfl rfl (by decide +kernel) ⟨Nat.le_of_ble_eq_true rfl, Nat.le_of_ble_eq_true rfl⟩) hK hP hD hS hA hG hl [11, 12, 13, 14, 15, 16, 17] 11 (by decide) rfl (ci := 2) rfl rfl rfl rfl rfl rfl rfl (Nat.le_of_ble_eq_true rfl) dX1_passNight_47 (Nat.zero_le _) (Nat.zero_le _) (fun H locs hP hD hS => ?_)
    refine lv_istore_n (lv' := [(3, .int r15), (2, .int r11), (1, .int r1), (0, .ref a0)]) hx hb dX1_passNight_50 rfl hl (by decide) rfl (fun ls hl => ?_)
    refine lv_aload_n hx hb dX1_passNight_51 rfl (lv_at hl 3 rfl) ?_
    refine lv_iload_n hx hb dX1_passNight_52 rfl (lv_at hl 0 rfl) ?_
    refine lv_aload_n hx hb dX1_passNight_53 rfl (lv_at hl 3 rfl) ?_
    refine va_get (D := E.1) (cl := vwCl) (ci := 1) (v := .ref a1) (C := RX1) (T := TX1) (N := 10) hx hb hts hiX1 hown hK hP 0 rfl rfl 0 (by decide) hw3 (fun _ h9 => h9) rfl dX1_passNight_54 ?_
    refine lv_iconst (v := (0 : Int32)) hx hb dX1_passNight_57 (by decide) ?_
    obtain ⟨r17, hc18, h⟩ := bd1_s h
    refine g_callRi (As := [.int (0 : Int32)]) (rest := [.int r15, .ref a0]) (r := r17) ⟨hx, hb, hml, hown, hts⟩ (kX4_stock E l a1 a2 a3 a4 a5 a6 a7 a8 a9 a10 lk la ll lots pk pa pd onp br us sp (0 : Int32) r17 hc18) (cwV 1 hts gX1_passNight_X4_stock rfl rfl rfl (by decide +kernel) ⟨Nat.le_of_ble_eq_true rfl, Nat.le_of_ble_eq_true rfl⟩) hK hP hD hS hA hG hl [1, 2, 3, 4, 5, 6, 7, 8, 9, 10] 1 (by decide) rfl (ci := 4) rfl rfl rfl rfl rfl rfl rfl (Nat.le_of_ble_eq_true rfl) dX1_passNight_58 (Nat.zero_le _) (Nat.zero_le _) (fun H locs hP hD hS => ?_)
    obtain ⟨r19, hc20, h⟩ := bd1_s h
    refine g_callRi (As := [.int r15, .int r17]) (rest := []) (r := r19) ⟨hx, hb, hml, hown, hts⟩ (kX1_rationFor E l a0 a1 a2 a3 a4 a5 a6 a7 a8 a9 a10 a11 a12 a13 a14 a15 a16 a17 a18 a19 lk la ll lots pk pa pd onp br us sp zs zd zn zt12 zl zc13 nm sto sg dy fl hu cn gn cs r15 r17 r19 hc20) (cwV 2 hts gX1_passNight_X1_rationFor rfl rfl rfl (by decide +kernel) ⟨Nat.le_of_ble_eq_true rfl, Nat.le_of_ble_eq_true rfl⟩) hK hP hD hS hA hG hl [0, 1, 2, 3, 4, 5, 6, 7, 8, 9, 10, 11, 12, 13, 14, 15, 16, 17, 18, 19] 0 (by decide) rfl (ci := 1) rfl rfl rfl rfl rfl rfl rfl (Nat.le_of_ble_eq_true rfl) dX1_passNight_61 (Nat.zero_le _) (Nat.zero_le _) (fun H locs hP hD hS => ?_)
    refine lv_istore (lv' := [(4, .int r19), (3, .int r15), (2, .int r11), (1, .int r1), (0, .ref a0)]) hx hb dX1_passNight_64 hl (by decide) rfl (fun ls hl => ?_)
    refine lv_iload hx hb dX1_passNight_66 (lv_at hl 0 rfl) ?_
    refine lv_aload_n hx hb dX1_passNight_68 rfl (lv_at hl 4 rfl) ?_
    refine va_get (D := E.1) (cl := vwCl) (ci := 1) (v := .ref a19) (C := RX1) (T := TX1) (N := 10) hx hb hts hiX1 hown hK hP 0 rfl rfl 3 (by decide) hw2 (fun _ h9 => h9) rfl dX1_passNight_69 ?_
    refine lv_iconst (v := (1 : Int32)) hx hb dX1_passNight_72 (by decide) ?_
    obtain ⟨hg21, h⟩ := gd_s h
    refine va_iald (D := E.1) (cl := vwCl) (tys := gT E) hx hb hK hP 19 0 rfl rfl (inB_in hg21) dX1_passNight_73 ?_
    refine mrg_e h (fun J23 hK_J23 h => ?_)
    have hJ_J23 : ∀ (cs25 : Int32) (H : Heap) (locs : List Loc) (ls : Array Slot), va_P E.1 vwCl (List.flatten [wHo E a0 a1 a11 a18 a19 dy fl hu cn gn cs25, wSt E a1 a2 a3 a4 a5 a6 a7 a8 a9 a10 lk la ll lots pk pa pd onp br us sp, wPa E a11 a12 a13 a14 a15 a16 a17 zs zd zn zt12 zl zc13 nm, wH8 E a18 sto, wH9 E a19 sg]) H → va_S A s.heap H locs → lv_has ls 9 [(4, .int r19), (3, .int r15), (2, .int r11), (1, .int r1), (0, .ref a0)] → J23 cs25 = some res → W p l e ({ frames := 1, cells := 0, slots := 0, locals := 26 } : Room) s m args below meth c H locs 0 0 Q (F0 m 87 ls []) := by
      intro cs25 H locs ls hP hS hl h
      replace hD : va_D A (List.flatten [wHo E a0 a1 a11 a18 a19 dy fl hu cn gn cs25, wSt E a1 a2 a3 a4 a5 a6 a7 a8 a9 a10 lk la ll lots pk pa pd onp br us sp, wPa E a11 a12 a13 a14 a15 a16 a17 zs zd zn zt12 zl zc13 nm, wH8 E a18 sto, wH9 E a19 sg]) := gD_same hD rfl
      subst hK_J23
      refine lv_iload_n hx hb dX1_passNight_87 rfl (lv_at hl 1 rfl) ?_
      refine lv_iload hx hb dX1_passNight_88 (lv_at hl 0 rfl) ?_
      refine lv_imul hx hb dX1_passNight_90 ?_
      refine lv_iload_n hx hb dX1_passNight_91 rfl (lv_at hl 1 rfl) ?_
      refine lv_iadd hx hb dX1_passNight_92 ?_
      refine lv_aload_n hx hb dX1_passNight_93 rfl (lv_at hl 4 rfl) ?_
      refine va_get (D := E.1) (cl := vwCl) (ci := 1) (v := .ref a1) (C := RX1) (T := TX1) (N := 10) hx hb hts hiX1 hown hK hP 0 rfl rfl 0 (by decide) hw3 (fun _ h9 => h9) rfl dX1_passNight_94 ?_
      refine lv_iconst (v := (1 : Int32)) hx hb dX1_passNight_97 (by decide) ?_
      refine lv_iload_n hx hb dX1_passNight_98 rfl (lv_at hl 1 rfl) ?_
      obtain ⟨r26, la27, us28, hc29, h⟩ := bd3_s h
      refine g_call1i (As := [.int (1 : Int32), .int r15]) (rest := [.int ((r15 * r19) + r15)]) (r := r26) (bs1 := [wHo E a0 a1 a11 a18 a19 dy fl hu cn gn cs25, wSt E a1 a2 a3 a4 a5 a6 a7 a8 a9 a10 lk la27 ll lots pk pa pd onp br us28 sp, wPa E a11 a12 a13 a14 a15 a16 a17 zs zd zn zt12 zl zc13 nm, wH8 E a18 sto, wH9 E a19 sg]) ⟨hx, hb, hml, hown, hts⟩ (kX4_take E l a1 a2 a3 a4 a5 a6 a7 a8 a9 a10 lk la ll lots pk pa pd onp br us sp (1 : Int32) r15 (r26, la27, us28) hc29) (cwV 2 hts gX1_passNight_X4_take rfl rfl rfl (by decide +kernel) ⟨Nat.le_of_ble_eq_true rfl, Nat.le_of_ble_eq_true rfl⟩) hK hP hD hS hA hG hl 1 0 (ci := 4) rfl rfl rfl rfl rfl rfl rfl rfl rfl (Nat.le_of_ble_eq_true rfl) dX1_passNight_99 (Nat.zero_le _) (Nat.zero_le _) (fun H locs hP hD hS => ?_)
      refine lv_isub hx hb dX1_passNight_102 ?_
      refine lv_topi (fun v30 e_v30 => ?_)
      replace h := jl_s e_v30 h
      refine lv_istore (lv' := [(5, .int v30), (4, .int r19), (3, .int r15), (2, .int r11), (1, .int r1), (0, .ref a0)]) hx hb dX1_passNight_103 hl (by decide) rfl (fun ls hl => ?_)
      refine lv_iload_n hx hb dX1_passNight_105 rfl (lv_at hl 2 rfl) ?_
      refine lv_iload hx hb dX1_passNight_106 (lv_at hl 0 rfl) ?_
      refine lv_aload_n hx hb dX1_passNight_108 rfl (lv_at hl 5 rfl) ?_
      refine va_get (D := E.1) (cl := vwCl) (ci := 1) (v := .ref a1) (C := RX1) (T := TX1) (N := 10) hx hb hts hiX1 hown hK hP 0 rfl rfl 0 (by decide) hw3 (fun _ h9 => h9) rfl dX1_passNight_109 ?_
      refine lv_iconst (v := (0 : Int32)) hx hb dX1_passNight_112 (by decide) ?_
      refine lv_iload hx hb dX1_passNight_113 (lv_at hl 0 rfl) ?_
      obtain ⟨r31, la32, us33, hc34, h⟩ := bd3_s h
      refine g_call1i (As := [.int (0 : Int32), .int v30]) (rest := [.int v30, .int r15]) (r := r31) (bs1 := [wHo E a0 a1 a11 a18 a19 dy fl hu cn gn cs25, wSt E a1 a2 a3 a4 a5 a6 a7 a8 a9 a10 lk la32 ll lots pk pa pd onp br us33 sp, wPa E a11 a12 a13 a14 a15 a16 a17 zs zd zn zt12 zl zc13 nm, wH8 E a18 sto, wH9 E a19 sg]) ⟨hx, hb, hml, hown, hts⟩ (kX4_take E l a1 a2 a3 a4 a5 a6 a7 a8 a9 a10 lk la27 ll lots pk pa pd onp br us28 sp (0 : Int32) v30 (r31, la32, us33) hc34) (cwV 2 hts gX1_passNight_X4_take rfl rfl rfl (by decide +kernel) ⟨Nat.le_of_ble_eq_true rfl, Nat.le_of_ble_eq_true rfl⟩) hK hP hD hS hA hG hl 1 0 (ci := 4) rfl rfl rfl rfl rfl rfl rfl rfl rfl (Nat.le_of_ble_eq_true rfl) dX1_passNight_115 (Nat.zero_le _) (Nat.zero_le _) (fun H locs hP hD hS => ?_)
      refine lv_isub hx hb dX1_passNight_118 ?_
      refine va_mmin hx hb (hml.trans hl.1.symm) hown hw5 hw6 hw7 hw8 (Nat.le_of_ble_eq_true rfl) (Nat.le_of_ble_eq_true rfl) (Nat.zero_le _) (Nat.zero_le _) dX1_passNight_119 ?_
      refine lv_topi (fun v35 e_v35 => ?_)
      replace h := jl_s e_v35 h
      refine lv_istore (lv' := [(6, .int v35), (5, .int v30), (4, .int r19), (3, .int r15), (2, .int r11), (1, .int r1), (0, .ref a0)]) hx hb dX1_passNight_122 hl (by decide) rfl (fun ls hl => ?_)
      refine lv_aload_n hx hb dX1_passNight_124 rfl (lv_at hl 6 rfl) ?_
      refine lv_iload_n hx hb dX1_passNight_125 rfl (lv_at hl 3 rfl) ?_
      refine lv_iload_n hx hb dX1_passNight_126 rfl (lv_at hl 5 rfl) ?_
      obtain ⟨r36, hc37, h⟩ := bd1_s h
      refine g_callRi (As := [.int r15, .int r1]) (rest := []) (r := r36) ⟨hx, hb, hml, hown, hts⟩ (kX1_gasFor E l a0 a1 a2 a3 a4 a5 a6 a7 a8 a9 a10 a11 a12 a13 a14 a15 a16 a17 a18 a19 lk la32 ll lots pk pa pd onp br us33 sp zs zd zn zt12 zl zc13 nm sto sg dy fl hu cn gn cs25 r15 r1 r36 hc37) (cwV 2 hts gX1_passNight_X1_gasFor rfl rfl rfl (by decide +kernel) ⟨Nat.le_of_ble_eq_true rfl, Nat.le_of_ble_eq_true rfl⟩) hK hP hD hS hA hG hl [0, 1, 2, 3, 4, 5, 6, 7, 8, 9, 10, 11, 12, 13, 14, 15, 16, 17, 18, 19] 0 (by decide) rfl (ci := 1) rfl rfl rfl rfl rfl rfl rfl (Nat.le_of_ble_eq_true rfl) dX1_passNight_127 (Nat.zero_le _) (Nat.zero_le _) (fun H locs hP hD hS => ?_)
      refine lv_istore (lv' := [(7, .int r36), (6, .int v35), (5, .int v30), (4, .int r19), (3, .int r15), (2, .int r11), (1, .int r1), (0, .ref a0)]) hx hb dX1_passNight_130 hl (by decide) rfl (fun ls hl => ?_)
      refine lv_aload_n hx hb dX1_passNight_132 rfl (lv_at hl 7 rfl) ?_
      refine va_get (D := E.1) (cl := vwCl) (ci := 1) (v := .ref a1) (C := RX1) (T := TX1) (N := 10) hx hb hts hiX1 hown hK hP 0 rfl rfl 0 (by decide) hw3 (fun _ h9 => h9) rfl dX1_passNight_133 ?_
      refine lv_iconst (v := (2 : Int32)) hx hb dX1_passNight_136 (by decide) ?_
      refine lv_iload hx hb dX1_passNight_137 (lv_at hl 0 rfl) ?_
      obtain ⟨r38, la39, us40, hc41, h⟩ := bd3_s h
      refine g_call1i (As := [.int (2 : Int32), .int r36]) (rest := []) (r := r38) (bs1 := [wHo E a0 a1 a11 a18 a19 dy fl hu cn gn cs25, wSt E a1 a2 a3 a4 a5 a6 a7 a8 a9 a10 lk la39 ll lots pk pa pd onp br us40 sp, wPa E a11 a12 a13 a14 a15 a16 a17 zs zd zn zt12 zl zc13 nm, wH8 E a18 sto, wH9 E a19 sg]) ⟨hx, hb, hml, hown, hts⟩ (kX4_take E l a1 a2 a3 a4 a5 a6 a7 a8 a9 a10 lk la32 ll lots pk pa pd onp br us33 sp (2 : Int32) r36 (r38, la39, us40) hc41) (cwV 2 hts gX1_passNight_X4_take rfl rfl rfl (by decide +kernel) ⟨Nat.le_of_ble_eq_true rfl, Nat.le_of_ble_eq_true rfl⟩) hK hP hD hS hA hG hl 1 0 (ci := 4) rfl rfl rfl rfl rfl rfl rfl rfl rfl (Nat.le_of_ble_eq_true rfl) dX1_passNight_139 (Nat.zero_le _) (Nat.zero_le _) (fun H locs hP hD hS => ?_)
      refine lv_iload hx hb dX1_passNight_142 (lv_at hl 0 rfl) ?_
      refine mrg_e h (fun J43 hK_J43 h => ?_)
      have hJ_J43 : ∀ (v44 : Int32) (H : Heap) (locs : List Loc) (ls : Array Slot), va_P E.1 vwCl (List.flatten [wHo E a0 a1 a11 a18 a19 dy fl hu cn gn cs25, wSt E a1 a2 a3 a4 a5 a6 a7 a8 a9 a10 lk la39 ll lots pk pa pd onp br us40 sp, wPa E a11 a12 a13 a14 a15 a16 a17 zs zd zn zt12 zl zc13 nm, wH8 E a18 sto, wH9 E a19 sg]) H → va_S A s.heap H locs → lv_has ls 9 [(6, .int v35), (3, .int r15), (2, .int r11), (0, .ref a0)] → J43 v44 = some res → W p l e ({ frames := 1, cells := 0, slots := 0, locals := 26 } : Room) s m args below meth c H locs 0 0 Q (F0 m 152 ls [.int v44]) := by
        intro v44 H locs ls hP hS hl h
        replace hD : va_D A (List.flatten [wHo E a0 a1 a11 a18 a19 dy fl hu cn gn cs25, wSt E a1 a2 a3 a4 a5 a6 a7 a8 a9 a10 lk la39 ll lots pk pa pd onp br us40 sp, wPa E a11 a12 a13 a14 a15 a16 a17 zs zd zn zt12 zl zc13 nm, wH8 E a18 sto, wH9 E a19 sg]) := gD_same hD rfl
        subst hK_J43
        refine lv_istore (lv' := [(8, .int v44), (6, .int v35), (3, .int r15), (2, .int r11), (0, .ref a0)]) hx hb dX1_passNight_152 hl (by decide) rfl (fun ls hl => ?_)
        refine lv_aload_n hx hb dX1_passNight_154 rfl (lv_at hl 4 rfl) ?_
        refine lv_dup hx hb dX1_passNight_155 rfl ?_
        refine va_get (D := E.1) (cl := vwCl) (ci := 1) (v := .int hu) (C := RX1) (T := TX1) (N := 10) hx hb hts hiX1 hown hK hP 0 rfl rfl 6 (by decide) hw9 (fun _ h9 => h9) rfl dX1_passNight_156 ?_
        refine lv_iload hx hb dX1_passNight_159 (lv_at hl 1 rfl) ?_
        refine lv_iadd hx hb dX1_passNight_161 ?_
        refine lv_topi (fun v45 e_v45 => ?_)
        replace h := jl_s e_v45 h
        refine va_put (D := E.1) (cl := vwCl) (ci := 1) (v := .int v45) (ty := .int) (C := RX1) (T := TX1) (N := 10) hx hb hts hiX1 tyX1 tyX1_ok nmX1 hown hK hP hD hS 0 rfl rfl 6 (by decide) hw9 (fun _ h9 => h9) rfl (by decide +kernel) rfl rfl (Nat.le_of_ble_eq_true rfl) dX1_passNight_162 (fun H locs hP hD hS => ?_)
        replace hP : va_P E.1 vwCl (List.flatten [wHo E a0 a1 a11 a18 a19 dy fl v45 cn gn cs25, wSt E a1 a2 a3 a4 a5 a6 a7 a8 a9 a10 lk la39 ll lots pk pa pd onp br us40 sp, wPa E a11 a12 a13 a14 a15 a16 a17 zs zd zn zt12 zl zc13 nm, wH8 E a18 sto, wH9 E a19 sg]) H := hP
        replace hD : va_D A (List.flatten [wHo E a0 a1 a11 a18 a19 dy fl v45 cn gn cs25, wSt E a1 a2 a3 a4 a5 a6 a7 a8 a9 a10 lk la39 ll lots pk pa pd onp br us40 sp, wPa E a11 a12 a13 a14 a15 a16 a17 zs zd zn zt12 zl zc13 nm, wH8 E a18 sto, wH9 E a19 sg]) := hD
        refine lv_iload hx hb dX1_passNight_165 (lv_at hl 0 rfl) ?_
        refine mrg_e h (fun J47 hK_J47 h => ?_)
        have hJ_J47 : ∀ (cn49 : Int32) (H : Heap) (locs : List Loc) (ls : Array Slot), va_P E.1 vwCl (List.flatten [wHo E a0 a1 a11 a18 a19 dy fl v45 cn49 gn cs25, wSt E a1 a2 a3 a4 a5 a6 a7 a8 a9 a10 lk la39 ll lots pk pa pd onp br us40 sp, wPa E a11 a12 a13 a14 a15 a16 a17 zs zd zn zt12 zl zc13 nm, wH8 E a18 sto, wH9 E a19 sg]) H → va_S A s.heap H locs → lv_has ls 9 [(8, .int v44), (6, .int v35), (3, .int r15), (2, .int r11), (0, .ref a0)] → J47 cn49 = some res → W p l e ({ frames := 1, cells := 0, slots := 0, locals := 26 } : Room) s m args below meth c H locs 0 0 Q (F0 m 180 ls []) := by
          intro cn49 H locs ls hP hS hl h
          replace hD : va_D A (List.flatten [wHo E a0 a1 a11 a18 a19 dy fl v45 cn49 gn cs25, wSt E a1 a2 a3 a4 a5 a6 a7 a8 a9 a10 lk la39 ll lots pk pa pd onp br us40 sp, wPa E a11 a12 a13 a14 a15 a16 a17 zs zd zn zt12 zl zc13 nm, wH8 E a18 sto, wH9 E a19 sg]) := gD_same hD rfl
          subst hK_J47
          refine lv_aload_n hx hb dX1_passNight_180 rfl (lv_at hl 4 rfl) ?_
          refine lv_dup hx hb dX1_passNight_181 rfl ?_
          refine va_get (D := E.1) (cl := vwCl) (ci := 1) (v := .int gn) (C := RX1) (T := TX1) (N := 10) hx hb hts hiX1 hown hK hP 0 rfl rfl 8 (by decide) hw11 (fun _ h9 => h9) rfl dX1_passNight_182 ?_
          refine lv_iload_n hx hb dX1_passNight_185 rfl (lv_at hl 2 rfl) ?_
          refine lv_iadd hx hb dX1_passNight_186 ?_
          refine lv_topi (fun v50 e_v50 => ?_)
          replace h := jl_s e_v50 h
          refine va_put (D := E.1) (cl := vwCl) (ci := 1) (v := .int v50) (ty := .int) (C := RX1) (T := TX1) (N := 10) hx hb hts hiX1 tyX1 tyX1_ok nmX1 hown hK hP hD hS 0 rfl rfl 8 (by decide) hw11 (fun _ h9 => h9) rfl (by decide +kernel) rfl rfl (Nat.le_of_ble_eq_true rfl) dX1_passNight_187 (fun H locs hP hD hS => ?_)
          replace hP : va_P E.1 vwCl (List.flatten [wHo E a0 a1 a11 a18 a19 dy fl v45 cn49 v50 cs25, wSt E a1 a2 a3 a4 a5 a6 a7 a8 a9 a10 lk la39 ll lots pk pa pd onp br us40 sp, wPa E a11 a12 a13 a14 a15 a16 a17 zs zd zn zt12 zl zc13 nm, wH8 E a18 sto, wH9 E a19 sg]) H := hP
          replace hD : va_D A (List.flatten [wHo E a0 a1 a11 a18 a19 dy fl v45 cn49 v50 cs25, wSt E a1 a2 a3 a4 a5 a6 a7 a8 a9 a10 lk la39 ll lots pk pa pd onp br us40 sp, wPa E a11 a12 a13 a14 a15 a16 a17 zs zd zn zt12 zl zc13 nm, wH8 E a18 sto, wH9 E a19 sg]) := hD
          refine lv_aload_n hx hb dX1_passNight_190 rfl (lv_at hl 4 rfl) ?_
          refine va_get (D := E.1) (cl := vwCl) (ci := 1) (v := .ref a11) (C := RX1) (T := TX1) (N := 10) hx hb hts hiX1 hown hK hP 0 rfl rfl 1 (by decide) hw0 (fun _ h9 => h9) rfl dX1_passNight_191 ?_
          obtain ⟨zl51, hc52, h⟩ := bd1_s h
          refine g_call1v (As := []) (rest := []) (bs1 := [wHo E a0 a1 a11 a18 a19 dy fl v45 cn49 v50 cs25, wSt E a1 a2 a3 a4 a5 a6 a7 a8 a9 a10 lk la39 ll lots pk pa pd onp br us40 sp, wPa E a11 a12 a13 a14 a15 a16 a17 zs zd zn zt12 zl51 zc13 nm, wH8 E a18 sto, wH9 E a19 sg]) ⟨hx, hb, hml, hown, hts⟩ (kX2_sleepOnce E l a11 a12 a13 a14 a15 a16 a17 zs zd zn zt12 zl zc13 nm zl51 hc52) (cwV 0 hts gX1_passNight_X2_sleepOnce rfl rfl rfl (by decide +kernel) ⟨Nat.le_of_ble_eq_true rfl, Nat.le_of_ble_eq_true rfl⟩) hK hP hD hS hA hG hl 2 0 (ci := 2) rfl rfl rfl rfl rfl rfl rfl rfl (Nat.le_of_ble_eq_true rfl) dX1_passNight_194 (Nat.zero_le _) (Nat.zero_le _) (fun H locs hP hD hS => ?_)
          refine lv_aload_n hx hb dX1_passNight_197 rfl (lv_at hl 4 rfl) ?_
          refine va_get (D := E.1) (cl := vwCl) (ci := 1) (v := .ref a1) (C := RX1) (T := TX1) (N := 10) hx hb hts hiX1 hown hK hP 0 rfl rfl 0 (by decide) hw3 (fun _ h9 => h9) rfl dX1_passNight_198 ?_
          refine lv_aload_n hx hb dX1_passNight_201 rfl (lv_at hl 4 rfl) ?_
          refine va_get (D := E.1) (cl := vwCl) (ci := 1) (v := .int dy) (C := RX1) (T := TX1) (N := 10) hx hb hts hiX1 hown hK hP 0 rfl rfl 4 (by decide) hw1 (fun _ h9 => h9) rfl dX1_passNight_202 ?_
          obtain ⟨la53, sp54, hc55, h⟩ := bd2_s h
          refine g_call1v (As := [.int dy]) (rest := []) (bs1 := [wHo E a0 a1 a11 a18 a19 dy fl v45 cn49 v50 cs25, wSt E a1 a2 a3 a4 a5 a6 a7 a8 a9 a10 lk la53 ll lots pk pa pd onp br us40 sp54, wPa E a11 a12 a13 a14 a15 a16 a17 zs zd zn zt12 zl51 zc13 nm, wH8 E a18 sto, wH9 E a19 sg]) ⟨hx, hb, hml, hown, hts⟩ (kX4_spoil E l a1 a2 a3 a4 a5 a6 a7 a8 a9 a10 lk la39 ll lots pk pa pd onp br us40 sp dy (la53, sp54) hc55) (cwV 1 hts gX1_passNight_X4_spoil rfl rfl rfl (by decide +kernel) ⟨Nat.le_of_ble_eq_true rfl, Nat.le_of_ble_eq_true rfl⟩) hK hP hD hS hA hG hl 1 0 (ci := 4) rfl rfl rfl rfl rfl rfl rfl rfl (Nat.le_of_ble_eq_true rfl) dX1_passNight_205 (Nat.zero_le _) (Nat.zero_le _) (fun H locs hP hD hS => ?_)
          refine lv_aload_n hx hb dX1_passNight_208 rfl (lv_at hl 4 rfl) ?_
          refine va_get (D := E.1) (cl := vwCl) (ci := 1) (v := .ref a1) (C := RX1) (T := TX1) (N := 10) hx hb hts hiX1 hown hK hP 0 rfl rfl 0 (by decide) hw3 (fun _ h9 => h9) rfl dX1_passNight_209 ?_
          obtain ⟨lk56, la57, ll58, lots59, hc60, h⟩ := bd4_s h
          refine g_call1v (As := []) (rest := []) (bs1 := [wHo E a0 a1 a11 a18 a19 dy fl v45 cn49 v50 cs25, wSt E a1 a2 a3 a4 a5 a6 a7 a8 a9 a10 lk56 la57 ll58 lots59 pk pa pd onp br us40 sp54, wPa E a11 a12 a13 a14 a15 a16 a17 zs zd zn zt12 zl51 zc13 nm, wH8 E a18 sto, wH9 E a19 sg]) ⟨hx, hb, hml, hown, hts⟩ (kX4_dropEmptyLots E l a1 a2 a3 a4 a5 a6 a7 a8 a9 a10 lk la53 ll lots pk pa pd onp br us40 sp54 (lk56, la57, ll58, lots59) hc60) (cwV 0 hts gX1_passNight_X4_dropEmptyLots rfl rfl rfl (by decide +kernel) ⟨Nat.le_of_ble_eq_true rfl, Nat.le_of_ble_eq_true rfl⟩) hK hP hD hS hA hG hl 1 0 (ci := 4) rfl rfl rfl rfl rfl rfl rfl rfl (Nat.le_of_ble_eq_true rfl) dX1_passNight_212 (Nat.zero_le _) (Nat.zero_le _) (fun H locs hP hD hS => ?_)
          refine lv_aload_n hx hb dX1_passNight_215 rfl (lv_at hl 4 rfl) ?_
          refine lv_dup hx hb dX1_passNight_216 rfl ?_
          refine va_get (D := E.1) (cl := vwCl) (ci := 1) (v := .int dy) (C := RX1) (T := TX1) (N := 10) hx hb hts hiX1 hown hK hP 0 rfl rfl 4 (by decide) hw1 (fun _ h9 => h9) rfl dX1_passNight_217 ?_
          refine lv_iconst (v := (1 : Int32)) hx hb dX1_passNight_220 (by decide) ?_
          refine lv_iadd hx hb dX1_passNight_221 ?_
          refine lv_topi (fun v61 e_v61 => ?_)
          replace h := jl_s e_v61 h
          refine va_put (D := E.1) (cl := vwCl) (ci := 1) (v := .int v61) (ty := .int) (C := RX1) (T := TX1) (N := 10) hx hb hts hiX1 tyX1 tyX1_ok nmX1 hown hK hP hD hS 0 rfl rfl 4 (by decide) hw1 (fun _ h9 => h9) rfl (by decide +kernel) rfl rfl (Nat.le_of_ble_eq_true rfl) dX1_passNight_222 (fun H locs hP hD hS => ?_)
          replace hP : va_P E.1 vwCl (List.flatten [wHo E a0 a1 a11 a18 a19 v61 fl v45 cn49 v50 cs25, wSt E a1 a2 a3 a4 a5 a6 a7 a8 a9 a10 lk56 la57 ll58 lots59 pk pa pd onp br us40 sp54, wPa E a11 a12 a13 a14 a15 a16 a17 zs zd zn zt12 zl51 zc13 nm, wH8 E a18 sto, wH9 E a19 sg]) H := hP
          replace hD : va_D A (List.flatten [wHo E a0 a1 a11 a18 a19 v61 fl v45 cn49 v50 cs25, wSt E a1 a2 a3 a4 a5 a6 a7 a8 a9 a10 lk56 la57 ll58 lots59 pk pa pd onp br us40 sp54, wPa E a11 a12 a13 a14 a15 a16 a17 zs zd zn zt12 zl51 zc13 nm, wH8 E a18 sto, wH9 E a19 sg]) := hD
          refine lv_iload_n hx hb dX1_passNight_225 rfl (lv_at hl 3 rfl) ?_
          refine lv_if_eq (tgt := 243) hx hb dX1_passNight_226 (by decide) (fun hc62 => ?_) (fun hc62 => ?_)
          · replace h := g_it hc62 h
            refine lv_iconst (v := (0 : Int32)) hx hb dX1_passNight_243 (by decide) ?_
            exact hret ((0 : Int32), lk56, la57, ll58, lots59, us40, sp54, zt12, zl51, zc13, v61, v45, cn49, v50, cs25) _ _ _ _ _ (Option.some.inj h) hP hS rfl rfl dX1_passNight_244
          · replace h := g_if hc62 h
            refine lv_iload hx hb dX1_passNight_229 (lv_at hl 1 rfl) ?_
            refine lv_if_ne (tgt := 243) hx hb dX1_passNight_231 (by decide) (fun hc63 => ?_) (fun hc63 => ?_)
            · replace h := g_if hc63 h
              refine lv_iconst (v := (0 : Int32)) hx hb dX1_passNight_243 (by decide) ?_
              exact hret ((0 : Int32), lk56, la57, ll58, lots59, us40, sp54, zt12, zl51, zc13, v61, v45, cn49, v50, cs25) _ _ _ _ _ (Option.some.inj h) hP hS rfl rfl dX1_passNight_244
            · replace h := g_it hc63 h
              refine lv_iload hx hb dX1_passNight_234 (lv_at hl 0 rfl) ?_
              refine lv_if_ne (tgt := 243) hx hb dX1_passNight_236 (by decide) (fun hc64 => ?_) (fun hc64 => ?_)
              · replace h := g_if hc64 h
                refine lv_iconst (v := (0 : Int32)) hx hb dX1_passNight_243 (by decide) ?_
                exact hret ((0 : Int32), lk56, la57, ll58, lots59, us40, sp54, zt12, zl51, zc13, v61, v45, cn49, v50, cs25) _ _ _ _ _ (Option.some.inj h) hP hS rfl rfl dX1_passNight_244
              · replace h := g_it hc64 h
                refine lv_iconst (v := (1 : Int32)) hx hb dX1_passNight_239 (by decide) ?_
                refine lv_goto (tgt := 244) hx hb dX1_passNight_240 (by decide) ?_
                exact hret ((1 : Int32), lk56, la57, ll58, lots59, us40, sp54, zt12, zl51, zc13, v61, v45, cn49, v50, cs25) _ _ _ _ _ (Option.some.inj h) hP hS rfl rfl dX1_passNight_244
        refine lv_if_eq (tgt := 180) hx hb dX1_passNight_167 (by decide) (fun hc46 => ?_) (fun hc46 => ?_)
        · replace h := g_it hc46 h
          exact hJ_J47 cn _ _ _ hP hS (lv_sub hl [0, 1, 2, 3, 4] rfl) h
        · replace h := g_if hc46 h
          refine lv_aload_n hx hb dX1_passNight_170 rfl (lv_at hl 4 rfl) ?_
          refine lv_dup hx hb dX1_passNight_171 rfl ?_
          refine va_get (D := E.1) (cl := vwCl) (ci := 1) (v := .int cn) (C := RX1) (T := TX1) (N := 10) hx hb hts hiX1 hown hK hP 0 rfl rfl 7 (by decide) hw10 (fun _ h9 => h9) rfl dX1_passNight_172 ?_
          refine lv_iconst (v := (1 : Int32)) hx hb dX1_passNight_175 (by decide) ?_
          refine lv_iadd hx hb dX1_passNight_176 ?_
          refine lv_topi (fun v48 e_v48 => ?_)
          replace h := jl_s e_v48 h
          refine va_put (D := E.1) (cl := vwCl) (ci := 1) (v := .int v48) (ty := .int) (C := RX1) (T := TX1) (N := 10) hx hb hts hiX1 tyX1 tyX1_ok nmX1 hown hK hP hD hS 0 rfl rfl 7 (by decide) hw10 (fun _ h9 => h9) rfl (by decide +kernel) rfl rfl (Nat.le_of_ble_eq_true rfl) dX1_passNight_177 (fun H locs hP hD hS => ?_)
          replace hP : va_P E.1 vwCl (List.flatten [wHo E a0 a1 a11 a18 a19 dy fl v45 v48 gn cs25, wSt E a1 a2 a3 a4 a5 a6 a7 a8 a9 a10 lk la39 ll lots pk pa pd onp br us40 sp, wPa E a11 a12 a13 a14 a15 a16 a17 zs zd zn zt12 zl zc13 nm, wH8 E a18 sto, wH9 E a19 sg]) H := hP
          replace hD : va_D A (List.flatten [wHo E a0 a1 a11 a18 a19 dy fl v45 v48 gn cs25, wSt E a1 a2 a3 a4 a5 a6 a7 a8 a9 a10 lk la39 ll lots pk pa pd onp br us40 sp, wPa E a11 a12 a13 a14 a15 a16 a17 zs zd zn zt12 zl zc13 nm, wH8 E a18 sto, wH9 E a19 sg]) := hD
          exact hJ_J47 v48 _ _ _ hP hS (lv_sub hl [0, 1, 2, 3, 4] rfl) h
      refine lv_icmp_ge (tgt := 151) hx hb dX1_passNight_144 (by decide) (fun hc42 => ?_) (fun hc42 => ?_)
      · replace h := g_it hc42 h
        refine lv_iconst (v := (0 : Int32)) hx hb dX1_passNight_151 (by decide) ?_
        exact hJ_J43 (0 : Int32) _ _ _ hP hS (lv_sub hl [1, 4, 5, 7] rfl) h
      · replace h := g_if hc42 h
        refine lv_iconst (v := (1 : Int32)) hx hb dX1_passNight_147 (by decide) ?_
        refine lv_goto (tgt := 152) hx hb dX1_passNight_148 (by decide) ?_
        exact hJ_J43 (1 : Int32) _ _ _ hP hS (lv_sub hl [1, 4, 5, 7] rfl) h
    refine lv_icmp_ge (tgt := 87) hx hb dX1_passNight_74 (by decide) (fun hc22 => ?_) (fun hc22 => ?_)
    · replace h := g_it hc22 h
      exact hJ_J23 cs _ _ _ hP hS (lv_sub hl [0, 1, 2, 3, 4] rfl) h
    · replace h := g_if hc22 h
      refine lv_aload_n hx hb dX1_passNight_77 rfl (lv_at hl 4 rfl) ?_
      refine lv_dup hx hb dX1_passNight_78 rfl ?_
      refine va_get (D := E.1) (cl := vwCl) (ci := 1) (v := .int cs) (C := RX1) (T := TX1) (N := 10) hx hb hts hiX1 hown hK hP 0 rfl rfl 9 (by decide) hw4 (fun _ h9 => h9) rfl dX1_passNight_79 ?_
      refine lv_iconst (v := (1 : Int32)) hx hb dX1_passNight_82 (by decide) ?_
      refine lv_iadd hx hb dX1_passNight_83 ?_
      refine lv_topi (fun v24 e_v24 => ?_)
      replace h := jl_s e_v24 h
      refine va_put (D := E.1) (cl := vwCl) (ci := 1) (v := .int v24) (ty := .int) (C := RX1) (T := TX1) (N := 10) hx hb hts hiX1 tyX1 tyX1_ok nmX1 hown hK hP hD hS 0 rfl rfl 9 (by decide) hw4 (fun _ h9 => h9) rfl (by decide +kernel) rfl rfl (Nat.le_of_ble_eq_true rfl) dX1_passNight_84 (fun H locs hP hD hS => ?_)
      replace hP : va_P E.1 vwCl (List.flatten [wHo E a0 a1 a11 a18 a19 dy fl hu cn gn v24, wSt E a1 a2 a3 a4 a5 a6 a7 a8 a9 a10 lk la ll lots pk pa pd onp br us sp, wPa E a11 a12 a13 a14 a15 a16 a17 zs zd zn zt12 zl zc13 nm, wH8 E a18 sto, wH9 E a19 sg]) H := hP
      replace hD : va_D A (List.flatten [wHo E a0 a1 a11 a18 a19 dy fl hu cn gn v24, wSt E a1 a2 a3 a4 a5 a6 a7 a8 a9 a10 lk la ll lots pk pa pd onp br us sp, wPa E a11 a12 a13 a14 a15 a16 a17 zs zd zn zt12 zl zc13 nm, wH8 E a18 sto, wH9 E a19 sg]) := hD
      exact hJ_J23 v24 _ _ _ hP hS (lv_sub hl [0, 1, 2, 3, 4] rfl) h
  refine lv_if_ne (tgt := 16) hx hb dX1_passNight_6 (by decide) (fun hc3 => ?_) (fun hc3 => ?_)
  · replace h := g_if hc3 h
    exact hJ_J4 zt _ _ _ hP hS (lv_sub hl [0, 1] rfl) h
  · replace h := g_it hc3 h
    refine lv_aload_n hx hb dX1_passNight_9 rfl (lv_at hl 1 rfl) ?_
    refine va_get (D := E.1) (cl := vwCl) (ci := 1) (v := .ref a11) (C := RX1) (T := TX1) (N := 10) hx hb hts hiX1 hown hK hP 0 rfl rfl 1 (by decide) hw0 (fun _ h9 => h9) rfl dX1_passNight_10 ?_
    obtain ⟨zt5, hc6, h⟩ := bd1_s h
    refine g_call1v (As := []) (rest := []) (bs1 := [wHo E a0 a1 a11 a18 a19 dy fl hu cn gn cs, wSt E a1 a2 a3 a4 a5 a6 a7 a8 a9 a10 lk la ll lots pk pa pd onp br us sp, wPa E a11 a12 a13 a14 a15 a16 a17 zs zd zn zt5 zl zc nm, wH8 E a18 sto, wH9 E a19 sg]) ⟨hx, hb, hml, hown, hts⟩ (kX2_leave E l a11 a12 a13 a14 a15 a16 a17 zs zd zn zt zl zc nm zt5 hc6) (cwV 0 hts gX1_passNight_X2_leave rfl rfl rfl (by decide +kernel) ⟨Nat.le_of_ble_eq_true rfl, Nat.le_of_ble_eq_true rfl⟩) hK hP hD hS hA hG hl 2 0 (ci := 2) rfl rfl rfl rfl rfl rfl rfl rfl (Nat.le_of_ble_eq_true rfl) dX1_passNight_13 (Nat.zero_le _) (Nat.zero_le _) (fun H locs hP hD hS => ?_)
    exact hJ_J4 zt5 _ _ _ hP hS (lv_sub hl [0, 1] rfl) h
set_option maxHeartbeats 4000000 in
set_option maxRecDepth 100000 in
theorem kX1_dayWhenGone (E : gE) (l : Launch) (a0 a1 a2 a3 a4 a5 a6 a7 a8 a9 a10 a11 a12 a13 a14 a15 a16 a17 a18 a19 : Nat) (lk : Nat → Int32) (la : Nat → Int32) (ll : Nat → Int32) (lots : Int32) (pk : Nat → Int32) (pa : Nat → Int32) (pd : Nat → Int32) (onp : Int32) (br : Nat → Int32) (us : Nat → Int32) (sp : Nat → Int32) (zs : Nat → Int32) (zd : Nat → Int32) (zn : Nat → Int32) (zt : Nat → Int32) (zl : Nat → Int32) (zc : Nat → Int32) (nm : Int32) (sto : Nat → Int32) (sg : Nat → Int32) (dy : Int32) (fl : Int32) (hu : Int32) (cn : Int32) (gn : Int32) (cs : Int32) (p1 : Int32) (res : Int32 × (Nat → Int32) × (Nat → Int32) × (Nat → Int32) × Int32 × (Nat → Int32) × (Nat → Int32) × (Nat → Int32) × (Nat → Int32) × (Nat → Int32) × Int32 × Int32 × Int32 × Int32 × Int32) (h : fX1_dayWhenGone lk la ll lots us sp zs zd zn zt zl zc nm sto sg dy hu cn gn cs p1 = some res) : gMI E l yX1_dayWhenGone wsX1_dayWhenGone ({ frames := 2, cells := 0, slots := 0, locals := 54 } : Room) [.ref a0, .int p1] (List.flatten [wHo E a0 a1 a11 a18 a19 dy fl hu cn gn cs, wSt E a1 a2 a3 a4 a5 a6 a7 a8 a9 a10 lk la ll lots pk pa pd onp br us sp, wPa E a11 a12 a13 a14 a15 a16 a17 zs zd zn zt zl zc nm, wH8 E a18 sto, wH9 E a19 sg]) (fun res : Int32 × (Nat → Int32) × (Nat → Int32) × (Nat → Int32) × Int32 × (Nat → Int32) × (Nat → Int32) × (Nat → Int32) × (Nat → Int32) × (Nat → Int32) × Int32 × Int32 × Int32 × Int32 × Int32 => (List.flatten [wHo E a0 a1 a11 a18 a19 res.2.2.2.2.2.2.2.2.2.2.1 fl res.2.2.2.2.2.2.2.2.2.2.2.1 res.2.2.2.2.2.2.2.2.2.2.2.2.1 res.2.2.2.2.2.2.2.2.2.2.2.2.2.1 res.2.2.2.2.2.2.2.2.2.2.2.2.2.2, wSt E a1 a2 a3 a4 a5 a6 a7 a8 a9 a10 res.2.1 res.2.2.1 res.2.2.2.1 res.2.2.2.2.1 pk pa pd onp br res.2.2.2.2.2.1 res.2.2.2.2.2.2.1, wPa E a11 a12 a13 a14 a15 a16 a17 zs zd zn res.2.2.2.2.2.2.2.1 res.2.2.2.2.2.2.2.2.1 res.2.2.2.2.2.2.2.2.2.1 nm, wH8 E a18 sto, wH9 E a19 sg])) (fun res => res.1) res := by
  refine g_entI (cc := cX1_dayWhenGone) (maxL := 3) (by decide) rfl (Nat.le_of_ble_eq_true rfl) ?_
  intro p e s m args below meth c A Q ls hx hb hml hown hts hK hP hD hS hA hG hret hl
  unfold fX1_dayWhenGone at h
  replace hl : lv_has ls 3 [(0, .ref a0), (1, .int p1)] := hl
  have hiX1 : ∀ w ∈ wsX10, w ∈ wsX1_dayWhenGone := by decide +kernel
  have hw0 := hts (.fieldLink RX1 21 "GlacierHut$Hut" "parties" "LGlacierHut$Parties;") (by decide +kernel)
  have hw1 := hts (.fieldLink RX1 49 "GlacierHut$Hut" "day" "I") (by decide +kernel)
  refine lv_iconst (v := (0 : Int32)) hx hb dX1_dayWhenGone_0 (by decide) ?_
  refine lv_istore_n (lv' := [(2, .int (0 : Int32)), (0, .ref a0), (1, .int p1)]) hx hb dX1_dayWhenGone_1 rfl hl (by decide) rfl (fun ls hl => ?_)
  refine gl15_e h (fun S_rec1 hS_rec1 h => ?_)
  have hL_rec1 : ∀ (nF : Nat) (v2 : Int32) (lk3 : Nat → Int32) (la4 : Nat → Int32) (ll5 : Nat → Int32) (lots6 : Int32) (us7 : Nat → Int32) (sp8 : Nat → Int32) (zt9 : Nat → Int32) (zl10 : Nat → Int32) (zc11 : Nat → Int32) (dy12 : Int32) (hu13 : Int32) (cn14 : Int32) (gn15 : Int32) (cs16 : Int32) (H : Heap) (locs : List Loc) (ls : Array Slot), va_P E.1 vwCl (List.flatten [wHo E a0 a1 a11 a18 a19 dy12 fl hu13 cn14 gn15 cs16, wSt E a1 a2 a3 a4 a5 a6 a7 a8 a9 a10 lk3 la4 ll5 lots6 pk pa pd onp br us7 sp8, wPa E a11 a12 a13 a14 a15 a16 a17 zs zd zn zt9 zl10 zc11 nm, wH8 E a18 sto, wH9 E a19 sg]) H → va_S A s.heap H locs → lv_has ls 3 [(2, .int v2), (0, .ref a0), (1, .int p1)] → gl15 S_rec1 nF v2 lk3 la4 ll5 lots6 us7 sp8 zt9 zl10 zc11 dy12 hu13 cn14 gn15 cs16 = some res → W p l e ({ frames := 2, cells := 0, slots := 0, locals := 54 } : Room) s m args below meth c H locs 0 0 Q (F0 m 2 ls []) := by
    intro nF
    induction nF with
    | zero => intro v2 lk3 la4 ll5 lots6 us7 sp8 zt9 zl10 zc11 dy12 hu13 cn14 gn15 cs16 H locs ls hP hS hl h; exact gl15_z h
    | succ nF ih_rec1 =>
      intro v2 lk3 la4 ll5 lots6 us7 sp8 zt9 zl10 zc11 dy12 hu13 cn14 gn15 cs16 H locs ls hP hS hl h
      replace hD : va_D A (List.flatten [wHo E a0 a1 a11 a18 a19 dy12 fl hu13 cn14 gn15 cs16, wSt E a1 a2 a3 a4 a5 a6 a7 a8 a9 a10 lk3 la4 ll5 lots6 pk pa pd onp br us7 sp8, wPa E a11 a12 a13 a14 a15 a16 a17 zs zd zn zt9 zl10 zc11 nm, wH8 E a18 sto, wH9 E a19 sg]) := gD_same hD rfl
      replace h : S_rec1 (gl15 S_rec1 nF) v2 lk3 la4 ll5 lots6 us7 sp8 zt9 zl10 zc11 dy12 hu13 cn14 gn15 cs16 = some res := h
      generalize gl15 S_rec1 nF = rec1 at h ih_rec1
      subst hS_rec1
      unfold sX1_dayWhenGone_rec1 at h
      refine lv_iload_n hx hb dX1_dayWhenGone_2 rfl (lv_at hl 0 rfl) ?_
      refine lv_sipush (v := (1000 : Int32)) hx hb dX1_dayWhenGone_3 (by decide) ?_
      refine mrg_e h (fun J18 hK_J18 h => ?_)
      have hJ_J18 : ∀ (_ : Unit) (H : Heap) (locs : List Loc) (ls : Array Slot), va_P E.1 vwCl (List.flatten [wHo E a0 a1 a11 a18 a19 dy12 fl hu13 cn14 gn15 cs16, wSt E a1 a2 a3 a4 a5 a6 a7 a8 a9 a10 lk3 la4 ll5 lots6 pk pa pd onp br us7 sp8, wPa E a11 a12 a13 a14 a15 a16 a17 zs zd zn zt9 zl10 zc11 nm, wH8 E a18 sto, wH9 E a19 sg]) H → va_S A s.heap H locs → lv_has ls 3 [(0, .ref a0), (1, .int p1)] → J18 () = some res → W p l e ({ frames := 2, cells := 0, slots := 0, locals := 54 } : Room) s m args below meth c H locs 0 0 Q (F0 m 31 ls []) := by
        intro _ H locs ls hP hS hl h
        replace hD : va_D A (List.flatten [wHo E a0 a1 a11 a18 a19 dy12 fl hu13 cn14 gn15 cs16, wSt E a1 a2 a3 a4 a5 a6 a7 a8 a9 a10 lk3 la4 ll5 lots6 pk pa pd onp br us7 sp8, wPa E a11 a12 a13 a14 a15 a16 a17 zs zd zn zt9 zl10 zc11 nm, wH8 E a18 sto, wH9 E a19 sg]) := gD_same hD rfl
        subst hK_J18
        refine lv_aload_n hx hb dX1_dayWhenGone_31 rfl (lv_at hl 0 rfl) ?_
        refine va_get (D := E.1) (cl := vwCl) (ci := 1) (v := .ref a11) (C := RX1) (T := TX1) (N := 10) hx hb hts hiX1 hown hK hP 0 rfl rfl 1 (by decide) hw0 (fun _ h9 => h9) rfl dX1_dayWhenGone_32 ?_
        refine lv_iload_n hx hb dX1_dayWhenGone_35 rfl (lv_at hl 1 rfl) ?_
        refine lv_iconst (v := (2 : Int32)) hx hb dX1_dayWhenGone_36 (by decide) ?_
        obtain ⟨r39, hc40, h⟩ := bd1_s h
        refine g_callRi (As := [.int p1, .int (2 : Int32)]) (rest := []) (r := r39) ⟨hx, hb, hml, hown, hts⟩ (kX2_hasStatus E l a11 a12 a13 a14 a15 a16 a17 zs zd zn zt9 zl10 zc11 nm p1 (2 : Int32) r39 hc40) (cwV 2 hts gX1_dayWhenGone_X2_hasStatus rfl rfl rfl (by decide +kernel) ⟨Nat.le_of_ble_eq_true rfl, Nat.le_of_ble_eq_true rfl⟩) hK hP hD hS hA hG hl [11, 12, 13, 14, 15, 16, 17] 11 (by decide) rfl (ci := 2) rfl rfl rfl rfl rfl rfl rfl (Nat.le_of_ble_eq_true rfl) dX1_dayWhenGone_37 (Nat.zero_le _) (Nat.zero_le _) (fun H locs hP hD hS => ?_)
        refine lv_if_eq (tgt := 52) hx hb dX1_dayWhenGone_40 (by decide) (fun hc41 => ?_) (fun hc41 => ?_)
        · replace h := g_it hc41 h
          refine lv_bipush (v := (-4 : Int32)) hx hb dX1_dayWhenGone_52 (by decide) ?_
          exact hret ((-4 : Int32), lk3, la4, ll5, lots6, us7, sp8, zt9, zl10, zc11, dy12, hu13, cn14, gn15, cs16) _ _ _ _ _ (Option.some.inj h) hP hS rfl dX1_dayWhenGone_54
        · replace h := g_if hc41 h
          refine lv_aload_n hx hb dX1_dayWhenGone_43 rfl (lv_at hl 0 rfl) ?_
          refine va_get (D := E.1) (cl := vwCl) (ci := 1) (v := .int dy12) (C := RX1) (T := TX1) (N := 10) hx hb hts hiX1 hown hK hP 0 rfl rfl 4 (by decide) hw1 (fun _ h9 => h9) rfl dX1_dayWhenGone_44 ?_
          refine lv_iconst (v := (1 : Int32)) hx hb dX1_dayWhenGone_47 (by decide) ?_
          refine lv_isub hx hb dX1_dayWhenGone_48 ?_
          refine lv_goto (tgt := 54) hx hb dX1_dayWhenGone_49 (by decide) ?_
          exact hret ((dy12 - (1 : Int32)), lk3, la4, ll5, lots6, us7, sp8, zt9, zl10, zc11, dy12, hu13, cn14, gn15, cs16) _ _ _ _ _ (Option.some.inj h) hP hS rfl dX1_dayWhenGone_54
      refine lv_icmp_ge (tgt := 31) hx hb dX1_dayWhenGone_6 (by decide) (fun hc17 => ?_) (fun hc17 => ?_)
      · replace h := g_it hc17 h
        exact hJ_J18 () _ _ _ hP hS (lv_sub hl [1, 2] rfl) h
      · replace h := g_if hc17 h
        refine lv_aload_n hx hb dX1_dayWhenGone_9 rfl (lv_at hl 1 rfl) ?_
        refine va_get (D := E.1) (cl := vwCl) (ci := 1) (v := .ref a11) (C := RX1) (T := TX1) (N := 10) hx hb hts hiX1 hown hK hP 0 rfl rfl 1 (by decide) hw0 (fun _ h9 => h9) rfl dX1_dayWhenGone_10 ?_
        refine lv_iload_n hx hb dX1_dayWhenGone_13 rfl (lv_at hl 2 rfl) ?_
        obtain ⟨r19, hc20, h⟩ := bd1_s h
        refine g_callRi (As := [.int p1]) (rest := []) (r := r19) ⟨hx, hb, hml, hown, hts⟩ (kX2_isAwaited E l a11 a12 a13 a14 a15 a16 a17 zs zd zn zt9 zl10 zc11 nm p1 r19 hc20) (cwV 1 hts gX1_dayWhenGone_X2_isAwaited rfl rfl rfl (by decide +kernel) ⟨Nat.le_of_ble_eq_true rfl, Nat.le_of_ble_eq_true rfl⟩) hK hP hD hS hA hG hl [11, 12, 13, 14, 15, 16, 17] 11 (by decide) rfl (ci := 2) rfl rfl rfl rfl rfl rfl rfl (Nat.le_of_ble_eq_true rfl) dX1_dayWhenGone_14 (Nat.zero_le _) (Nat.zero_le _) (fun H locs hP hD hS => ?_)
        refine lv_if_eq (tgt := 31) hx hb dX1_dayWhenGone_17 (by decide) (fun hc21 => ?_) (fun hc21 => ?_)
        · replace h := g_it hc21 h
          exact hJ_J18 () _ _ _ hP hS (lv_sub hl [1, 2] rfl) h
        · replace h := g_if hc21 h
          refine lv_aload_n hx hb dX1_dayWhenGone_20 rfl (lv_at hl 1 rfl) ?_
          obtain ⟨r22, lk23, la24, ll25, lots26, us27, sp28, zt29, zl30, zc31, dy32, hu33, cn34, gn35, cs36, hc37, h⟩ := bd15_s h
          refine g_callBi (As := []) (rest := []) (r := r22) (bs1 := [wHo E a0 a1 a11 a18 a19 dy32 fl hu33 cn34 gn35 cs36, wSt E a1 a2 a3 a4 a5 a6 a7 a8 a9 a10 lk23 la24 ll25 lots26 pk pa pd onp br us27 sp28, wPa E a11 a12 a13 a14 a15 a16 a17 zs zd zn zt29 zl30 zc31 nm, wH8 E a18 sto, wH9 E a19 sg]) ⟨hx, hb, hml, hown, hts⟩ (kX1_passNight E l a0 a1 a2 a3 a4 a5 a6 a7 a8 a9 a10 a11 a12 a13 a14 a15 a16 a17 a18 a19 lk3 la4 ll5 lots6 pk pa pd onp br us7 sp8 zs zd zn zt9 zl10 zc11 nm sto sg dy12 fl hu13 cn14 gn15 cs16 (r22, lk23, la24, ll25, lots26, us27, sp28, zt29, zl30, zc31, dy32, hu33, cn34, gn35, cs36) hc37) (cwV 0 hts gX1_dayWhenGone_X1_passNight rfl rfl rfl (by decide +kernel) ⟨Nat.le_of_ble_eq_true rfl, Nat.le_of_ble_eq_true rfl⟩) hK hP hD hS hA hG hl [0, 1, 2, 3, 4] 0 0 (by decide) rfl (ci := 1) rfl rfl rfl rfl rfl rfl rfl rfl rfl rfl (Nat.le_of_ble_eq_true rfl) dX1_dayWhenGone_21 (Nat.zero_le _) (Nat.zero_le _) (fun H locs hP hD hS => ?_)
          refine lv_pop hx hb dX1_dayWhenGone_24 rfl ?_
          obtain ⟨v38, e_v38⟩ : ∃ y : Int32, y = (v2 + (1 : Int32)) := ⟨_, rfl⟩
          replace h := jl_s e_v38 h
          refine lv_iinc (v := v38) (lv' := [(2, .int v38), (0, .ref a0), (1, .int p1)]) hx hb dX1_dayWhenGone_25 hl (k := 0) rfl (by rw [e_v38]; rfl) (by decide) rfl (fun ls hl => ?_)
          refine lv_goto (tgt := 2) hx hb dX1_dayWhenGone_28 (by decide) ?_
          exact ih_rec1 v38 lk23 la24 ll25 lots26 us27 sp28 zt29 zl30 zc31 dy32 hu33 cn34 gn35 cs36 _ _ _ hP hS (lv_sub hl [0, 1, 2] rfl) h
  exact hL_rec1 gFU (0 : Int32) lk la ll lots us sp zt zl zc dy hu cn gn cs _ _ _ hP hS (lv_sub hl [0, 1, 2] rfl) h
set_option maxHeartbeats 4000000 in
set_option maxRecDepth 100000 in
theorem kX1_dayWhenOut (E : gE) (l : Launch) (a0 a1 a2 a3 a4 a5 a6 a7 a8 a9 a10 a11 a12 a13 a14 a15 a16 a17 a18 a19 : Nat) (lk : Nat → Int32) (la : Nat → Int32) (ll : Nat → Int32) (lots : Int32) (pk : Nat → Int32) (pa : Nat → Int32) (pd : Nat → Int32) (onp : Int32) (br : Nat → Int32) (us : Nat → Int32) (sp : Nat → Int32) (zs : Nat → Int32) (zd : Nat → Int32) (zn : Nat → Int32) (zt : Nat → Int32) (zl : Nat → Int32) (zc : Nat → Int32) (nm : Int32) (sto : Nat → Int32) (sg : Nat → Int32) (dy : Int32) (fl : Int32) (hu : Int32) (cn : Int32) (gn : Int32) (cs : Int32) (p1 : Int32) (res : Int32 × (Nat → Int32) × (Nat → Int32) × (Nat → Int32) × Int32 × (Nat → Int32) × (Nat → Int32) × (Nat → Int32) × (Nat → Int32) × (Nat → Int32) × Int32 × Int32 × Int32 × Int32 × Int32) (h : fX1_dayWhenOut lk la ll lots us sp zs zd zn zt zl zc nm sto sg dy hu cn gn cs p1 = some res) : gMI E l yX1_dayWhenOut wsX1_dayWhenOut ({ frames := 2, cells := 0, slots := 0, locals := 54 } : Room) [.ref a0, .int p1] (List.flatten [wHo E a0 a1 a11 a18 a19 dy fl hu cn gn cs, wSt E a1 a2 a3 a4 a5 a6 a7 a8 a9 a10 lk la ll lots pk pa pd onp br us sp, wPa E a11 a12 a13 a14 a15 a16 a17 zs zd zn zt zl zc nm, wH8 E a18 sto, wH9 E a19 sg]) (fun res : Int32 × (Nat → Int32) × (Nat → Int32) × (Nat → Int32) × Int32 × (Nat → Int32) × (Nat → Int32) × (Nat → Int32) × (Nat → Int32) × (Nat → Int32) × Int32 × Int32 × Int32 × Int32 × Int32 => (List.flatten [wHo E a0 a1 a11 a18 a19 res.2.2.2.2.2.2.2.2.2.2.1 fl res.2.2.2.2.2.2.2.2.2.2.2.1 res.2.2.2.2.2.2.2.2.2.2.2.2.1 res.2.2.2.2.2.2.2.2.2.2.2.2.2.1 res.2.2.2.2.2.2.2.2.2.2.2.2.2.2, wSt E a1 a2 a3 a4 a5 a6 a7 a8 a9 a10 res.2.1 res.2.2.1 res.2.2.2.1 res.2.2.2.2.1 pk pa pd onp br res.2.2.2.2.2.1 res.2.2.2.2.2.2.1, wPa E a11 a12 a13 a14 a15 a16 a17 zs zd zn res.2.2.2.2.2.2.2.1 res.2.2.2.2.2.2.2.2.1 res.2.2.2.2.2.2.2.2.2.1 nm, wH8 E a18 sto, wH9 E a19 sg])) (fun res => res.1) res := by
  refine g_entI (cc := cX1_dayWhenOut) (maxL := 3) (by decide) rfl (Nat.le_of_ble_eq_true rfl) ?_
  intro p e s m args below meth c A Q ls hx hb hml hown hts hK hP hD hS hA hG hret hl
  unfold fX1_dayWhenOut at h
  replace hl : lv_has ls 3 [(0, .ref a0), (1, .int p1)] := hl
  have hiX1 : ∀ w ∈ wsX10, w ∈ wsX1_dayWhenOut := by decide +kernel
  have hw0 := hts (.fieldLink RX1 21 "GlacierHut$Hut" "parties" "LGlacierHut$Parties;") (by decide +kernel)
  have hw1 := hts (.fieldLink RX1 12 "GlacierHut$Hut" "stores" "LGlacierHut$Stores;") (by decide +kernel)
  have hw2 := hts (.fieldLink RX1 49 "GlacierHut$Hut" "day" "I") (by decide +kernel)
  refine lv_iconst (v := (0 : Int32)) hx hb dX1_dayWhenOut_0 (by decide) ?_
  refine lv_istore_n (lv' := [(2, .int (0 : Int32)), (0, .ref a0), (1, .int p1)]) hx hb dX1_dayWhenOut_1 rfl hl (by decide) rfl (fun ls hl => ?_)
  refine gl15_e h (fun S_rec1 hS_rec1 h => ?_)
  have hL_rec1 : ∀ (nF : Nat) (v2 : Int32) (lk3 : Nat → Int32) (la4 : Nat → Int32) (ll5 : Nat → Int32) (lots6 : Int32) (us7 : Nat → Int32) (sp8 : Nat → Int32) (zt9 : Nat → Int32) (zl10 : Nat → Int32) (zc11 : Nat → Int32) (dy12 : Int32) (hu13 : Int32) (cn14 : Int32) (gn15 : Int32) (cs16 : Int32) (H : Heap) (locs : List Loc) (ls : Array Slot), va_P E.1 vwCl (List.flatten [wHo E a0 a1 a11 a18 a19 dy12 fl hu13 cn14 gn15 cs16, wSt E a1 a2 a3 a4 a5 a6 a7 a8 a9 a10 lk3 la4 ll5 lots6 pk pa pd onp br us7 sp8, wPa E a11 a12 a13 a14 a15 a16 a17 zs zd zn zt9 zl10 zc11 nm, wH8 E a18 sto, wH9 E a19 sg]) H → va_S A s.heap H locs → lv_has ls 3 [(2, .int v2), (0, .ref a0), (1, .int p1)] → gl15 S_rec1 nF v2 lk3 la4 ll5 lots6 us7 sp8 zt9 zl10 zc11 dy12 hu13 cn14 gn15 cs16 = some res → W p l e ({ frames := 2, cells := 0, slots := 0, locals := 54 } : Room) s m args below meth c H locs 0 0 Q (F0 m 2 ls []) := by
    intro nF
    induction nF with
    | zero => intro v2 lk3 la4 ll5 lots6 us7 sp8 zt9 zl10 zc11 dy12 hu13 cn14 gn15 cs16 H locs ls hP hS hl h; exact gl15_z h
    | succ nF ih_rec1 =>
      intro v2 lk3 la4 ll5 lots6 us7 sp8 zt9 zl10 zc11 dy12 hu13 cn14 gn15 cs16 H locs ls hP hS hl h
      replace hD : va_D A (List.flatten [wHo E a0 a1 a11 a18 a19 dy12 fl hu13 cn14 gn15 cs16, wSt E a1 a2 a3 a4 a5 a6 a7 a8 a9 a10 lk3 la4 ll5 lots6 pk pa pd onp br us7 sp8, wPa E a11 a12 a13 a14 a15 a16 a17 zs zd zn zt9 zl10 zc11 nm, wH8 E a18 sto, wH9 E a19 sg]) := gD_same hD rfl
      replace h : S_rec1 (gl15 S_rec1 nF) v2 lk3 la4 ll5 lots6 us7 sp8 zt9 zl10 zc11 dy12 hu13 cn14 gn15 cs16 = some res := h
      generalize gl15 S_rec1 nF = rec1 at h ih_rec1
      subst hS_rec1
      unfold sX1_dayWhenOut_rec1 at h
      refine lv_iload_n hx hb dX1_dayWhenOut_2 rfl (lv_at hl 0 rfl) ?_
      refine lv_sipush (v := (1000 : Int32)) hx hb dX1_dayWhenOut_3 (by decide) ?_
      refine lv_icmp_ge (tgt := 48) hx hb dX1_dayWhenOut_6 (by decide) (fun hc17 => ?_) (fun hc17 => ?_)
      · replace h := g_it hc17 h
        refine lv_bipush (v := (-4 : Int32)) hx hb dX1_dayWhenOut_48 (by decide) ?_
        exact hret ((-4 : Int32), lk3, la4, ll5, lots6, us7, sp8, zt9, zl10, zc11, dy12, hu13, cn14, gn15, cs16) _ _ _ _ _ (Option.some.inj h) hP hS rfl dX1_dayWhenOut_50
      · replace h := g_if hc17 h
        refine lv_aload_n hx hb dX1_dayWhenOut_9 rfl (lv_at hl 1 rfl) ?_
        refine va_get (D := E.1) (cl := vwCl) (ci := 1) (v := .ref a11) (C := RX1) (T := TX1) (N := 10) hx hb hts hiX1 hown hK hP 0 rfl rfl 1 (by decide) hw0 (fun _ h9 => h9) rfl dX1_dayWhenOut_10 ?_
        obtain ⟨r18, hc19, h⟩ := bd1_s h
        refine g_callRi (As := []) (rest := []) (r := r18) ⟨hx, hb, hml, hown, hts⟩ (kX2_anyAwaited E l a11 a12 a13 a14 a15 a16 a17 zs zd zn zt9 zl10 zc11 nm r18 hc19) (cwV 0 hts gX1_dayWhenOut_X2_anyAwaited rfl rfl rfl (by decide +kernel) ⟨Nat.le_of_ble_eq_true rfl, Nat.le_of_ble_eq_true rfl⟩) hK hP hD hS hA hG hl [11, 12, 13, 14, 15, 16, 17] 11 (by decide) rfl (ci := 2) rfl rfl rfl rfl rfl rfl rfl (Nat.le_of_ble_eq_true rfl) dX1_dayWhenOut_13 (Nat.zero_le _) (Nat.zero_le _) (fun H locs hP hD hS => ?_)
        refine lv_if_eq (tgt := 48) hx hb dX1_dayWhenOut_16 (by decide) (fun hc20 => ?_) (fun hc20 => ?_)
        · replace h := g_it hc20 h
          refine lv_bipush (v := (-4 : Int32)) hx hb dX1_dayWhenOut_48 (by decide) ?_
          exact hret ((-4 : Int32), lk3, la4, ll5, lots6, us7, sp8, zt9, zl10, zc11, dy12, hu13, cn14, gn15, cs16) _ _ _ _ _ (Option.some.inj h) hP hS rfl dX1_dayWhenOut_50
        · replace h := g_if hc20 h
          refine lv_aload_n hx hb dX1_dayWhenOut_19 rfl (lv_at hl 1 rfl) ?_
          obtain ⟨r21, lk22, la23, ll24, lots25, us26, sp27, zt28, zl29, zc30, dy31, hu32, cn33, gn34, cs35, hc36, h⟩ := bd15_s h
          refine g_callBi (As := []) (rest := []) (r := r21) (bs1 := [wHo E a0 a1 a11 a18 a19 dy31 fl hu32 cn33 gn34 cs35, wSt E a1 a2 a3 a4 a5 a6 a7 a8 a9 a10 lk22 la23 ll24 lots25 pk pa pd onp br us26 sp27, wPa E a11 a12 a13 a14 a15 a16 a17 zs zd zn zt28 zl29 zc30 nm, wH8 E a18 sto, wH9 E a19 sg]) ⟨hx, hb, hml, hown, hts⟩ (kX1_passNight E l a0 a1 a2 a3 a4 a5 a6 a7 a8 a9 a10 a11 a12 a13 a14 a15 a16 a17 a18 a19 lk3 la4 ll5 lots6 pk pa pd onp br us7 sp8 zs zd zn zt9 zl10 zc11 nm sto sg dy12 fl hu13 cn14 gn15 cs16 (r21, lk22, la23, ll24, lots25, us26, sp27, zt28, zl29, zc30, dy31, hu32, cn33, gn34, cs35) hc36) (cwV 0 hts gX1_dayWhenOut_X1_passNight rfl rfl rfl (by decide +kernel) ⟨Nat.le_of_ble_eq_true rfl, Nat.le_of_ble_eq_true rfl⟩) hK hP hD hS hA hG hl [0, 1, 2, 3, 4] 0 0 (by decide) rfl (ci := 1) rfl rfl rfl rfl rfl rfl rfl rfl rfl rfl (Nat.le_of_ble_eq_true rfl) dX1_dayWhenOut_20 (Nat.zero_le _) (Nat.zero_le _) (fun H locs hP hD hS => ?_)
          refine lv_pop hx hb dX1_dayWhenOut_23 rfl ?_
          refine lv_aload_n hx hb dX1_dayWhenOut_24 rfl (lv_at hl 1 rfl) ?_
          refine va_get (D := E.1) (cl := vwCl) (ci := 1) (v := .ref a1) (C := RX1) (T := TX1) (N := 10) hx hb hts hiX1 hown hK hP 0 rfl rfl 0 (by decide) hw1 (fun _ h9 => h9) rfl dX1_dayWhenOut_25 ?_
          refine lv_iload_n hx hb dX1_dayWhenOut_28 rfl (lv_at hl 2 rfl) ?_
          obtain ⟨r37, hc38, h⟩ := bd1_s h
          refine g_callRi (As := [.int p1]) (rest := []) (r := r37) ⟨hx, hb, hml, hown, hts⟩ (kX4_stock E l a1 a2 a3 a4 a5 a6 a7 a8 a9 a10 lk22 la23 ll24 lots25 pk pa pd onp br us26 sp27 p1 r37 hc38) (cwV 1 hts gX1_dayWhenOut_X4_stock rfl rfl rfl (by decide +kernel) ⟨Nat.le_of_ble_eq_true rfl, Nat.le_of_ble_eq_true rfl⟩) hK hP hD hS hA hG hl [1, 2, 3, 4, 5, 6, 7, 8, 9, 10] 1 (by decide) rfl (ci := 4) rfl rfl rfl rfl rfl rfl rfl (Nat.le_of_ble_eq_true rfl) dX1_dayWhenOut_29 (Nat.zero_le _) (Nat.zero_le _) (fun H locs hP hD hS => ?_)
          refine lv_if_ne (tgt := 42) hx hb dX1_dayWhenOut_32 (by decide) (fun hc39 => ?_) (fun hc39 => ?_)
          · replace h := g_if hc39 h
            obtain ⟨v40, e_v40⟩ : ∃ y : Int32, y = (v2 + (1 : Int32)) := ⟨_, rfl⟩
            replace h := jl_s e_v40 h
            refine lv_iinc (v := v40) (lv' := [(2, .int v40), (0, .ref a0), (1, .int p1)]) hx hb dX1_dayWhenOut_42 hl (k := 0) rfl (by rw [e_v40]; rfl) (by decide) rfl (fun ls hl => ?_)
            refine lv_goto (tgt := 2) hx hb dX1_dayWhenOut_45 (by decide) ?_
            exact ih_rec1 v40 lk22 la23 ll24 lots25 us26 sp27 zt28 zl29 zc30 dy31 hu32 cn33 gn34 cs35 _ _ _ hP hS (lv_sub hl [0, 1, 2] rfl) h
          · replace h := g_it hc39 h
            refine lv_aload_n hx hb dX1_dayWhenOut_35 rfl (lv_at hl 1 rfl) ?_
            refine va_get (D := E.1) (cl := vwCl) (ci := 1) (v := .int dy31) (C := RX1) (T := TX1) (N := 10) hx hb hts hiX1 hown hK hP 0 rfl rfl 4 (by decide) hw2 (fun _ h9 => h9) rfl dX1_dayWhenOut_36 ?_
            refine lv_iconst (v := (1 : Int32)) hx hb dX1_dayWhenOut_39 (by decide) ?_
            refine lv_isub hx hb dX1_dayWhenOut_40 ?_
            exact hret ((dy31 - (1 : Int32)), lk22, la23, ll24, lots25, us26, sp27, zt28, zl29, zc30, dy31, hu32, cn33, gn34, cs35) _ _ _ _ _ (Option.some.inj h) hP hS rfl dX1_dayWhenOut_41
  exact hL_rec1 gFU (0 : Int32) lk la ll lots us sp zt zl zc dy hu cn gn cs _ _ _ hP hS (lv_sub hl [0, 1, 2] rfl) h
set_option maxHeartbeats 4000000 in
set_option maxRecDepth 100000 in
theorem kX1_mayBeBooked (E : gE) (l : Launch) (a0 a1 a2 a3 a4 a5 a6 a7 a8 a9 a10 a11 a12 a13 a14 a15 a16 a17 a18 a19 : Nat) (lk : Nat → Int32) (la : Nat → Int32) (ll : Nat → Int32) (lots : Int32) (pk : Nat → Int32) (pa : Nat → Int32) (pd : Nat → Int32) (onp : Int32) (br : Nat → Int32) (us : Nat → Int32) (sp : Nat → Int32) (zs : Nat → Int32) (zd : Nat → Int32) (zn : Nat → Int32) (zt : Nat → Int32) (zl : Nat → Int32) (zc : Nat → Int32) (nm : Int32) (sto : Nat → Int32) (sg : Nat → Int32) (dy : Int32) (fl : Int32) (hu : Int32) (cn : Int32) (gn : Int32) (cs : Int32) (p1 : Int32) (p2 : Int32) (p3 : Int32) (res : Int32) (h : fX1_mayBeBooked dy p1 p2 p3 = some res) : gMI E l yX1_mayBeBooked wsX1_mayBeBooked ({ frames := 0, cells := 0, slots := 0, locals := 0 } : Room) [.ref a0, .int p1, .int p2, .int p3] (List.flatten [wHo E a0 a1 a11 a18 a19 dy fl hu cn gn cs, wSt E a1 a2 a3 a4 a5 a6 a7 a8 a9 a10 lk la ll lots pk pa pd onp br us sp, wPa E a11 a12 a13 a14 a15 a16 a17 zs zd zn zt zl zc nm, wH8 E a18 sto, wH9 E a19 sg]) (fun res : Int32 => (List.flatten [wHo E a0 a1 a11 a18 a19 dy fl hu cn gn cs, wSt E a1 a2 a3 a4 a5 a6 a7 a8 a9 a10 lk la ll lots pk pa pd onp br us sp, wPa E a11 a12 a13 a14 a15 a16 a17 zs zd zn zt zl zc nm, wH8 E a18 sto, wH9 E a19 sg])) (fun res => res) res := by
  refine g_entZ (cc := cX1_mayBeBooked) (maxL := 4) (by decide) rfl (Nat.le_of_ble_eq_true rfl) ?_
  intro p e s m args below meth c A Q ls hx hb hml hown hts hK hP hD hS hA hG hret hl
  unfold fX1_mayBeBooked at h
  replace hl : lv_has ls 4 [(0, .ref a0), (1, .int p1), (2, .int p2), (3, .int p3)] := hl
  have hiX1 : ∀ w ∈ wsX10, w ∈ wsX1_mayBeBooked := by decide +kernel
  have hw0 := hts (.fieldLink RX1 49 "GlacierHut$Hut" "day" "I") (by decide +kernel)
  refine lv_iload_n hx hb dX1_mayBeBooked_0 rfl (lv_at hl 1 rfl) ?_
  refine lv_iconst (v := (1 : Int32)) hx hb dX1_mayBeBooked_1 (by decide) ?_
  refine lv_icmp_lt (tgt := 41) hx hb dX1_mayBeBooked_2 (by decide) (fun hc1 => ?_) (fun hc1 => ?_)
  · replace h := g_it hc1 h
    refine lv_iconst (v := (0 : Int32)) hx hb dX1_mayBeBooked_41 (by decide) ?_
    exact hret (0 : Int32) _ _ _ _ _ (Option.some.inj h) hP hS rfl rfl dX1_mayBeBooked_42
  · replace h := g_if hc1 h
    refine lv_iload_n hx hb dX1_mayBeBooked_5 rfl (lv_at hl 1 rfl) ?_
    refine lv_bipush (v := (6 : Int32)) hx hb dX1_mayBeBooked_6 (by decide) ?_
    refine lv_icmp_gt (tgt := 41) hx hb dX1_mayBeBooked_8 (by decide) (fun hc2 => ?_) (fun hc2 => ?_)
    · replace h := g_it hc2 h
      refine lv_iconst (v := (0 : Int32)) hx hb dX1_mayBeBooked_41 (by decide) ?_
      exact hret (0 : Int32) _ _ _ _ _ (Option.some.inj h) hP hS rfl rfl dX1_mayBeBooked_42
    · replace h := g_if hc2 h
      refine lv_iload_n hx hb dX1_mayBeBooked_11 rfl (lv_at hl 2 rfl) ?_
      refine lv_aload_n hx hb dX1_mayBeBooked_12 rfl (lv_at hl 0 rfl) ?_
      refine va_get (D := E.1) (cl := vwCl) (ci := 1) (v := .int dy) (C := RX1) (T := TX1) (N := 10) hx hb hts hiX1 hown hK hP 0 rfl rfl 4 (by decide) hw0 (fun _ h9 => h9) rfl dX1_mayBeBooked_13 ?_
      refine lv_icmp_lt (tgt := 41) hx hb dX1_mayBeBooked_16 (by decide) (fun hc3 => ?_) (fun hc3 => ?_)
      · replace h := g_it hc3 h
        refine lv_iconst (v := (0 : Int32)) hx hb dX1_mayBeBooked_41 (by decide) ?_
        exact hret (0 : Int32) _ _ _ _ _ (Option.some.inj h) hP hS rfl rfl dX1_mayBeBooked_42
      · replace h := g_if hc3 h
        refine lv_iload_n hx hb dX1_mayBeBooked_19 rfl (lv_at hl 2 rfl) ?_
        refine lv_sipush (v := (365 : Int32)) hx hb dX1_mayBeBooked_20 (by decide) ?_
        refine lv_icmp_gt (tgt := 41) hx hb dX1_mayBeBooked_23 (by decide) (fun hc4 => ?_) (fun hc4 => ?_)
        · replace h := g_it hc4 h
          refine lv_iconst (v := (0 : Int32)) hx hb dX1_mayBeBooked_41 (by decide) ?_
          exact hret (0 : Int32) _ _ _ _ _ (Option.some.inj h) hP hS rfl rfl dX1_mayBeBooked_42
        · replace h := g_if hc4 h
          refine lv_iload_n hx hb dX1_mayBeBooked_26 rfl (lv_at hl 3 rfl) ?_
          refine lv_iconst (v := (1 : Int32)) hx hb dX1_mayBeBooked_27 (by decide) ?_
          refine lv_icmp_lt (tgt := 41) hx hb dX1_mayBeBooked_28 (by decide) (fun hc5 => ?_) (fun hc5 => ?_)
          · replace h := g_it hc5 h
            refine lv_iconst (v := (0 : Int32)) hx hb dX1_mayBeBooked_41 (by decide) ?_
            exact hret (0 : Int32) _ _ _ _ _ (Option.some.inj h) hP hS rfl rfl dX1_mayBeBooked_42
          · replace h := g_if hc5 h
            refine lv_iload_n hx hb dX1_mayBeBooked_31 rfl (lv_at hl 3 rfl) ?_
            refine lv_bipush (v := (9 : Int32)) hx hb dX1_mayBeBooked_32 (by decide) ?_
            refine lv_icmp_gt (tgt := 41) hx hb dX1_mayBeBooked_34 (by decide) (fun hc6 => ?_) (fun hc6 => ?_)
            · replace h := g_it hc6 h
              refine lv_iconst (v := (0 : Int32)) hx hb dX1_mayBeBooked_41 (by decide) ?_
              exact hret (0 : Int32) _ _ _ _ _ (Option.some.inj h) hP hS rfl rfl dX1_mayBeBooked_42
            · replace h := g_if hc6 h
              refine lv_iconst (v := (1 : Int32)) hx hb dX1_mayBeBooked_37 (by decide) ?_
              refine lv_goto (tgt := 42) hx hb dX1_mayBeBooked_38 (by decide) ?_
              exact hret (1 : Int32) _ _ _ _ _ (Option.some.inj h) hP hS rfl rfl dX1_mayBeBooked_42
set_option maxHeartbeats 4000000 in
set_option maxRecDepth 100000 in
theorem kX1_passNights (E : gE) (l : Launch) (a0 a1 a2 a3 a4 a5 a6 a7 a8 a9 a10 a11 a12 a13 a14 a15 a16 a17 a18 a19 : Nat) (lk : Nat → Int32) (la : Nat → Int32) (ll : Nat → Int32) (lots : Int32) (pk : Nat → Int32) (pa : Nat → Int32) (pd : Nat → Int32) (onp : Int32) (br : Nat → Int32) (us : Nat → Int32) (sp : Nat → Int32) (zs : Nat → Int32) (zd : Nat → Int32) (zn : Nat → Int32) (zt : Nat → Int32) (zl : Nat → Int32) (zc : Nat → Int32) (nm : Int32) (sto : Nat → Int32) (sg : Nat → Int32) (dy : Int32) (fl : Int32) (hu : Int32) (cn : Int32) (gn : Int32) (cs : Int32) (p1 : Int32) (res : Int32 × (Nat → Int32) × (Nat → Int32) × (Nat → Int32) × Int32 × (Nat → Int32) × (Nat → Int32) × (Nat → Int32) × (Nat → Int32) × (Nat → Int32) × Int32 × Int32 × Int32 × Int32 × Int32) (h : fX1_passNights lk la ll lots us sp zs zd zn zt zl zc nm sto sg dy hu cn gn cs p1 = some res) : gMI E l yX1_passNights wsX1_passNights ({ frames := 2, cells := 0, slots := 0, locals := 54 } : Room) [.ref a0, .int p1] (List.flatten [wHo E a0 a1 a11 a18 a19 dy fl hu cn gn cs, wSt E a1 a2 a3 a4 a5 a6 a7 a8 a9 a10 lk la ll lots pk pa pd onp br us sp, wPa E a11 a12 a13 a14 a15 a16 a17 zs zd zn zt zl zc nm, wH8 E a18 sto, wH9 E a19 sg]) (fun res : Int32 × (Nat → Int32) × (Nat → Int32) × (Nat → Int32) × Int32 × (Nat → Int32) × (Nat → Int32) × (Nat → Int32) × (Nat → Int32) × (Nat → Int32) × Int32 × Int32 × Int32 × Int32 × Int32 => (List.flatten [wHo E a0 a1 a11 a18 a19 res.2.2.2.2.2.2.2.2.2.2.1 fl res.2.2.2.2.2.2.2.2.2.2.2.1 res.2.2.2.2.2.2.2.2.2.2.2.2.1 res.2.2.2.2.2.2.2.2.2.2.2.2.2.1 res.2.2.2.2.2.2.2.2.2.2.2.2.2.2, wSt E a1 a2 a3 a4 a5 a6 a7 a8 a9 a10 res.2.1 res.2.2.1 res.2.2.2.1 res.2.2.2.2.1 pk pa pd onp br res.2.2.2.2.2.1 res.2.2.2.2.2.2.1, wPa E a11 a12 a13 a14 a15 a16 a17 zs zd zn res.2.2.2.2.2.2.2.1 res.2.2.2.2.2.2.2.2.1 res.2.2.2.2.2.2.2.2.2.1 nm, wH8 E a18 sto, wH9 E a19 sg])) (fun res => res.1) res := by
  refine g_entI (cc := cX1_passNights) (maxL := 4) (by decide) rfl (Nat.le_of_ble_eq_true rfl) ?_
  intro p e s m args below meth c A Q ls hx hb hml hown hts hK hP hD hS hA hG hret hl
  unfold fX1_passNights at h
  replace hl : lv_has ls 4 [(0, .ref a0), (1, .int p1)] := hl
  have hiX1 : ∀ w ∈ wsX10, w ∈ wsX1_passNights := by decide +kernel
  have hw0 := hts (.fieldLink RX1 49 "GlacierHut$Hut" "day" "I") (by decide +kernel)
  have hw1 := hts (.fieldLink RX1 56 "GlacierHut$Hut" "hungry" "I") (by decide +kernel)
  refine lv_iload_n hx hb dX1_passNights_0 rfl (lv_at hl 1 rfl) ?_
  refine lv_iconst (v := (1 : Int32)) hx hb dX1_passNights_1 (by decide) ?_
  refine lv_icmp_lt (tgt := 11) hx hb dX1_passNights_2 (by decide) (fun hc1 => ?_) (fun hc1 => ?_)
  · replace h := g_it hc1 h
    refine lv_iconst (v := (-1 : Int32)) hx hb dX1_passNights_11 (by decide) ?_
    exact hret ((-1 : Int32), lk, la, ll, lots, us, sp, zt, zl, zc, dy, hu, cn, gn, cs) _ _ _ _ _ (Option.some.inj h) hP hS rfl dX1_passNights_12
  · replace h := g_if hc1 h
    refine lv_iload_n hx hb dX1_passNights_5 rfl (lv_at hl 1 rfl) ?_
    refine lv_bipush (v := (60 : Int32)) hx hb dX1_passNights_6 (by decide) ?_
    refine lv_icmp_le (tgt := 13) hx hb dX1_passNights_8 (by decide) (fun hc2 => ?_) (fun hc2 => ?_)
    · replace h := g_it hc2 h
      refine lv_aload_n hx hb dX1_passNights_13 rfl (lv_at hl 0 rfl) ?_
      refine va_get (D := E.1) (cl := vwCl) (ci := 1) (v := .int dy) (C := RX1) (T := TX1) (N := 10) hx hb hts hiX1 hown hK hP 0 rfl rfl 4 (by decide) hw0 (fun _ h9 => h9) rfl dX1_passNights_14 ?_
      refine lv_iload_n hx hb dX1_passNights_17 rfl (lv_at hl 1 rfl) ?_
      refine lv_iadd hx hb dX1_passNights_18 ?_
      refine lv_sipush (v := (365 : Int32)) hx hb dX1_passNights_19 (by decide) ?_
      refine lv_icmp_le (tgt := 28) hx hb dX1_passNights_22 (by decide) (fun hc3 => ?_) (fun hc3 => ?_)
      · replace h := g_it hc3 h
        refine lv_aload_n hx hb dX1_passNights_28 rfl (lv_at hl 0 rfl) ?_
        refine va_get (D := E.1) (cl := vwCl) (ci := 1) (v := .int hu) (C := RX1) (T := TX1) (N := 10) hx hb hts hiX1 hown hK hP 0 rfl rfl 6 (by decide) hw1 (fun _ h9 => h9) rfl dX1_passNights_29 ?_
        refine lv_istore_n (lv' := [(2, .int hu), (0, .ref a0), (1, .int p1)]) hx hb dX1_passNights_32 rfl hl (by decide) rfl (fun ls hl => ?_)
        refine lv_iconst (v := (0 : Int32)) hx hb dX1_passNights_33 (by decide) ?_
        refine lv_istore_n (lv' := [(3, .int (0 : Int32)), (2, .int hu), (0, .ref a0), (1, .int p1)]) hx hb dX1_passNights_34 rfl hl (by decide) rfl (fun ls hl => ?_)
        refine gl15_e h (fun S_rec4 hS_rec4 h => ?_)
        have hL_rec4 : ∀ (nF : Nat) (v5 : Int32) (lk6 : Nat → Int32) (la7 : Nat → Int32) (ll8 : Nat → Int32) (lots9 : Int32) (us10 : Nat → Int32) (sp11 : Nat → Int32) (zt12 : Nat → Int32) (zl13 : Nat → Int32) (zc14 : Nat → Int32) (dy15 : Int32) (hu16 : Int32) (cn17 : Int32) (gn18 : Int32) (cs19 : Int32) (H : Heap) (locs : List Loc) (ls : Array Slot), va_P E.1 vwCl (List.flatten [wHo E a0 a1 a11 a18 a19 dy15 fl hu16 cn17 gn18 cs19, wSt E a1 a2 a3 a4 a5 a6 a7 a8 a9 a10 lk6 la7 ll8 lots9 pk pa pd onp br us10 sp11, wPa E a11 a12 a13 a14 a15 a16 a17 zs zd zn zt12 zl13 zc14 nm, wH8 E a18 sto, wH9 E a19 sg]) H → va_S A s.heap H locs → lv_has ls 4 [(3, .int v5), (2, .int hu), (0, .ref a0), (1, .int p1)] → gl15 S_rec4 nF v5 lk6 la7 ll8 lots9 us10 sp11 zt12 zl13 zc14 dy15 hu16 cn17 gn18 cs19 = some res → W p l e ({ frames := 2, cells := 0, slots := 0, locals := 54 } : Room) s m args below meth c H locs 0 0 Q (F0 m 35 ls []) := by
          intro nF
          induction nF with
          | zero => intro v5 lk6 la7 ll8 lots9 us10 sp11 zt12 zl13 zc14 dy15 hu16 cn17 gn18 cs19 H locs ls hP hS hl h; exact gl15_z h
          | succ nF ih_rec4 =>
            intro v5 lk6 la7 ll8 lots9 us10 sp11 zt12 zl13 zc14 dy15 hu16 cn17 gn18 cs19 H locs ls hP hS hl h
            replace hD : va_D A (List.flatten [wHo E a0 a1 a11 a18 a19 dy15 fl hu16 cn17 gn18 cs19, wSt E a1 a2 a3 a4 a5 a6 a7 a8 a9 a10 lk6 la7 ll8 lots9 pk pa pd onp br us10 sp11, wPa E a11 a12 a13 a14 a15 a16 a17 zs zd zn zt12 zl13 zc14 nm, wH8 E a18 sto, wH9 E a19 sg]) := gD_same hD rfl
            replace h : S_rec4 (gl15 S_rec4 nF) v5 lk6 la7 ll8 lots9 us10 sp11 zt12 zl13 zc14 dy15 hu16 cn17 gn18 cs19 = some res := h
            generalize gl15 S_rec4 nF = rec4 at h ih_rec4
            subst hS_rec4
            unfold sX1_passNights_rec4 at h
            refine lv_iload_n hx hb dX1_passNights_35 rfl (lv_at hl 0 rfl) ?_
            refine lv_iload_n hx hb dX1_passNights_36 rfl (lv_at hl 3 rfl) ?_
            refine lv_icmp_ge (tgt := 51) hx hb dX1_passNights_37 (by decide) (fun hc20 => ?_) (fun hc20 => ?_)
            · replace h := g_it hc20 h
              refine lv_aload_n hx hb dX1_passNights_51 rfl (lv_at hl 2 rfl) ?_
              refine va_get (D := E.1) (cl := vwCl) (ci := 1) (v := .int hu16) (C := RX1) (T := TX1) (N := 10) hx hb hts hiX1 hown hK hP 0 rfl rfl 6 (by decide) hw1 (fun _ h9 => h9) rfl dX1_passNights_52 ?_
              refine lv_iload_n hx hb dX1_passNights_55 rfl (lv_at hl 1 rfl) ?_
              refine lv_isub hx hb dX1_passNights_56 ?_
              exact hret ((hu16 - hu), lk6, la7, ll8, lots9, us10, sp11, zt12, zl13, zc14, dy15, hu16, cn17, gn18, cs19) _ _ _ _ _ (Option.some.inj h) hP hS rfl dX1_passNights_57
            · replace h := g_if hc20 h
              refine lv_aload_n hx hb dX1_passNights_40 rfl (lv_at hl 2 rfl) ?_
              obtain ⟨r21, lk22, la23, ll24, lots25, us26, sp27, zt28, zl29, zc30, dy31, hu32, cn33, gn34, cs35, hc36, h⟩ := bd15_s h
              refine g_callBi (As := []) (rest := []) (r := r21) (bs1 := [wHo E a0 a1 a11 a18 a19 dy31 fl hu32 cn33 gn34 cs35, wSt E a1 a2 a3 a4 a5 a6 a7 a8 a9 a10 lk22 la23 ll24 lots25 pk pa pd onp br us26 sp27, wPa E a11 a12 a13 a14 a15 a16 a17 zs zd zn zt28 zl29 zc30 nm, wH8 E a18 sto, wH9 E a19 sg]) ⟨hx, hb, hml, hown, hts⟩ (kX1_passNight E l a0 a1 a2 a3 a4 a5 a6 a7 a8 a9 a10 a11 a12 a13 a14 a15 a16 a17 a18 a19 lk6 la7 ll8 lots9 pk pa pd onp br us10 sp11 zs zd zn zt12 zl13 zc14 nm sto sg dy15 fl hu16 cn17 gn18 cs19 (r21, lk22, la23, ll24, lots25, us26, sp27, zt28, zl29, zc30, dy31, hu32, cn33, gn34, cs35) hc36) (cwV 0 hts gX1_passNights_X1_passNight rfl rfl rfl (by decide +kernel) ⟨Nat.le_of_ble_eq_true rfl, Nat.le_of_ble_eq_true rfl⟩) hK hP hD hS hA hG hl [0, 1, 2, 3, 4] 0 0 (by decide) rfl (ci := 1) rfl rfl rfl rfl rfl rfl rfl rfl rfl rfl (Nat.le_of_ble_eq_true rfl) dX1_passNights_41 (Nat.zero_le _) (Nat.zero_le _) (fun H locs hP hD hS => ?_)
              refine lv_pop hx hb dX1_passNights_44 rfl ?_
              obtain ⟨v37, e_v37⟩ : ∃ y : Int32, y = (v5 + (1 : Int32)) := ⟨_, rfl⟩
              replace h := jl_s e_v37 h
              refine lv_iinc (v := v37) (lv' := [(3, .int v37), (2, .int hu), (0, .ref a0), (1, .int p1)]) hx hb dX1_passNights_45 hl (k := 0) rfl (by rw [e_v37]; rfl) (by decide) rfl (fun ls hl => ?_)
              refine lv_goto (tgt := 35) hx hb dX1_passNights_48 (by decide) ?_
              exact ih_rec4 v37 lk22 la23 ll24 lots25 us26 sp27 zt28 zl29 zc30 dy31 hu32 cn33 gn34 cs35 _ _ _ hP hS (lv_sub hl [0, 1, 2, 3] rfl) h
        exact hL_rec4 gFU (0 : Int32) lk la ll lots us sp zt zl zc dy hu cn gn cs _ _ _ hP hS (lv_sub hl [0, 1, 2, 3] rfl) h
      · replace h := g_if hc3 h
        refine lv_bipush (v := (-3 : Int32)) hx hb dX1_passNights_25 (by decide) ?_
        exact hret ((-3 : Int32), lk, la, ll, lots, us, sp, zt, zl, zc, dy, hu, cn, gn, cs) _ _ _ _ _ (Option.some.inj h) hP hS rfl dX1_passNights_27
    · replace h := g_if hc2 h
      refine lv_iconst (v := (-1 : Int32)) hx hb dX1_passNights_11 (by decide) ?_
      exact hret ((-1 : Int32), lk, la, ll, lots, us, sp, zt, zl, zc, dy, hu, cn, gn, cs) _ _ _ _ _ (Option.some.inj h) hP hS rfl dX1_passNights_12
set_option maxHeartbeats 4000000 in
set_option maxRecDepth 100000 in
theorem kX1_putOnPallet (E : gE) (l : Launch) (a0 a1 a2 a3 a4 a5 a6 a7 a8 a9 a10 a11 a12 a13 a14 a15 a16 a17 a18 a19 : Nat) (lk : Nat → Int32) (la : Nat → Int32) (ll : Nat → Int32) (lots : Int32) (pk : Nat → Int32) (pa : Nat → Int32) (pd : Nat → Int32) (onp : Int32) (br : Nat → Int32) (us : Nat → Int32) (sp : Nat → Int32) (zs : Nat → Int32) (zd : Nat → Int32) (zn : Nat → Int32) (zt : Nat → Int32) (zl : Nat → Int32) (zc : Nat → Int32) (nm : Int32) (sto : Nat → Int32) (sg : Nat → Int32) (dy : Int32) (fl : Int32) (hu : Int32) (cn : Int32) (gn : Int32) (cs : Int32) (p1 : Int32) (p2 : Int32) (p3 : Int32) (res : Int32 × (Nat → Int32) × (Nat → Int32) × (Nat → Int32) × Int32) (h : fX1_putOnPallet pk pa pd onp p1 p2 p3 = some res) : gMI E l yX1_putOnPallet wsX1_putOnPallet ({ frames := 1, cells := 0, slots := 0, locals := 23 } : Room) [.ref a0, .int p1, .int p2, .int p3] (List.flatten [wHo E a0 a1 a11 a18 a19 dy fl hu cn gn cs, wSt E a1 a2 a3 a4 a5 a6 a7 a8 a9 a10 lk la ll lots pk pa pd onp br us sp, wPa E a11 a12 a13 a14 a15 a16 a17 zs zd zn zt zl zc nm, wH8 E a18 sto, wH9 E a19 sg]) (fun res : Int32 × (Nat → Int32) × (Nat → Int32) × (Nat → Int32) × Int32 => (List.flatten [wHo E a0 a1 a11 a18 a19 dy fl hu cn gn cs, wSt E a1 a2 a3 a4 a5 a6 a7 a8 a9 a10 lk la ll lots res.2.1 res.2.2.1 res.2.2.2.1 res.2.2.2.2 br us sp, wPa E a11 a12 a13 a14 a15 a16 a17 zs zd zn zt zl zc nm, wH8 E a18 sto, wH9 E a19 sg])) (fun res => res.1) res := by
  refine g_entI (cc := cX1_putOnPallet) (maxL := 4) (by decide) rfl (Nat.le_of_ble_eq_true rfl) ?_
  intro p e s m args below meth c A Q ls hx hb hml hown hts hK hP hD hS hA hG hret hl
  unfold fX1_putOnPallet at h
  replace hl : lv_has ls 4 [(0, .ref a0), (1, .int p1), (2, .int p2), (3, .int p3)] := hl
  have hiX1 : ∀ w ∈ wsX10, w ∈ wsX1_putOnPallet := by decide +kernel
  have hiX4 : ∀ w ∈ wsX40, w ∈ wsX1_putOnPallet := by decide +kernel
  have hw0 := hts (.fieldLink RX1 12 "GlacierHut$Hut" "stores" "LGlacierHut$Stores;") (by decide +kernel)
  have hw1 := hts (.fieldLink RX1 72 "GlacierHut$Stores" "onPallet" "I") (by decide +kernel)
  refine lv_iload_n hx hb dX1_putOnPallet_0 rfl (lv_at hl 1 rfl) ?_
  obtain ⟨r1, hc2, h⟩ := bd1_s h
  refine g_callSi (As := [.int p1]) (rest := []) (r := r1) ⟨hx, hb, hml, hown, hts⟩ (kX4_isKind E l p1 r1 hc2) (va_cwS 1 hts gX1_putOnPallet_X4_isKind rfl rfl rfl (by decide +kernel) ⟨Nat.le_of_ble_eq_true rfl, Nat.le_of_ble_eq_true rfl⟩) hK hP hD hS hA hG hl rfl rfl rfl (Nat.le_of_ble_eq_true rfl) dX1_putOnPallet_1 (Nat.zero_le _) (Nat.zero_le _) (fun H locs hP hD hS => ?_)
  refine lv_if_eq (tgt := 30) hx hb dX1_putOnPallet_4 (by decide) (fun hc3 => ?_) (fun hc3 => ?_)
  · replace h := g_it hc3 h
    refine lv_iconst (v := (-1 : Int32)) hx hb dX1_putOnPallet_30 (by decide) ?_
    exact hret ((-1 : Int32), pk, pa, pd, onp) _ _ _ _ _ (Option.some.inj h) hP hS rfl dX1_putOnPallet_31
  · replace h := g_if hc3 h
    refine lv_iload_n hx hb dX1_putOnPallet_7 rfl (lv_at hl 2 rfl) ?_
    refine lv_iconst (v := (1 : Int32)) hx hb dX1_putOnPallet_8 (by decide) ?_
    refine lv_icmp_lt (tgt := 30) hx hb dX1_putOnPallet_9 (by decide) (fun hc4 => ?_) (fun hc4 => ?_)
    · replace h := g_it hc4 h
      refine lv_iconst (v := (-1 : Int32)) hx hb dX1_putOnPallet_30 (by decide) ?_
      exact hret ((-1 : Int32), pk, pa, pd, onp) _ _ _ _ _ (Option.some.inj h) hP hS rfl dX1_putOnPallet_31
    · replace h := g_if hc4 h
      refine lv_iload_n hx hb dX1_putOnPallet_12 rfl (lv_at hl 2 rfl) ?_
      refine lv_sipush (v := (999 : Int32)) hx hb dX1_putOnPallet_13 (by decide) ?_
      refine lv_icmp_gt (tgt := 30) hx hb dX1_putOnPallet_16 (by decide) (fun hc5 => ?_) (fun hc5 => ?_)
      · replace h := g_it hc5 h
        refine lv_iconst (v := (-1 : Int32)) hx hb dX1_putOnPallet_30 (by decide) ?_
        exact hret ((-1 : Int32), pk, pa, pd, onp) _ _ _ _ _ (Option.some.inj h) hP hS rfl dX1_putOnPallet_31
      · replace h := g_if hc5 h
        refine lv_iload_n hx hb dX1_putOnPallet_19 rfl (lv_at hl 3 rfl) ?_
        refine lv_if_lt (tgt := 30) hx hb dX1_putOnPallet_20 (by decide) (fun hc6 => ?_) (fun hc6 => ?_)
        · replace h := g_it hc6 h
          refine lv_iconst (v := (-1 : Int32)) hx hb dX1_putOnPallet_30 (by decide) ?_
          exact hret ((-1 : Int32), pk, pa, pd, onp) _ _ _ _ _ (Option.some.inj h) hP hS rfl dX1_putOnPallet_31
        · replace h := g_if hc6 h
          refine lv_iload_n hx hb dX1_putOnPallet_23 rfl (lv_at hl 3 rfl) ?_
          refine lv_sipush (v := (365 : Int32)) hx hb dX1_putOnPallet_24 (by decide) ?_
          refine lv_icmp_le (tgt := 32) hx hb dX1_putOnPallet_27 (by decide) (fun hc7 => ?_) (fun hc7 => ?_)
          · replace h := g_it hc7 h
            refine lv_aload_n hx hb dX1_putOnPallet_32 rfl (lv_at hl 0 rfl) ?_
            refine va_get (D := E.1) (cl := vwCl) (ci := 1) (v := .ref a1) (C := RX1) (T := TX1) (N := 10) hx hb hts hiX1 hown hK hP 0 rfl rfl 0 (by decide) hw0 (fun _ h9 => h9) rfl dX1_putOnPallet_33 ?_
            refine va_get (D := E.1) (cl := vwCl) (ci := 4) (v := .int onp) (C := RX4) (T := TX4) (N := 11) hx hb hts hiX4 hown hK hP 1 rfl rfl 7 (by decide) hw1 (fun _ h9 => h9) rfl dX1_putOnPallet_36 ?_
            refine lv_bipush (v := (6 : Int32)) hx hb dX1_putOnPallet_39 (by decide) ?_
            refine lv_icmp_lt (tgt := 47) hx hb dX1_putOnPallet_41 (by decide) (fun hc8 => ?_) (fun hc8 => ?_)
            · replace h := g_it hc8 h
              refine lv_aload_n hx hb dX1_putOnPallet_47 rfl (lv_at hl 0 rfl) ?_
              refine va_get (D := E.1) (cl := vwCl) (ci := 1) (v := .ref a1) (C := RX1) (T := TX1) (N := 10) hx hb hts hiX1 hown hK hP 0 rfl rfl 0 (by decide) hw0 (fun _ h9 => h9) rfl dX1_putOnPallet_48 ?_
              refine lv_iload_n hx hb dX1_putOnPallet_51 rfl (lv_at hl 1 rfl) ?_
              refine lv_iload_n hx hb dX1_putOnPallet_52 rfl (lv_at hl 2 rfl) ?_
              refine lv_iload_n hx hb dX1_putOnPallet_53 rfl (lv_at hl 3 rfl) ?_
              obtain ⟨pk9, pa10, pd11, onp12, hc13, h⟩ := bd4_s h
              refine g_call1v (As := [.int p1, .int p2, .int p3]) (rest := []) (bs1 := [wHo E a0 a1 a11 a18 a19 dy fl hu cn gn cs, wSt E a1 a2 a3 a4 a5 a6 a7 a8 a9 a10 lk la ll lots pk9 pa10 pd11 onp12 br us sp, wPa E a11 a12 a13 a14 a15 a16 a17 zs zd zn zt zl zc nm, wH8 E a18 sto, wH9 E a19 sg]) ⟨hx, hb, hml, hown, hts⟩ (kX4_addToPallet E l a1 a2 a3 a4 a5 a6 a7 a8 a9 a10 lk la ll lots pk pa pd onp br us sp p1 p2 p3 (pk9, pa10, pd11, onp12) hc13) (cwV 3 hts gX1_putOnPallet_X4_addToPallet rfl rfl rfl (by decide +kernel) ⟨Nat.le_of_ble_eq_true rfl, Nat.le_of_ble_eq_true rfl⟩) hK hP hD hS hA hG hl 1 0 (ci := 4) rfl rfl rfl rfl rfl rfl rfl rfl (Nat.le_of_ble_eq_true rfl) dX1_putOnPallet_54 (Nat.zero_le _) (Nat.zero_le _) (fun H locs hP hD hS => ?_)
              refine lv_aload_n hx hb dX1_putOnPallet_57 rfl (lv_at hl 0 rfl) ?_
              refine va_get (D := E.1) (cl := vwCl) (ci := 1) (v := .ref a1) (C := RX1) (T := TX1) (N := 10) hx hb hts hiX1 hown hK hP 0 rfl rfl 0 (by decide) hw0 (fun _ h9 => h9) rfl dX1_putOnPallet_58 ?_
              refine va_get (D := E.1) (cl := vwCl) (ci := 4) (v := .int onp12) (C := RX4) (T := TX4) (N := 11) hx hb hts hiX4 hown hK hP 1 rfl rfl 7 (by decide) hw1 (fun _ h9 => h9) rfl dX1_putOnPallet_61 ?_
              exact hret (onp12, pk9, pa10, pd11, onp12) _ _ _ _ _ (Option.some.inj h) hP hS rfl dX1_putOnPallet_64
            · replace h := g_if hc8 h
              refine lv_bipush (v := (-3 : Int32)) hx hb dX1_putOnPallet_44 (by decide) ?_
              exact hret ((-3 : Int32), pk, pa, pd, onp) _ _ _ _ _ (Option.some.inj h) hP hS rfl dX1_putOnPallet_46
          · replace h := g_if hc7 h
            refine lv_iconst (v := (-1 : Int32)) hx hb dX1_putOnPallet_30 (by decide) ?_
            exact hret ((-1 : Int32), pk, pa, pd, onp) _ _ _ _ _ (Option.some.inj h) hP hS rfl dX1_putOnPallet_31
set_option maxHeartbeats 4000000 in
set_option maxRecDepth 100000 in
theorem kX1_settingAt (E : gE) (l : Launch) (a0 a1 a2 a3 a4 a5 a6 a7 a8 a9 a10 a11 a12 a13 a14 a15 a16 a17 a18 a19 : Nat) (lk : Nat → Int32) (la : Nat → Int32) (ll : Nat → Int32) (lots : Int32) (pk : Nat → Int32) (pa : Nat → Int32) (pd : Nat → Int32) (onp : Int32) (br : Nat → Int32) (us : Nat → Int32) (sp : Nat → Int32) (zs : Nat → Int32) (zd : Nat → Int32) (zn : Nat → Int32) (zt : Nat → Int32) (zl : Nat → Int32) (zc : Nat → Int32) (nm : Int32) (sto : Nat → Int32) (sg : Nat → Int32) (dy : Int32) (fl : Int32) (hu : Int32) (cn : Int32) (gn : Int32) (cs : Int32) (p1 : Int32) (res : Int32) (h : fX1_settingAt sg p1 = some res) : gMI E l yX1_settingAt wsX1_settingAt ({ frames := 0, cells := 0, slots := 0, locals := 0 } : Room) [.ref a0, .int p1] (List.flatten [wHo E a0 a1 a11 a18 a19 dy fl hu cn gn cs, wSt E a1 a2 a3 a4 a5 a6 a7 a8 a9 a10 lk la ll lots pk pa pd onp br us sp, wPa E a11 a12 a13 a14 a15 a16 a17 zs zd zn zt zl zc nm, wH8 E a18 sto, wH9 E a19 sg]) (fun res : Int32 => (List.flatten [wHo E a0 a1 a11 a18 a19 dy fl hu cn gn cs, wSt E a1 a2 a3 a4 a5 a6 a7 a8 a9 a10 lk la ll lots pk pa pd onp br us sp, wPa E a11 a12 a13 a14 a15 a16 a17 zs zd zn zt zl zc nm, wH8 E a18 sto, wH9 E a19 sg])) (fun res => res) res := by
  refine g_entI (cc := cX1_settingAt) (maxL := 2) (by decide) rfl (Nat.le_of_ble_eq_true rfl) ?_
  intro p e s m args below meth c A Q ls hx hb hml hown hts hK hP hD hS hA hG hret hl
  unfold fX1_settingAt at h
  replace hl : lv_has ls 2 [(0, .ref a0), (1, .int p1)] := hl
  have hiX1 : ∀ w ∈ wsX10, w ∈ wsX1_settingAt := by decide +kernel
  have hw0 := hts (.fieldLink RX1 29 "GlacierHut$Hut" "settings" "[I") (by decide +kernel)
  refine lv_iload_n hx hb dX1_settingAt_0 rfl (lv_at hl 1 rfl) ?_
  refine lv_if_lt (tgt := 18) hx hb dX1_settingAt_1 (by decide) (fun hc1 => ?_) (fun hc1 => ?_)
  · replace h := g_it hc1 h
    refine lv_iconst (v := (-1 : Int32)) hx hb dX1_settingAt_18 (by decide) ?_
    exact hret (-1 : Int32) _ _ _ _ _ (Option.some.inj h) hP hS rfl dX1_settingAt_19
  · replace h := g_if hc1 h
    refine lv_iload_n hx hb dX1_settingAt_4 rfl (lv_at hl 1 rfl) ?_
    refine lv_iconst (v := (4 : Int32)) hx hb dX1_settingAt_5 (by decide) ?_
    refine lv_icmp_ge (tgt := 18) hx hb dX1_settingAt_6 (by decide) (fun hc2 => ?_) (fun hc2 => ?_)
    · replace h := g_it hc2 h
      refine lv_iconst (v := (-1 : Int32)) hx hb dX1_settingAt_18 (by decide) ?_
      exact hret (-1 : Int32) _ _ _ _ _ (Option.some.inj h) hP hS rfl dX1_settingAt_19
    · replace h := g_if hc2 h
      refine lv_aload_n hx hb dX1_settingAt_9 rfl (lv_at hl 0 rfl) ?_
      refine va_get (D := E.1) (cl := vwCl) (ci := 1) (v := .ref a19) (C := RX1) (T := TX1) (N := 10) hx hb hts hiX1 hown hK hP 0 rfl rfl 3 (by decide) hw0 (fun _ h9 => h9) rfl dX1_settingAt_10 ?_
      refine lv_iload_n hx hb dX1_settingAt_13 rfl (lv_at hl 1 rfl) ?_
      obtain ⟨hg3, h⟩ := gd_s h
      refine va_iald (D := E.1) (cl := vwCl) (tys := gT E) hx hb hK hP 19 0 rfl rfl (inB_in hg3) dX1_settingAt_14 ?_
      refine lv_goto (tgt := 19) hx hb dX1_settingAt_15 (by decide) ?_
      exact hret (sg (p1).toNatClampNeg) _ _ _ _ _ (Option.some.inj h) hP hS rfl dX1_settingAt_19
