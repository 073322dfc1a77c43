set_option maxHeartbeats 4000000 in
set_option maxRecDepth 100000 in
theorem kX1_dayWhenGone (E : gE) (l : Launch) (a0 a1 a2 a3 a4 a5 a6 a7 a8 a9 a10 a11 a12 a13 a14 a15 a16 a17 a18 a19 : Nat) (lk : Nat → Int32) (la : Nat → Int32) (ll : Nat → Int32) (lots : Int32) (pk : Nat → Int32) (pa : Nat → Int32) (pd : Nat → Int32) (onp : Int32) (br : Nat → Int32) (us : Nat → Int32) (sp : Nat → Int32) (zs : Nat → Int32) (zd : Nat → Int32) (zn : Nat → Int32) (zt : Nat → Int32) (zl : Nat → Int32) (zc : Nat → Int32) (nm : Int32) (sto : Nat → Int32) (sg : Nat → Int32) (dy : Int32) (fl : Int32) (hu : Int32) (cn : Int32) (gn : Int32) (cs : Int32) (p1 : Int32) (res : Int32 × (Nat → Int32) × (Nat → Int32) × (Nat → Int32) × Int32 × (Nat → Int32) × (Nat → Int32) × (Nat → Int32) × (Nat → Int32) × (Nat → Int32) × Int32 × Int32 × Int32 × Int32 × Int32) (h : fX1_dayWhenGone lk la ll lots us sp zs zd zn zt zl zc nm sto sg dy hu cn gn cs p1 = some res) : gMI E l yX1_dayWhenGone wsX1_dayWhenGone ({ frames := 2, cells := 0, slots := 0, locals := 54 } : Room) [.ref a0, .int p1] (List.flatten [wHo E a0 a1 a11 a18 a19 dy fl hu cn gn cs, wSt E a1 a2 a3 a4 a5 a6 a7 a8 a9 a10 lk la ll lots pk pa pd onp br us sp, wPa E a11 a12 a13 a14 a15 a16 a17 zs zd zn zt zl zc nm, wH8 E a18 sto, wH9 E a19 sg]) (fun res : Int32 × (Nat → Int32) × (Nat → Int32) × (Nat → Int32) × Int32 × (Nat → Int32) × (Nat → Int32) × (Nat → Int32) × (Nat → Int32) × (Nat → Int32) × Int32 × Int32 × Int32 × Int32 × Int32 => (List.flatten [wHo E a0 a1 a11 a18 a19 res.2.2.2.2.2.2.2.2.2.2.1 fl res.2.2.2.2.2.2.2.2.2.2.2.1 res.2.2.2.2.2.2.2.2.2.2.2.2.1 res.2.2.2.2.2.2.2.2.2.2.2.2.2.1 res.2.2.2.2.2.2.2.2.2.2.2.2.2.2, wSt E a1 a2 a3 a4 a5 a6 a7 a8 a9 a10 res.2.1 res.2.2.1 res.2.2.2.1 res.2.2.2.2.1 pk pa pd onp br res.2.2.2.2.2.1 res.2.2.2.2.2.2.1, wPa E a11 a12 a13 a14 a15 a16 a17 zs zd zn res.2.2.2.2.2.2.2.1 res.2.2.2.2.2.2.2.2.1 res.2.2.2.2.2.2.2.2.2.1 nm, wH8 E a18 sto, wH9 E a19 sg])) (fun res => res.1) res := by
  refine g_entI (cc := cX1_dayWhenGone) (maxL := 3) (by decide) rfl (Nat.le_of_ble_eq_true rfl) ?_
  intro p e s m args below meth c A Q ls hx hb hml hown hts hK hP hD hS hA hG hret hl
  unfold fX1_dayWhenGone at h
  replace hl : lv_has ls 3 [(0, .ref a0), (1, .int p1)] := hl
  have hiX1 : ∀ w ∈ wsX10, w ∈ wsX1_dayWhenGone := by decide +kernel
  have hw0 := hts (.fieldLink RX1 21 "GlacierHut$Hut" "parties" "LGlacierHut$Parties;") (by decide +kernel)
  have hw1 := hts (.fieldLink RX1 49 "GlacierHut$Hut" "day" "I") (by decide +kernel)
  refine lv_iconst (v := (0 : Int32)) hx hb dX1_dayWhenGone_0 (by decide) ?_
  refine lv_istore_n (lv' := [(2, .int (0 : Int32)), (0, .ref a0), (1, .int p1)]) hx hb dX1_dayWhenGone_1 rfl hl (by decide) rfl (fun ls hl => ?_)
  refine gl15_e h (fun S_rec1 hS_rec1 h => ?_)
  have hL_rec1 : ∀ (n : Nat) (v2 : Int32) (lk3 : Nat → Int32) (la4 : Nat → Int32) (ll5 : Nat → Int32) (lots6 : Int32) (us7 : Nat → Int32) (sp8 : Nat → Int32) (zt9 : Nat → Int32) (zl10 : Nat → Int32) (zc11 : Nat → Int32) (dy12 : Int32) (hu13 : Int32) (cn14 : Int32) (gn15 : Int32) (cs16 : Int32) (H : Heap) (locs : List Loc) (ls : Array Slot), va_P E.1 vwCl (List.flatten [wHo E a0 a1 a11 a18 a19 dy12 fl hu13 cn14 gn15 cs16, wSt E a1 a2 a3 a4 a5 a6 a7 a8 a9 a10 lk3 la4 ll5 lots6 pk pa pd onp br us7 sp8, wPa E a11 a12 a13 a14 a15 a16 a17 zs zd zn zt9 zl10 zc11 nm, wH8 E a18 sto, wH9 E a19 sg]) H → va_S A s.heap H locs → lv_has ls 3 [(2, .int v2), (0, .ref a0), (1, .int p1)] → gl15 S_rec1 n v2 lk3 la4 ll5 lots6 us7 sp8 zt9 zl10 zc11 dy12 hu13 cn14 gn15 cs16 = some res → W p l e ({ frames := 2, cells := 0, slots := 0, locals := 54 } : Room) s m args below meth c H locs 0 0 Q (F0 m 2 ls []) := by
    intro n
    induction n with
    | zero => intro v2 lk3 la4 ll5 lots6 us7 sp8 zt9 zl10 zc11 dy12 hu13 cn14 gn15 cs16 H locs ls hP hS hl h; exact gl15_z h
    | succ n ih_rec1 =>
      intro v2 lk3 la4 ll5 lots6 us7 sp8 zt9 zl10 zc11 dy12 hu13 cn14 gn15 cs16 H locs ls hP hS hl h
      replace hD : va_D A (List.flatten [wHo E a0 a1 a11 a18 a19 dy12 fl hu13 cn14 gn15 cs16, wSt E a1 a2 a3 a4 a5 a6 a7 a8 a9 a10 lk3 la4 ll5 lots6 pk pa pd onp br us7 sp8, wPa E a11 a12 a13 a14 a15 a16 a17 zs zd zn zt9 zl10 zc11 nm, wH8 E a18 sto, wH9 E a19 sg]) := gD_same hD rfl
      replace h : S_rec1 (gl15 S_rec1 n) v2 lk3 la4 ll5 lots6 us7 sp8 zt9 zl10 zc11 dy12 hu13 cn14 gn15 cs16 = some res := h
      generalize gl15 S_rec1 n = rec1 at h ih_rec1
      subst hS_rec1
      refine lv_iload_n hx hb dX1_dayWhenGone_2 rfl (lv_at hl 0 rfl) ?_
      refine lv_sipush (v := (1000 : Int32)) hx hb dX1_dayWhenGone_3 (by decide) ?_
      refine mrg_e h (fun J18 hK_J18 h => ?_)
      have hJ_J18 : ∀ (_ : Unit) (H : Heap) (locs : List Loc) (ls : Array Slot), va_P E.1 vwCl (List.flatten [wHo E a0 a1 a11 a18 a19 dy12 fl hu13 cn14 gn15 cs16, wSt E a1 a2 a3 a4 a5 a6 a7 a8 a9 a10 lk3 la4 ll5 lots6 pk pa pd onp br us7 sp8, wPa E a11 a12 a13 a14 a15 a16 a17 zs zd zn zt9 zl10 zc11 nm, wH8 E a18 sto, wH9 E a19 sg]) H → va_S A s.heap H locs → lv_has ls 3 [(0, .ref a0), (1, .int p1)] → J18 () = some res → W p l e ({ frames := 2, cells := 0, slots := 0, locals := 54 } : Room) s m args below meth c H locs 0 0 Q (F0 m 31 ls []) := by
        intro _ H locs ls hP hS hl h
        replace hD : va_D A (List.flatten [wHo E a0 a1 a11 a18 a19 dy12 fl hu13 cn14 gn15 cs16, wSt E a1 a2 a3 a4 a5 a6 a7 a8 a9 a10 lk3 la4 ll5 lots6 pk pa pd onp br us7 sp8, wPa E a11 a12 a13 a14 a15 a16 a17 zs zd zn zt9 zl10 zc11 nm, wH8 E a18 sto, wH9 E a19 sg]) := gD_same hD rfl
        subst hK_J18
        refine lv_aload_n hx hb dX1_dayWhenGone_31 rfl (lv_at hl 0 rfl) ?_
        refine va_get (D := E.1) (cl := vwCl) (ci := 1) (v := .ref a11) (C := RX1) (T := TX1) (N := 10) hx hb hts hiX1 hown hK hP 0 rfl rfl 1 (by decide) hw0 (fun _ h9 => h9) rfl dX1_dayWhenGone_32 ?_
        refine lv_iload_n hx hb dX1_dayWhenGone_35 rfl (lv_at hl 1 rfl) ?_
        refine lv_iconst (v := (2 : Int32)) hx hb dX1_dayWhenGone_36 (by decide) ?_
        obtain ⟨r39, hc40, h⟩ := bd1_s h
        refine g_callRi (As := [.int p1, .int (2 : Int32)]) (rest := []) (r := r39) ⟨hx, hb, hml, hown, hts⟩ (kX2_hasStatus E l a11 a12 a13 a14 a15 a16 a17 zs zd zn zt9 zl10 zc11 nm p1 (2 : Int32) r39 hc40) (cwV 2 hts gX1_dayWhenGone_X2_hasStatus rfl rfl rfl (by decide +kernel) ⟨Nat.le_of_ble_eq_true rfl, Nat.le_of_ble_eq_true rfl⟩) hK hP hD hS hA hG hl [11, 12, 13, 14, 15, 16, 17] 11 (by decide) rfl (ci := 2) rfl rfl rfl rfl rfl rfl rfl (Nat.le_of_ble_eq_true rfl) dX1_dayWhenGone_37 (Nat.zero_le _) (Nat.zero_le _) (fun H locs hP hD hS => ?_)
        refine lv_if_eq (tgt := 52) hx hb dX1_dayWhenGone_40 (by decide) (fun hc41 => ?_) (fun hc41 => ?_)
        · replace h := g_it hc41 h
          refine lv_bipush (v := (-4 : Int32)) hx hb dX1_dayWhenGone_52 (by decide) ?_
          exact hret ((-4 : Int32), lk3, la4, ll5, lots6, us7, sp8, zt9, zl10, zc11, dy12, hu13, cn14, gn15, cs16) _ _ _ _ _ (Option.some.inj h) hP hS rfl dX1_dayWhenGone_54
        · replace h := g_if hc41 h
          refine lv_aload_n hx hb dX1_dayWhenGone_43 rfl (lv_at hl 0 rfl) ?_
          refine va_get (D := E.1) (cl := vwCl) (ci := 1) (v := .int dy12) (C := RX1) (T := TX1) (N := 10) hx hb hts hiX1 hown hK hP 0 rfl rfl 4 (by decide) hw1 (fun _ h9 => h9) rfl dX1_dayWhenGone_44 ?_
          refine lv_iconst (v := (1 : Int32)) hx hb dX1_dayWhenGone_47 (by decide) ?_
          refine lv_isub hx hb dX1_dayWhenGone_48 ?_
          refine lv_goto (tgt := 54) hx hb dX1_dayWhenGone_49 (by decide) ?_
          exact hret ((dy12 - (1 : Int32)), lk3, la4, ll5, lots6, us7, sp8, zt9, zl10, zc11, dy12, hu13, cn14, gn15, cs16) _ _ _ _ _ (Option.some.inj h) hP hS rfl dX1_dayWhenGone_54
      refine lv_icmp_ge (tgt := 31) hx hb dX1_dayWhenGone_6 (by decide) (fun hc17 => ?_) (fun hc17 => ?_)
      · replace h := g_it hc17 h
        exact hJ_J18 () _ _ _ hP hS (lv_sub hl [1, 2] rfl) h
      · replace h := g_if hc17 h
        refine lv_aload_n hx hb dX1_dayWhenGone_9 rfl (lv_at hl 1 rfl) ?_
        refine va_get (D := E.1) (cl := vwCl) (ci := 1) (v := .ref a11) (C := RX1) (T := TX1) (N := 10) hx hb hts hiX1 hown hK hP 0 rfl rfl 1 (by decide) hw0 (fun _ h9 => h9) rfl dX1_dayWhenGone_10 ?_
        refine lv_iload_n hx hb dX1_dayWhenGone_13 rfl (lv_at hl 2 rfl) ?_
        obtain ⟨r19, hc20, h⟩ := bd1_s h
        refine g_callRi (As := [.int p1]) (rest := []) (r := r19) ⟨hx, hb, hml, hown, hts⟩ (kX2_isAwaited E l a11 a12 a13 a14 a15 a16 a17 zs zd zn zt9 zl10 zc11 nm p1 r19 hc20) (cwV 1 hts gX1_dayWhenGone_X2_isAwaited rfl rfl rfl (by decide +kernel) ⟨Nat.le_of_ble_eq_true rfl, Nat.le_of_ble_eq_true rfl⟩) hK hP hD hS hA hG hl [11, 12, 13, 14, 15, 16, 17] 11 (by decide) rfl (ci := 2) rfl rfl rfl rfl rfl rfl rfl (Nat.le_of_ble_eq_true rfl) dX1_dayWhenGone_14 (Nat.zero_le _) (Nat.zero_le _) (fun H locs hP hD hS => ?_)
        refine lv_if_eq (tgt := 31) hx hb dX1_dayWhenGone_17 (by decide) (fun hc21 => ?_) (fun hc21 => ?_)
        · replace h := g_it hc21 h
          exact hJ_J18 () _ _ _ hP hS (lv_sub hl [1, 2] rfl) h
        · replace h := g_if hc21 h
          refine lv_aload_n hx hb dX1_dayWhenGone_20 rfl (lv_at hl 1 rfl) ?_
          obtain ⟨r22, lk23, la24, ll25, lots26, us27, sp28, zt29, zl30, zc31, dy32, hu33, cn34, gn35, cs36, hc37, h⟩ := bd15_s h
          refine g_callBi (As := []) (rest := []) (r := r22) (bs1 := [wHo E a0 a1 a11 a18 a19 dy32 fl hu33 cn34 gn35 cs36, wSt E a1 a2 a3 a4 a5 a6 a7 a8 a9 a10 lk23 la24 ll25 lots26 pk pa pd onp br us27 sp28, wPa E a11 a12 a13 a14 a15 a16 a17 zs zd zn zt29 zl30 zc31 nm, wH8 E a18 sto, wH9 E a19 sg]) ⟨hx, hb, hml, hown, hts⟩ (kX1_passNight E l a0 a1 a2 a3 a4 a5 a6 a7 a8 a9 a10 a11 a12 a13 a14 a15 a16 a17 a18 a19 lk3 la4 ll5 lots6 pk pa pd onp br us7 sp8 zs zd zn zt9 zl10 zc11 nm sto sg dy12 fl hu13 cn14 gn15 cs16 (r22, lk23, la24, ll25, lots26, us27, sp28, zt29, zl30, zc31, dy32, hu33, cn34, gn35, cs36) hc37) (cwV 0 hts gX1_dayWhenGone_X1_passNight rfl rfl rfl (by decide +kernel) ⟨Nat.le_of_ble_eq_true rfl, Nat.le_of_ble_eq_true rfl⟩) hK hP hD hS hA hG hl [0, 1, 2, 3, 4] 0 0 (by decide) rfl (ci := 1) rfl rfl rfl rfl rfl rfl rfl rfl rfl rfl (Nat.le_of_ble_eq_true rfl) dX1_dayWhenGone_21 (Nat.zero_le _) (Nat.zero_le _) (fun H locs hP hD hS => ?_)
          refine lv_pop hx hb dX1_dayWhenGone_24 rfl ?_
          obtain ⟨v38, e_v38⟩ : ∃ y : Int32, y = (v2 + (1 : Int32)) := ⟨_, rfl⟩
          replace h := jl_s e_v38 h
          refine lv_iinc (v := v38) (lv' := [(2, .int v38), (0, .ref a0), (1, .int p1)]) hx hb dX1_dayWhenGone_25 hl (k := 0) rfl (by rw [e_v38]; rfl) (by decide) rfl (fun ls hl => ?_)
          refine lv_goto (tgt := 2) hx hb dX1_dayWhenGone_28 (by decide) ?_
          exact ih_rec1 v38 lk23 la24 ll25 lots26 us27 sp28 zt29 zl30 zc31 dy32 hu33 cn34 gn35 cs36 _ _ _ hP hS (lv_sub hl [0, 1, 2] rfl) h
  exact hL_rec1 gFU (0 : Int32) lk la ll lots us sp zt zl zc dy hu cn gn cs _ _ _ hP hS (lv_sub hl [0, 1, 2] rfl) h
set_option maxHeartbeats 4000000 in
set_option maxRecDepth 100000 in
theorem kX1_dayWhenOut (E : gE) (l : Launch) (a0 a1 a2 a3 a4 a5 a6 a7 a8 a9 a10 a11 a12 a13 a14 a15 a16 a17 a18 a19 : Nat) (lk : Nat → Int32) (la : Nat → Int32) (ll : Nat → Int32) (lots : Int32) (pk : Nat → Int32) (pa : Nat → Int32) (pd : Nat → Int32) (onp : Int32) (br : Nat → Int32) (us : Nat → Int32) (sp : Nat → Int32) (zs : Nat → Int32) (zd : Nat → Int32) (zn : Nat → Int32) (zt : Nat → Int32) (zl : Nat → Int32) (zc : Nat → Int32) (nm : Int32) (sto : Nat → Int32) (sg : Nat → Int32) (dy : Int32) (fl : Int32) (hu : Int32) (cn : Int32) (gn : Int32) (cs : Int32) (p1 : Int32) (res : Int32 × (Nat → Int32) × (Nat → Int32) × (Nat → Int32) × Int32 × (Nat → Int32) × (Nat → Int32) × (Nat → Int32) × (Nat → Int32) × (Nat → Int32) × Int32 × Int32 × Int32 × Int32 × Int32) (h : fX1_dayWhenOut lk la ll lots us sp zs zd zn zt zl zc nm sto sg dy hu cn gn cs p1 = some res) : gMI E l yX1_dayWhenOut wsX1_dayWhenOut ({ frames := 2, cells := 0, slots := 0, locals := 54 } : Room) [.ref a0, .int p1] (List.flatten [wHo E a0 a1 a11 a18 a19 dy fl hu cn gn cs, wSt E a1 a2 a3 a4 a5 a6 a7 a8 a9 a10 lk la ll lots pk pa pd onp br us sp, wPa E a11 a12 a13 a14 a15 a16 a17 zs zd zn zt zl zc nm, wH8 E a18 sto, wH9 E a19 sg]) (fun res : Int32 × (Nat → Int32) × (Nat → Int32) × (Nat → Int32) × Int32 × (Nat → Int32) × (Nat → Int32) × (Nat → Int32) × (Nat → Int32) × (Nat → Int32) × Int32 × Int32 × Int32 × Int32 × Int32 => (List.flatten [wHo E a0 a1 a11 a18 a19 res.2.2.2.2.2.2.2.2.2.2.1 fl res.2.2.2.2.2.2.2.2.2.2.2.1 res.2.2.2.2.2.2.2.2.2.2.2.2.1 res.2.2.2.2.2.2.2.2.2.2.2.2.2.1 res.2.2.2.2.2.2.2.2.2.2.2.2.2.2, wSt E a1 a2 a3 a4 a5 a6 a7 a8 a9 a10 res.2.1 res.2.2.1 res.2.2.2.1 res.2.2.2.2.1 pk pa pd onp br res.2.2.2.2.2.1 res.2.2.2.2.2.2.1, wPa E a11 a12 a13 a14 a15 a16 a17 zs zd zn res.2.2.2.2.2.2.2.1 res.2.2.2.2.2.2.2.2.1 res.2.2.2.2.2.2.2.2.2.1 nm, wH8 E a18 sto, wH9 E a19 sg])) (fun res => res.1) res := by
  refine g_entI (cc := cX1_dayWhenOut) (maxL := 3) (by decide) rfl (Nat.le_of_ble_eq_true rfl) ?_
  intro p e s m args below meth c A Q ls hx hb hml hown hts hK hP hD hS hA hG hret hl
  unfold fX1_dayWhenOut at h
  replace hl : lv_has ls 3 [(0, .ref a0), (1, .int p1)] := hl
  have hiX1 : ∀ w ∈ wsX10, w ∈ wsX1_dayWhenOut := by decide +kernel
  have hw0 := hts (.fieldLink RX1 21 "GlacierHut$Hut" "parties" "LGlacierHut$Parties;") (by decide +kernel)
  have hw1 := hts (.fieldLink RX1 12 "GlacierHut$Hut" "stores" "LGlacierHut$Stores;") (by decide +kernel)
  have hw2 := hts (.fieldLink RX1 49 "GlacierHut$Hut" "day" "I") (by decide +kernel)
  refine lv_iconst (v := (0 : Int32)) hx hb dX1_dayWhenOut_0 (by decide) ?_
  refine lv_istore_n (lv' := [(2, .int (0 : Int32)), (0, .ref a0), (1, .int p1)]) hx hb dX1_dayWhenOut_1 rfl hl (by decide) rfl (fun ls hl => ?_)
  refine gl15_e h (fun S_rec1 hS_rec1 h => ?_)
  have hL_rec1 : ∀ (n : Nat) (v2 : Int32) (lk3 : Nat → Int32) (la4 : Nat → Int32) (ll5 : Nat → Int32) (lots6 : Int32) (us7 : Nat → Int32) (sp8 : Nat → Int32) (zt9 : Nat → Int32) (zl10 : Nat → Int32) (zc11 : Nat → Int32) (dy12 : Int32) (hu13 : Int32) (cn14 : Int32) (gn15 : Int32) (cs16 : Int32) (H : Heap) (locs : List Loc) (ls : Array Slot), va_P E.1 vwCl (List.flatten [wHo E a0 a1 a11 a18 a19 dy12 fl hu13 cn14 gn15 cs16, wSt E a1 a2 a3 a4 a5 a6 a7 a8 a9 a10 lk3 la4 ll5 lots6 pk pa pd onp br us7 sp8, wPa E a11 a12 a13 a14 a15 a16 a17 zs zd zn zt9 zl10 zc11 nm, wH8 E a18 sto, wH9 E a19 sg]) H → va_S A s.heap H locs → lv_has ls 3 [(2, .int v2), (0, .ref a0), (1, .int p1)] → gl15 S_rec1 n v2 lk3 la4 ll5 lots6 us7 sp8 zt9 zl10 zc11 dy12 hu13 cn14 gn15 cs16 = some res → W p l e ({ frames := 2, cells := 0, slots := 0, locals := 54 } : Room) s m args below meth c H locs 0 0 Q (F0 m 2 ls []) := by
    intro n
    induction n with
    | zero => intro v2 lk3 la4 ll5 lots6 us7 sp8 zt9 zl10 zc11 dy12 hu13 cn14 gn15 cs16 H locs ls hP hS hl h; exact gl15_z h
    | succ n ih_rec1 =>
      intro v2 lk3 la4 ll5 lots6 us7 sp8 zt9 zl10 zc11 dy12 hu13 cn14 gn15 cs16 H locs ls hP hS hl h
      replace hD : va_D A (List.flatten [wHo E a0 a1 a11 a18 a19 dy12 fl hu13 cn14 gn15 cs16, wSt E a1 a2 a3 a4 a5 a6 a7 a8 a9 a10 lk3 la4 ll5 lots6 pk pa pd onp br us7 sp8, wPa E a11 a12 a13 a14 a15 a16 a17 zs zd zn zt9 zl10 zc11 nm, wH8 E a18 sto, wH9 E a19 sg]) := gD_same hD rfl
      replace h : S_rec1 (gl15 S_rec1 n) v2 lk3 la4 ll5 lots6 us7 sp8 zt9 zl10 zc11 dy12 hu13 cn14 gn15 cs16 = some res := h
      generalize gl15 S_rec1 n = rec1 at h ih_rec1
      subst hS_rec1
      refine lv_iload_n hx hb dX1_dayWhenOut_2 rfl (lv_at hl 0 rfl) ?_
      refine lv_sipush (v := (1000 : Int32)) hx hb dX1_dayWhenOut_3 (by decide) ?_
      refine lv_icmp_ge (tgt := 48) hx hb dX1_dayWhenOut_6 (by decide) (fun hc17 => ?_) (fun hc17 => ?_)
      · replace h := g_it hc17 h
        refine lv_bipush (v := (-4 : Int32)) hx hb dX1_dayWhenOut_48 (by decide) ?_
        exact hret ((-4 : Int32), lk3, la4, ll5, lots6, us7, sp8, zt9, zl10, zc11, dy12, hu13, cn14, gn15, cs16) _ _ _ _ _ (Option.some.inj h) hP hS rfl dX1_dayWhenOut_50
      · replace h := g_if hc17 h
        refine lv_aload_n hx hb dX1_dayWhenOut_9 rfl (lv_at hl 1 rfl) ?_
        refine va_get (D := E.1) (cl := vwCl) (ci := 1) (v := .ref a11) (C := RX1) (T := TX1) (N := 10) hx hb hts hiX1 hown hK hP 0 rfl rfl 1 (by decide) hw0 (fun _ h9 => h9) rfl dX1_dayWhenOut_10 ?_
        obtain ⟨r18, hc19, h⟩ := bd1_s h
        refine g_callRi (As := []) (rest := []) (r := r18) ⟨hx, hb, hml, hown, hts⟩ (kX2_anyAwaited E l a11 a12 a13 a14 a15 a16 a17 zs zd zn zt9 zl10 zc11 nm r18 hc19) (cwV 0 hts gX1_dayWhenOut_X2_anyAwaited rfl rfl rfl (by decide +kernel) ⟨Nat.le_of_ble_eq_true rfl, Nat.le_of_ble_eq_true rfl⟩) hK hP hD hS hA hG hl [11, 12, 13, 14, 15, 16, 17] 11 (by decide) rfl (ci := 2) rfl rfl rfl rfl rfl rfl rfl (Nat.le_of_ble_eq_true rfl) dX1_dayWhenOut_13 (Nat.zero_le _) (Nat.zero_le _) (fun H locs hP hD hS => ?_)
        refine lv_if_eq (tgt := 48) hx hb dX1_dayWhenOut_16 (by decide) (fun hc20 => ?_) (fun hc20 => ?_)
        · replace h := g_it hc20 h
          refine lv_bipush (v := (-4 : Int32)) hx hb dX1_dayWhenOut_48 (by decide) ?_
          exact hret ((-4 : Int32), lk3, la4, ll5, lots6, us7, sp8, zt9, zl10, zc11, dy12, hu13, cn14, gn15, cs16) _ _ _ _ _ (Option.some.inj h) hP hS rfl dX1_dayWhenOut_50
        · replace h := g_if hc20 h
          refine lv_aload_n hx hb dX1_dayWhenOut_19 rfl (lv_at hl 1 rfl) ?_
          obtain ⟨r21, lk22, la23, ll24, lots25, us26, sp27, zt28, zl29, zc30, dy31, hu32, cn33, gn34, cs35, hc36, h⟩ := bd15_s h
          refine g_callBi (As := []) (rest := []) (r := r21) (bs1 := [wHo E a0 a1 a11 a18 a19 dy31 fl hu32 cn33 gn34 cs35, wSt E a1 a2 a3 a4 a5 a6 a7 a8 a9 a10 lk22 la23 ll24 lots25 pk pa pd onp br us26 sp27, wPa E a11 a12 a13 a14 a15 a16 a17 zs zd zn zt28 zl29 zc30 nm, wH8 E a18 sto, wH9 E a19 sg]) ⟨hx, hb, hml, hown, hts⟩ (kX1_passNight E l a0 a1 a2 a3 a4 a5 a6 a7 a8 a9 a10 a11 a12 a13 a14 a15 a16 a17 a18 a19 lk3 la4 ll5 lots6 pk pa pd onp br us7 sp8 zs zd zn zt9 zl10 zc11 nm sto sg dy12 fl hu13 cn14 gn15 cs16 (r21, lk22, la23, ll24, lots25, us26, sp27, zt28, zl29, zc30, dy31, hu32, cn33, gn34, cs35) hc36) (cwV 0 hts gX1_dayWhenOut_X1_passNight rfl rfl rfl (by decide +kernel) ⟨Nat.le_of_ble_eq_true rfl, Nat.le_of_ble_eq_true rfl⟩) hK hP hD hS hA hG hl [0, 1, 2, 3, 4] 0 0 (by decide) rfl (ci := 1) rfl rfl rfl rfl rfl rfl rfl rfl rfl rfl (Nat.le_of_ble_eq_true rfl) dX1_dayWhenOut_20 (Nat.zero_le _) (Nat.zero_le _) (fun H locs hP hD hS => ?_)
          refine lv_pop hx hb dX1_dayWhenOut_23 rfl ?_
          refine lv_aload_n hx hb dX1_dayWhenOut_24 rfl (lv_at hl 1 rfl) ?_
          refine va_get (D := E.1) (cl := vwCl) (ci := 1) (v := .ref a1) (C := RX1) (T := TX1) (N := 10) hx hb hts hiX1 hown hK hP 0 rfl rfl 0 (by decide) hw1 (fun _ h9 => h9) rfl dX1_dayWhenOut_25 ?_
          refine lv_iload_n hx hb dX1_dayWhenOut_28 rfl (lv_at hl 2 rfl) ?_
          obtain ⟨r37, hc38, h⟩ := bd1_s h
          refine g_callRi (As := [.int p1]) (rest := []) (r := r37) ⟨hx, hb, hml, hown, hts⟩ (kX4_stock E l a1 a2 a3 a4 a5 a6 a7 a8 a9 a10 lk22 la23 ll24 lots25 pk pa pd onp br us26 sp27 p1 r37 hc38) (cwV 1 hts gX1_dayWhenOut_X4_stock rfl rfl rfl (by decide +kernel) ⟨Nat.le_of_ble_eq_true rfl, Nat.le_of_ble_eq_true rfl⟩) hK hP hD hS hA hG hl [1, 2, 3, 4, 5, 6, 7, 8, 9, 10] 1 (by decide) rfl (ci := 4) rfl rfl rfl rfl rfl rfl rfl (Nat.le_of_ble_eq_true rfl) dX1_dayWhenOut_29 (Nat.zero_le _) (Nat.zero_le _) (fun H locs hP hD hS => ?_)
          refine lv_if_ne (tgt := 42) hx hb dX1_dayWhenOut_32 (by decide) (fun hc39 => ?_) (fun hc39 => ?_)
          · replace h := g_if hc39 h
            obtain ⟨v40, e_v40⟩ : ∃ y : Int32, y = (v2 + (1 : Int32)) := ⟨_, rfl⟩
            replace h := jl_s e_v40 h
            refine lv_iinc (v := v40) (lv' := [(2, .int v40), (0, .ref a0), (1, .int p1)]) hx hb dX1_dayWhenOut_42 hl (k := 0) rfl (by rw [e_v40]; rfl) (by decide) rfl (fun ls hl => ?_)
            refine lv_goto (tgt := 2) hx hb dX1_dayWhenOut_45 (by decide) ?_
            exact ih_rec1 v40 lk22 la23 ll24 lots25 us26 sp27 zt28 zl29 zc30 dy31 hu32 cn33 gn34 cs35 _ _ _ hP hS (lv_sub hl [0, 1, 2] rfl) h
          · replace h := g_it hc39 h
            refine lv_aload_n hx hb dX1_dayWhenOut_35 rfl (lv_at hl 1 rfl) ?_
            refine va_get (D := E.1) (cl := vwCl) (ci := 1) (v := .int dy31) (C := RX1) (T := TX1) (N := 10) hx hb hts hiX1 hown hK hP 0 rfl rfl 4 (by decide) hw2 (fun _ h9 => h9) rfl dX1_dayWhenOut_36 ?_
            refine lv_iconst (v := (1 : Int32)) hx hb dX1_dayWhenOut_39 (by decide) ?_
            refine lv_isub hx hb dX1_dayWhenOut_40 ?_
            exact hret ((dy31 - (1 : Int32)), lk22, la23, ll24, lots25, us26, sp27, zt28, zl29, zc30, dy31, hu32, cn33, gn34, cs35) _ _ _ _ _ (Option.some.inj h) hP hS rfl dX1_dayWhenOut_41
  exact hL_rec1 gFU (0 : Int32) lk la ll lots us sp zt zl zc dy hu cn gn cs _ _ _ hP hS (lv_sub hl [0, 1, 2] rfl) h
set_option maxHeartbeats 4000000 in
set_option maxRecDepth 100000 in
theorem kX1_mayBeBooked (E : gE) (l : Launch) (a0 a1 a2 a3 a4 a5 a6 a7 a8 a9 a10 a11 a12 a13 a14 a15 a16 a17 a18 a19 : Nat) (lk : Nat → Int32) (la : Nat → Int32) (ll : Nat → Int32) (lots : Int32) (pk : Nat → Int32) (pa : Nat → Int32) (pd : Nat → Int32) (onp : Int32) (br : Nat → Int32) (us : Nat → Int32) (sp : Nat → Int32) (zs : Nat → Int32) (zd : Nat → Int32) (zn : Nat → Int32) (zt : Nat → Int32) (zl : Nat → Int32) (zc : Nat → Int32) (nm : Int32) (sto : Nat → Int32) (sg : Nat → Int32) (dy : Int32) (fl : Int32) (hu : Int32) (cn : Int32) (gn : Int32) (cs : Int32) (p1 : Int32) (p2 : Int32) (p3 : Int32) (res : Int32) (h : fX1_mayBeBooked dy p1 p2 p3 = some res) : gMI E l yX1_mayBeBooked wsX1_mayBeBooked ({ frames := 0, cells := 0, slots := 0, locals := 0 } : Room) [.ref a0, .int p1, .int p2, .int p3] (List.flatten [wHo E a0 a1 a11 a18 a19 dy fl hu cn gn cs, wSt E a1 a2 a3 a4 a5 a6 a7 a8 a9 a10 lk la ll lots pk pa pd onp br us sp, wPa E a11 a12 a13 a14 a15 a16 a17 zs zd zn zt zl zc nm, wH8 E a18 sto, wH9 E a19 sg]) (fun res : Int32 => (List.flatten [wHo E a0 a1 a11 a18 a19 dy fl hu cn gn cs, wSt E a1 a2 a3 a4 a5 a6 a7 a8 a9 a10 lk la ll lots pk pa pd onp br us sp, wPa E a11 a12 a13 a14 a15 a16 a17 zs zd zn zt zl zc nm, wH8 E a18 sto, wH9 E a19 sg])) (fun res => res) res := by
  refine g_entZ (cc := cX1_mayBeBooked) (maxL := 4) (by decide) rfl (Nat.le_of_ble_eq_true rfl) ?_
  intro p e s m args below meth c A Q ls hx hb hml hown hts hK hP hD hS hA hG hret hl
  unfold fX1_mayBeBooked at h
  replace hl : lv_has ls 4 [(0, .ref a0), (1, .int p1), (2, .int p2), (3, .int p3)] := hl
  have hiX1 : ∀ w ∈ wsX10, w ∈ wsX1_mayBeBooked := by decide +kernel
  have hw0 := hts (.fieldLink RX1 49 "GlacierHut$Hut" "day" "I") (by decide +kernel)
  refine lv_iload_n hx hb dX1_mayBeBooked_0 rfl (lv_at hl 1 rfl) ?_
  refine lv_iconst (v := (1 : Int32)) hx hb dX1_mayBeBooked_1 (by decide) ?_
  refine lv_icmp_lt (tgt := 41) hx hb dX1_mayBeBooked_2 (by decide) (fun hc1 => ?_) (fun hc1 => ?_)
  · replace h := g_it hc1 h
    refine lv_iconst (v := (0 : Int32)) hx hb dX1_mayBeBooked_41 (by decide) ?_
    exact hret (0 : Int32) _ _ _ _ _ (Option.some.inj h) hP hS rfl rfl dX1_mayBeBooked_42
  · replace h := g_if hc1 h
    refine lv_iload_n hx hb dX1_mayBeBooked_5 rfl (lv_at hl 1 rfl) ?_
    refine lv_bipush (v := (6 : Int32)) hx hb dX1_mayBeBooked_6 (by decide) ?_
    refine lv_icmp_gt (tgt := 41) hx hb dX1_mayBeBooked_8 (by decide) (fun hc2 => ?_) (fun hc2 => ?_)
    · replace h := g_it hc2 h
      refine lv_iconst (v := (0 : Int32)) hx hb dX1_mayBeBooked_41 (by decide) ?_
      exact hret (0 : Int32) _ _ _ _ _ (Option.some.inj h) hP hS rfl rfl dX1_mayBeBooked_42
    · replace h := g_if hc2 h
      refine lv_iload_n hx hb dX1_mayBeBooked_11 rfl (lv_at hl 2 rfl) ?_
      refine lv_aload_n hx hb dX1_mayBeBooked_12 rfl (lv_at hl 0 rfl) ?_
      refine va_get (D := E.1) (cl := vwCl) (ci := 1) (v := .int dy) (C := RX1) (T := TX1) (N := 10) hx hb hts hiX1 hown hK hP 0 rfl rfl 4 (by decide) hw0 (fun _ h9 => h9) rfl dX1_mayBeBooked_13 ?_
      refine lv_icmp_lt (tgt := 41) hx hb dX1_mayBeBooked_16 (by decide) (fun hc3 => ?_) (fun hc3 => ?_)
      · replace h := g_it hc3 h
        refine lv_iconst (v := (0 : Int32)) hx hb dX1_mayBeBooked_41 (by decide) ?_
        exact hret (0 : Int32) _ _ _ _ _ (Option.some.inj h) hP hS rfl rfl dX1_mayBeBooked_42
      · replace h := g_if hc3 h
        refine lv_iload_n hx hb dX1_mayBeBooked_19 rfl (lv_at hl 2 rfl) ?_
        refine lv_sipush (v := (365 : Int32)) hx hb dX1_mayBeBooked_20 (by decide) ?_
        refine lv_icmp_gt (tgt := 41) hx hb dX1_mayBeBooked_23 (by decide) (fun hc4 => ?_) (fun hc4 => ?_)
        · replace h := g_it hc4 h
          refine lv_iconst (v := (0 : Int32)) hx hb dX1_mayBeBooked_41 (by decide) ?_
          exact hret (0 : Int32) _ _ _ _ _ (Option.some.inj h) hP hS rfl rfl dX1_mayBeBooked_42
        · replace h := g_if hc4 h
          refine lv_iload_n hx hb dX1_mayBeBooked_26 rfl (lv_at hl 3 rfl) ?_
          refine lv_iconst (v := (1 : Int32)) hx hb dX1_mayBeBooked_27 (by decide) ?_
          refine lv_icmp_lt (tgt := 41) hx hb dX1_mayBeBooked_28 (by decide) (fun hc5 => ?_) (fun hc5 => ?_)
          · replace h := g_it hc5 h
            refine lv_iconst (v := (0 : Int32)) hx hb dX1_mayBeBooked_41 (by decide) ?_
            exact hret (0 : Int32) _ _ _ _ _ (Option.some.inj h) hP hS rfl rfl dX1_mayBeBooked_42
          · replace h := g_if hc5 h
            refine lv_iload_n hx hb dX1_mayBeBooked_31 rfl (lv_at hl 3 rfl) ?_
            refine lv_bipush (v := (9 : Int32)) hx hb dX1_mayBeBooked_32 (by decide) ?_
            refine lv_icmp_gt (tgt := 41) hx hb dX1_mayBeBooked_34 (by decide) (fun hc6 => ?_) (fun hc6 => ?_)
            · replace h := g_it hc6 h
              refine lv_iconst (v := (0 : Int32)) hx hb dX1_mayBeBooked_41 (by decide) ?_
              exact hret (0 : Int32) _ _ _ _ _ (Option.some.inj h) hP hS rfl rfl dX1_mayBeBooked_42
            · replace h := g_if hc6 h
              refine lv_iconst (v := (1 : Int32)) hx hb dX1_mayBeBooked_37 (by decide) ?_
              refine lv_goto (tgt := 42) hx hb dX1_mayBeBooked_38 (by decide) ?_
              exact hret (1 : Int32) _ _ _ _ _ (Option.some.inj h) hP hS rfl rfl dX1_mayBeBooked_42
set_option maxHeartbeats 4000000 in
set_option maxRecDepth 100000 in
theorem kX1_passNights (E : gE) (l : Launch) (a0 a1 a2 a3 a4 a5 a6 a7 a8 a9 a10 a11 a12 a13 a14 a15 a16 a17 a18 a19 : Nat) (lk : Nat → Int32) (la : Nat → Int32) (ll : Nat → Int32) (lots : Int32) (pk : Nat → Int32) (pa : Nat → Int32) (pd : Nat → Int32) (onp : Int32) (br : Nat → Int32) (us : Nat → Int32) (sp : Nat → Int32) (zs : Nat → Int32) (zd : Nat → Int32) (zn : Nat → Int32) (zt : Nat → Int32) (zl : Nat → Int32) (zc : Nat → Int32) (nm : Int32) (sto : Nat → Int32) (sg : Nat → Int32) (dy : Int32) (fl : Int32) (hu : Int32) (cn : Int32) (gn : Int32) (cs : Int32) (p1 : Int32) (res : Int32 × (Nat → Int32) × (Nat → Int32) × (Nat → Int32) × Int32 × (Nat → Int32) × (Nat → Int32) × (Nat → Int32) × (Nat → Int32) × (Nat → Int32) × Int32 × Int32 × Int32 × Int32 × Int32) (h : fX1_passNights lk la ll lots us sp zs zd zn zt zl zc nm sto sg dy hu cn gn cs p1 = some res) : gMI E l yX1_passNights wsX1_passNights ({ frames := 2, cells := 0, slots := 0, locals := 54 } : Room) [.ref a0, .int p1] (List.flatten [wHo E a0 a1 a11 a18 a19 dy fl hu cn gn cs, wSt E a1 a2 a3 a4 a5 a6 a7 a8 a9 a10 lk la ll lots pk pa pd onp br us sp, wPa E a11 a12 a13 a14 a15 a16 a17 zs zd zn zt zl zc nm, wH8 E a18 sto, wH9 E a19 sg]) (fun res : Int32 × (Nat → Int32) × (Nat → Int32) × (Nat → Int32) × Int32 × (Nat → Int32) × (Nat → Int32) × (Nat → Int32) × (Nat → Int32) × (Nat → Int32) × Int32 × Int32 × Int32 × Int32 × Int32 => (List.flatten [wHo E a0 a1 a11 a18 a19 res.2.2.2.2.2.2.2.2.2.2.1 fl res.2.2.2.2.2.2.2.2.2.2.2.1 res.2.2.2.2.2.2.2.2.2.2.2.2.1 res.2.2.2.2.2.2.2.2.2.2.2.2.2.1 res.2.2.2.2.2.2.2.2.2.2.2.2.2.2, wSt E a1 a2 a3 a4 a5 a6 a7 a8 a9 a10 res.2.1 res.2.2.1 res.2.2.2.1 res.2.2.2.2.1 pk pa pd onp br res.2.2.2.2.2.1 res.2.2.2.2.2.2.1, wPa E a11 a12 a13 a14 a15 a16 a17 zs zd zn res.2.2.2.2.2.2.2.1 res.2.2.2.2.2.2.2.2.1 res.2.2.2.2.2.2.2.2.2.1 nm, wH8 E a18 sto, wH9 E a19 sg])) (fun res => res.1) res := by
  refine g_entI (cc := cX1_passNights) (maxL := 4) (by decide) rfl (Nat.le_of_ble_eq_true rfl) ?_
  intro p e s m args below meth c A Q ls hx hb hml hown hts hK hP hD hS hA hG hret hl
  unfold fX1_passNights at h
  replace hl : lv_has ls 4 [(0, .ref a0), (1, .int p1)] := hl
  have hiX1 : ∀ w ∈ wsX10, w ∈ wsX1_passNights := by decide +kernel
  have hw0 := hts (.fieldLink RX1 49 "GlacierHut$Hut" "day" "I") (by decide +kernel)
  have hw1 := hts (.fieldLink RX1 56 "GlacierHut$Hut" "hungry" "I") (by decide +kernel)
  refine lv_iload_n hx hb dX1_passNights_0 rfl (lv_at hl 1 rfl) ?_
  refine lv_iconst (v := (1 : Int32)) hx hb dX1_passNights_1 (by decide) ?_
  refine lv_icmp_lt (tgt := 11) hx hb dX1_passNights_2 (by decide) (fun hc1 => ?_) (fun hc1 => ?_)
  · replace h := g_it hc1 h
    refine lv_iconst (v := (-1 : Int32)) hx hb dX1_passNights_11 (by decide) ?_
    exact hret ((-1 : Int32), lk, la, ll, lots, us, sp, zt, zl, zc, dy, hu, cn, gn, cs) _ _ _ _ _ (Option.some.inj h) hP hS rfl dX1_passNights_12
  · replace h := g_if hc1 h
    refine lv_iload_n hx hb dX1_passNights_5 rfl (lv_at hl 1 rfl) ?_
    refine lv_bipush (v := (60 : Int32)) hx hb dX1_passNights_6 (by decide) ?_
    refine lv_icmp_le (tgt := 13) hx hb dX1_passNights_8 (by decide) (fun hc2 => ?_) (fun hc2 => ?_)
    · replace h := g_it hc2 h
      refine lv_aload_n hx hb dX1_passNights_13 rfl (lv_at hl 0 rfl) ?_
      refine va_get (D := E.1) (cl := vwCl) (ci := 1) (v := .int dy) (C := RX1) (T := TX1) (N := 10) hx hb hts hiX1 hown hK hP 0 rfl rfl 4 (by decide) hw0 (fun _ h9 => h9) rfl dX1_passNights_14 ?_
      refine lv_iload_n hx hb dX1_passNights_17 rfl (lv_at hl 1 rfl) ?_
      refine lv_iadd hx hb dX1_passNights_18 ?_
      refine lv_sipush (v := (365 : Int32)) hx hb dX1_passNights_19 (by decide) ?_
      refine lv_icmp_le (tgt := 28) hx hb dX1_passNights_22 (by decide) (fun hc3 => ?_) (fun hc3 => ?_)
      · replace h := g_it hc3 h
        refine lv_aload_n hx hb dX1_passNights_28 rfl (lv_at hl 0 rfl) ?_
        refine va_get (D := E.1) (cl := vwCl) (ci := 1) (v := .int hu) (C := RX1) (T := TX1) (N := 10) hx hb hts hiX1 hown hK hP 0 rfl rfl 6 (by decide) hw1 (fun _ h9 => h9) rfl dX1_passNights_29 ?_
        refine lv_istore_n (lv' := [(2, .int hu), (0, .ref a0), (1, .int p1)]) hx hb dX1_passNights_32 rfl hl (by decide) rfl (fun ls hl => ?_)
        refine lv_iconst (v := (0 : Int32)) hx hb dX1_passNights_33 (by decide) ?_
        refine lv_istore_n (lv' := [(3, .int (0 : Int32)), (2, .int hu), (0, .ref a0), (1, .int p1)]) hx hb dX1_passNights_34 rfl hl (by decide) rfl (fun ls hl => ?_)
        refine gl15_e h (fun S_rec4 hS_rec4 h => ?_)
        have hL_rec4 : ∀ (n : Nat) (v5 : Int32) (lk6 : Nat → Int32) (la7 : Nat → Int32) (ll8 : Nat → Int32) (lots9 : Int32) (us10 : Nat → Int32) (sp11 : Nat → Int32) (zt12 : Nat → Int32) (zl13 : Nat → Int32) (zc14 : Nat → Int32) (dy15 : Int32) (hu16 : Int32) (cn17 : Int32) (gn18 : Int32) (cs19 : Int32) (H : Heap) (locs : List Loc) (ls : Array Slot), va_P E.1 vwCl (List.flatten [wHo E a0 a1 a11 a18 a19 dy15 fl hu16 cn17 gn18 cs19, wSt E a1 a2 a3 a4 a5 a6 a7 a8 a9 a10 lk6 la7 ll8 lots9 pk pa pd onp br us10 sp11, wPa E a11 a12 a13 a14 a15 a16 a17 zs zd zn zt12 zl13 zc14 nm, wH8 E a18 sto, wH9 E a19 sg]) H → va_S A s.heap H locs → lv_has ls 4 [(3, .int v5), (2, .int hu), (0, .ref a0), (1, .int p1)] → gl15 S_rec4 n v5 lk6 la7 ll8 lots9 us10 sp11 zt12 zl13 zc14 dy15 hu16 cn17 gn18 cs19 = some res → W p l e ({ frames := 2, cells := 0, slots := 0, locals := 54 } : Room) s m args below meth c H locs 0 0 Q (F0 m 35 ls []) := by
          intro n
          induction n with
          | zero => intro v5 lk6 la7 ll8 lots9 us10 sp11 zt12 zl13 zc14 dy15 hu16 cn17 gn18 cs19 H locs ls hP hS hl h; exact gl15_z h
          | succ n ih_rec4 =>
            intro v5 lk6 la7 ll8 lots9 us10 sp11 zt12 zl13 zc14 dy15 hu16 cn17 gn18 cs19 H locs ls hP hS hl h
            replace hD : va_D A (List.flatten [wHo E a0 a1 a11 a18 a19 dy15 fl hu16 cn17 gn18 cs19, wSt E a1 a2 a3 a4 a5 a6 a7 a8 a9 a10 lk6 la7 ll8 lots9 pk pa pd onp br us10 sp11, wPa E a11 a12 a13 a14 a15 a16 a17 zs zd zn zt12 zl13 zc14 nm, wH8 E a18 sto, wH9 E a19 sg]) := gD_same hD rfl
            replace h : S_rec4 (gl15 S_rec4 n) v5 lk6 la7 ll8 lots9 us10 sp11 zt12 zl13 zc14 dy15 hu16 cn17 gn18 cs19 = some res := h
            generalize gl15 S_rec4 n = rec4 at h ih_rec4
            subst hS_rec4
            refine lv_iload_n hx hb dX1_passNights_35 rfl (lv_at hl 0 rfl) ?_
            refine lv_iload_n hx hb dX1_passNights_36 rfl (lv_at hl 3 rfl) ?_
            refine lv_icmp_ge (tgt := 51) hx hb dX1_passNights_37 (by decide) (fun hc20 => ?_) (fun hc20 => ?_)
            · replace h := g_it hc20 h
              refine lv_aload_n hx hb dX1_passNights_51 rfl (lv_at hl 2 rfl) ?_
              refine va_get (D := E.1) (cl := vwCl) (ci := 1) (v := .int hu16) (C := RX1) (T := TX1) (N := 10) hx hb hts hiX1 hown hK hP 0 rfl rfl 6 (by decide) hw1 (fun _ h9 => h9) rfl dX1_passNights_52 ?_
              refine lv_iload_n hx hb dX1_passNights_55 rfl (lv_at hl 1 rfl) ?_
              refine lv_isub hx hb dX1_passNights_56 ?_
              exact hret ((hu16 - hu), lk6, la7, ll8, lots9, us10, sp11, zt12, zl13, zc14, dy15, hu16, cn17, gn18, cs19) _ _ _ _ _ (Option.some.inj h) hP hS rfl dX1_passNights_57
            · replace h := g_if hc20 h
              refine lv_aload_n hx hb dX1_passNights_40 rfl (lv_at hl 2 rfl) ?_
              obtain ⟨r21, lk22, la23, ll24, lots25, us26, sp27, zt28, zl29, zc30, dy31, hu32, cn33, gn34, cs35, hc36, h⟩ := bd15_s h
              refine g_callBi (As := []) (rest := []) (r := r21) (bs1 := [wHo E a0 a1 a11 a18 a19 dy31 fl hu32 cn33 gn34 cs35, wSt E a1 a2 a3 a4 a5 a6 a7 a8 a9 a10 lk22 la23 ll24 lots25 pk pa pd onp br us26 sp27, wPa E a11 a12 a13 a14 a15 a16 a17 zs zd zn zt28 zl29 zc30 nm, wH8 E a18 sto, wH9 E a19 sg]) ⟨hx, hb, hml, hown, hts⟩ (kX1_passNight E l a0 a1 a2 a3 a4 a5 a6 a7 a8 a9 a10 a11 a12 a13 a14 a15 a16 a17 a18 a19 lk6 la7 ll8 lots9 pk pa pd onp br us10 sp11 zs zd zn zt12 zl13 zc14 nm sto sg dy15 fl hu16 cn17 gn18 cs19 (r21, lk22, la23, ll24, lots25, us26, sp27, zt28, zl29, zc30, dy31, hu32, cn33, gn34, cs35) hc36) (cwV 0 hts gX1_passNights_X1_passNight rfl rfl rfl (by decide +kernel) ⟨Nat.le_of_ble_eq_true rfl, Nat.le_of_ble_eq_true rfl⟩) hK hP hD hS hA hG hl [0, 1, 2, 3, 4] 0 0 (by decide) rfl (ci := 1) rfl rfl rfl rfl rfl rfl rfl rfl rfl rfl (Nat.le_of_ble_eq_true rfl) dX1_passNights_41 (Nat.zero_le _) (Nat.zero_le _) (fun H locs hP hD hS => ?_)
              refine lv_pop hx hb dX1_passNights_44 rfl ?_
              obtain ⟨v37, e_v37⟩ : ∃ y : Int32, y = (v5 + (1 : Int32)) := ⟨_, rfl⟩
              replace h := jl_s e_v37 h
              refine lv_iinc (v := v37) (lv' := [(3, .int v37), (2, .int hu), (0, .ref a0), (1, .int p1)]) hx hb dX1_passNights_45 hl (k := 0) rfl (by rw [e_v37]; rfl) (by decide) rfl (fun ls hl => ?_)
              refine lv_goto (tgt := 35) hx hb dX1_passNights_48 (by decide) ?_
              exact ih_rec4 v37 lk22 la23 ll24 lots25 us26 sp27 zt28 zl29 zc30 dy31 hu32 cn33 gn34 cs35 _ _ _ hP hS (lv_sub hl [0, 1, 2, 3] rfl) h
        exact hL_rec4 gFU (0 : Int32) lk la ll lots us sp zt zl zc dy hu cn gn cs _ _ _ hP hS (lv_sub hl [0, 1, 2, 3] rfl) h
      · replace h := g_if hc3 h
        refine lv_bipush (v := (-3 : Int32)) hx hb dX1_passNights_25 (by decide) ?_
        exact hret ((-3 : Int32), lk, la, ll, lots, us, sp, zt, zl, zc, dy, hu, cn, gn, cs) _ _ _ _ _ (Option.some.inj h) hP hS rfl dX1_passNights_27
    · replace h := g_if hc2 h
      refine lv_iconst (v := (-1 : Int32)) hx hb dX1_passNights_11 (by decide) ?_
      exact hret ((-1 : Int32), lk, la, ll, lots, us, sp, zt, zl, zc, dy, hu, cn, gn, cs) _ _ _ _ _ (Option.some.inj h) hP hS rfl dX1_passNights_12
set_option maxHeartbeats 4000000 in
set_option maxRecDepth 100000 in
theorem kX1_putOnPallet (E : gE) (l : Launch) (a0 a1 a2 a3 a4 a5 a6 a7 a8 a9 a10 a11 a12 a13 a14 a15 a16 a17 a18 a19 : Nat) (lk : Nat → Int32) (la : Nat → Int32) (ll : Nat → Int32) (lots : Int32) (pk : Nat → Int32) (pa : Nat → Int32) (pd : Nat → Int32) (onp : Int32) (br : Nat → Int32) (us : Nat → Int32) (sp : Nat → Int32) (zs : Nat → Int32) (zd : Nat → Int32) (zn : Nat → Int32) (zt : Nat → Int32) (zl : Nat → Int32) (zc : Nat → Int32) (nm : Int32) (sto : Nat → Int32) (sg : Nat → Int32) (dy : Int32) (fl : Int32) (hu : Int32) (cn : Int32) (gn : Int32) (cs : Int32) (p1 : Int32) (p2 : Int32) (p3 : Int32) (res : Int32 × (Nat → Int32) × (Nat → Int32) × (Nat → Int32) × Int32) (h : fX1_putOnPallet pk pa pd onp p1 p2 p3 = some res) : gMI E l yX1_putOnPallet wsX1_putOnPallet ({ frames := 1, cells := 0, slots := 0, locals := 23 } : Room) [.ref a0, .int p1, .int p2, .int p3] (List.flatten [wHo E a0 a1 a11 a18 a19 dy fl hu cn gn cs, wSt E a1 a2 a3 a4 a5 a6 a7 a8 a9 a10 lk la ll lots pk pa pd onp br us sp, wPa E a11 a12 a13 a14 a15 a16 a17 zs zd zn zt zl zc nm, wH8 E a18 sto, wH9 E a19 sg]) (fun res : Int32 × (Nat → Int32) × (Nat → Int32) × (Nat → Int32) × Int32 => (List.flatten [wHo E a0 a1 a11 a18 a19 dy fl hu cn gn cs, wSt E a1 a2 a3 a4 a5 a6 a7 a8 a9 a10 lk la ll lots res.2.1 res.2.2.1 res.2.2.2.1 res.2.2.2.2 br us sp, wPa E a11 a12 a13 a14 a15 a16 a17 zs zd zn zt zl zc nm, wH8 E a18 sto, wH9 E a19 sg])) (fun res => res.1) res := by
  refine g_entI (cc := cX1_putOnPallet) (maxL := 4) (by decide) rfl (Nat.le_of_ble_eq_true rfl) ?_
  intro p e s m args below meth c A Q ls hx hb hml hown hts hK hP hD hS hA hG hret hl
  unfold fX1_putOnPallet at h
  replace hl : lv_has ls 4 [(0, .ref a0), (1, .int p1), (2, .int p2), (3, .int p3)] := hl
  have hiX1 : ∀ w ∈ wsX10, w ∈ wsX1_putOnPallet := by decide +kernel
  have hiX4 : ∀ w ∈ wsX40, w ∈ wsX1_putOnPallet := by decide +kernel
  have hw0 := hts (.fieldLink RX1 12 "GlacierHut$Hut" "stores" "LGlacierHut$Stores;") (by decide +kernel)
  have hw1 := hts (.fieldLink RX1 72 "GlacierHut$Stores" "onPallet" "I") (by decide +kernel)
  refine lv_iload_n hx hb dX1_putOnPallet_0 rfl (lv_at hl 1 rfl) ?_
  obtain ⟨r1, hc2, h⟩ := bd1_s h
  refine g_callSi (As := [.int p1]) (rest := []) (r := r1) ⟨hx, hb, hml, hown, hts⟩ (kX4_isKind E l p1 r1 hc2) (va_cwS 1 hts gX1_putOnPallet_X4_isKind rfl rfl rfl (by decide +kernel) ⟨Nat.le_of_ble_eq_true rfl, Nat.le_of_ble_eq_true rfl⟩) hK hP hD hS hA hG hl rfl rfl rfl (Nat.le_of_ble_eq_true rfl) dX1_putOnPallet_1 (Nat.zero_le _) (Nat.zero_le _) (fun H locs hP hD hS => ?_)
  refine lv_if_eq (tgt := 30) hx hb dX1_putOnPallet_4 (by decide) (fun hc3 => ?_) (fun hc3 => ?_)
  · replace h := g_it hc3 h
    refine lv_iconst (v := (-1 : Int32)) hx hb dX1_putOnPallet_30 (by decide) ?_
    exact hret ((-1 : Int32), pk, pa, pd, onp) _ _ _ _ _ (Option.some.inj h) hP hS rfl dX1_putOnPallet_31
  · replace h := g_if hc3 h
    refine lv_iload_n hx hb dX1_putOnPallet_7 rfl (lv_at hl 2 rfl) ?_
    refine lv_iconst (v := (1 : Int32)) hx hb dX1_putOnPallet_8 (by decide) ?_
    refine lv_icmp_lt (tgt := 30) hx hb dX1_putOnPallet_9 (by decide) (fun hc4 => ?_) (fun hc4 => ?_)
    · replace h := g_it hc4 h
      refine lv_iconst (v := (-1 : Int32)) hx hb dX1_putOnPallet_30 (by decide) ?_
      exact hret ((-1 : Int32), pk, pa, pd, onp) _ _ _ _ _ (Option.some.inj h) hP hS rfl dX1_putOnPallet_31
    · replace h := g_if hc4 h
      refine lv_iload_n hx hb dX1_putOnPallet_12 rfl (lv_at hl 2 rfl) ?_
      refine lv_sipush (v := (999 : Int32)) hx hb dX1_putOnPallet_13 (by decide) ?_
      refine lv_icmp_gt (tgt := 30) hx hb dX1_putOnPallet_16 (by decide) (fun hc5 => ?_) (fun hc5 => ?_)
      · replace h := g_it hc5 h
        refine lv_iconst (v := (-1 : Int32)) hx hb dX1_putOnPallet_30 (by decide) ?_
        exact hret ((-1 : Int32), pk, pa, pd, onp) _ _ _ _ _ (Option.some.inj h) hP hS rfl dX1_putOnPallet_31
      · replace h := g_if hc5 h
        refine lv_iload_n hx hb dX1_putOnPallet_19 rfl (lv_at hl 3 rfl) ?_
        refine lv_if_lt (tgt := 30) hx hb dX1_putOnPallet_20 (by decide) (fun hc6 => ?_) (fun hc6 => ?_)
        · replace h := g_it hc6 h
          refine lv_iconst (v := (-1 : Int32)) hx hb dX1_putOnPallet_30 (by decide) ?_
          exact hret ((-1 : Int32), pk, pa, pd, onp) _ _ _ _ _ (Option.some.inj h) hP hS rfl dX1_putOnPallet_31
        · replace h := g_if hc6 h
          refine lv_iload_n hx hb dX1_putOnPallet_23 rfl (lv_at hl 3 rfl) ?_
          refine lv_sipush (v := (365 : Int32)) hx hb dX1_putOnPallet_24 (by decide) ?_
          refine lv_icmp_le (tgt := 32) hx hb dX1_putOnPallet_27 (by decide) (fun hc7 => ?_) (fun hc7 => ?_)
          · replace h := g_it hc7 h
            refine lv_aload_n hx hb dX1_putOnPallet_32 rfl (lv_at hl 0 rfl) ?_
            refine va_get (D := E.1) (cl := vwCl) (ci := 1) (v := .ref a1) (C := RX1) (T := TX1) (N := 10) hx hb hts hiX1 hown hK hP 0 rfl rfl 0 (by decide) hw0 (fun _ h9 => h9) rfl dX1_putOnPallet_33 ?_
            refine va_get (D := E.1) (cl := vwCl) (ci := 4) (v := .int onp) (C := RX4) (T := TX4) (N := 11) hx hb hts hiX4 hown hK hP 1 rfl rfl 7 (by decide) hw1 (fun _ h9 => h9) rfl dX1_putOnPallet_36 ?_
            refine lv_bipush (v := (6 : Int32)) hx hb dX1_putOnPallet_39 (by decide) ?_
            refine lv_icmp_lt (tgt := 47) hx hb dX1_putOnPallet_41 (by decide) (fun hc8 => ?_) (fun hc8 => ?_)
            · replace h := g_it hc8 h
              refine lv_aload_n hx hb dX1_putOnPallet_47 rfl (lv_at hl 0 rfl) ?_
              refine va_get (D := E.1) (cl := vwCl) (ci := 1) (v := .ref a1) (C := RX1) (T := TX1) (N := 10) hx hb hts hiX1 hown hK hP 0 rfl rfl 0 (by decide) hw0 (fun _ h9 => h9) rfl dX1_putOnPallet_48 ?_
              refine lv_iload_n hx hb dX1_putOnPallet_51 rfl (lv_at hl 1 rfl) ?_
              refine lv_iload_n hx hb dX1_putOnPallet_52 rfl (lv_at hl 2 rfl) ?_
              refine lv_iload_n hx hb dX1_putOnPallet_53 rfl (lv_at hl 3 rfl) ?_
              obtain ⟨pk9, pa10, pd11, onp12, hc13, h⟩ := bd4_s h
              refine g_call1v (As := [.int p1, .int p2, .int p3]) (rest := []) (bs1 := [wHo E a0 a1 a11 a18 a19 dy fl hu cn gn cs, wSt E a1 a2 a3 a4 a5 a6 a7 a8 a9 a10 lk la ll lots pk9 pa10 pd11 onp12 br us sp, wPa E a11 a12 a13 a14 a15 a16 a17 zs zd zn zt zl zc nm, wH8 E a18 sto, wH9 E a19 sg]) ⟨hx, hb, hml, hown, hts⟩ (kX4_addToPallet E l a1 a2 a3 a4 a5 a6 a7 a8 a9 a10 lk la ll lots pk pa pd onp br us sp p1 p2 p3 (pk9, pa10, pd11, onp12) hc13) (cwV 3 hts gX1_putOnPallet_X4_addToPallet rfl rfl rfl (by decide +kernel) ⟨Nat.le_of_ble_eq_true rfl, Nat.le_of_ble_eq_true rfl⟩) hK hP hD hS hA hG hl 1 0 (ci := 4) rfl rfl rfl rfl rfl rfl rfl rfl (Nat.le_of_ble_eq_true rfl) dX1_putOnPallet_54 (Nat.zero_le _) (Nat.zero_le _) (fun H locs hP hD hS => ?_)
              refine lv_aload_n hx hb dX1_putOnPallet_57 rfl (lv_at hl 0 rfl) ?_
              refine va_get (D := E.1) (cl := vwCl) (ci := 1) (v := .ref a1) (C := RX1) (T := TX1) (N := 10) hx hb hts hiX1 hown hK hP 0 rfl rfl 0 (by decide) hw0 (fun _ h9 => h9) rfl dX1_putOnPallet_58 ?_
              refine va_get (D := E.1) (cl := vwCl) (ci := 4) (v := .int onp12) (C := RX4) (T := TX4) (N := 11) hx hb hts hiX4 hown hK hP 1 rfl rfl 7 (by decide) hw1 (fun _ h9 => h9) rfl dX1_putOnPallet_61 ?_
              exact hret (onp12, pk9, pa10, pd11, onp12) _ _ _ _ _ (Option.some.inj h) hP hS rfl dX1_putOnPallet_64
            · replace h := g_if hc8 h
              refine lv_bipush (v := (-3 : Int32)) hx hb dX1_putOnPallet_44 (by decide) ?_
              exact hret ((-3 : Int32), pk, pa, pd, onp) _ _ _ _ _ (Option.some.inj h) hP hS rfl dX1_putOnPallet_46
          · replace h := g_if hc7 h
            refine lv_iconst (v := (-1 : Int32)) hx hb dX1_putOnPallet_30 (by decide) ?_
            exact hret ((-1 : Int32), pk, pa, pd, onp) _ _ _ _ _ (Option.some.inj h) hP hS rfl dX1_putOnPallet_31
set_option maxHeartbeats 4000000 in
set_option maxRecDepth 100000 in
theorem kX1_settingAt (E : gE) (l : Launch) (a0 a1 a2 a3 a4 a5 a6 a7 a8 a9 a10 a11 a12 a13 a14 a15 a16 a17 a18 a19 : Nat) (lk : Nat → Int32) (la : Nat → Int32) (ll : Nat → Int32) (lots : Int32) (pk : Nat → Int32) (pa : Nat → Int32) (pd : Nat → Int32) (onp : Int32) (br : Nat → Int32) (us : Nat → Int32) (sp : Nat → Int32) (zs : Nat → Int32) (zd : Nat → Int32) (zn : Nat → Int32) (zt : Nat → Int32) (zl : Nat → Int32) (zc : Nat → Int32) (nm : Int32) (sto : Nat → Int32) (sg : Nat → Int32) (dy : Int32) (fl : Int32) (hu : Int32) (cn : Int32) (gn : Int32) (cs : Int32) (p1 : Int32) (res : Int32) (h : fX1_settingAt sg p1 = some res) : gMI E l yX1_settingAt wsX1_settingAt ({ frames := 0, cells := 0, slots := 0, locals := 0 } : Room) [.ref a0, .int p1] (List.flatten [wHo E a0 a1 a11 a18 a19 dy fl hu cn gn cs, wSt E a1 a2 a3 a4 a5 a6 a7 a8 a9 a10 lk la ll lots pk pa pd onp br us sp, wPa E a11 a12 a13 a14 a15 a16 a17 zs zd zn zt zl zc nm, wH8 E a18 sto, wH9 E a19 sg]) (fun res : Int32 => (List.flatten [wHo E a0 a1 a11 a18 a19 dy fl hu cn gn cs, wSt E a1 a2 a3 a4 a5 a6 a7 a8 a9 a10 lk la ll lots pk pa pd onp br us sp, wPa E a11 a12 a13 a14 a15 a16 a17 zs zd zn zt zl zc nm, wH8 E a18 sto, wH9 E a19 sg])) (fun res => res) res := by
  refine g_entI (cc := cX1_settingAt) (maxL := 2) (by decide) rfl (Nat.le_of_ble_eq_true rfl) ?_
  intro p e s m args below meth c A Q ls hx hb hml hown hts hK hP hD hS hA hG hret hl
  unfold fX1_settingAt at h
  replace hl : lv_has ls 2 [(0, .ref a0), (1, .int p1)] := hl
  have hiX1 : ∀ w ∈ wsX10, w ∈ wsX1_settingAt := by decide +kernel
  have hw0 := hts (.fieldLink RX1 29 "GlacierHut$Hut" "settings" "[I") (by decide +kernel)
  refine lv_iload_n hx hb dX1_settingAt_0 rfl (lv_at hl 1 rfl) ?_
  refine lv_if_lt (tgt := 18) hx hb dX1_settingAt_1 (by decide) (fun hc1 => ?_) (fun hc1 => ?_)
  · replace h := g_it hc1 h
    refine lv_iconst (v := (-1 : Int32)) hx hb dX1_settingAt_18 (by decide) ?_
    exact hret (-1 : Int32) _ _ _ _ _ (Option.some.inj h) hP hS rfl dX1_settingAt_19
  · replace h := g_if hc1 h
    refine lv_iload_n hx hb dX1_settingAt_4 rfl (lv_at hl 1 rfl) ?_
    refine lv_iconst (v := (4 : Int32)) hx hb dX1_settingAt_5 (by decide) ?_
    refine lv_icmp_ge (tgt := 18) hx hb dX1_settingAt_6 (by decide) (fun hc2 => ?_) (fun hc2 => ?_)
    · replace h := g_it hc2 h
      refine lv_iconst (v := (-1 : Int32)) hx hb dX1_settingAt_18 (by decide) ?_
      exact hret (-1 : Int32) _ _ _ _ _ (Option.some.inj h) hP hS rfl dX1_settingAt_19
    · replace h := g_if hc2 h
      refine lv_aload_n hx hb dX1_settingAt_9 rfl (lv_at hl 0 rfl) ?_
      refine va_get (D := E.1) (cl := vwCl) (ci := 1) (v := .ref a19) (C := RX1) (T := TX1) (N := 10) hx hb hts hiX1 hown hK hP 0 rfl rfl 3 (by decide) hw0 (fun _ h9 => h9) rfl dX1_settingAt_10 ?_
      refine lv_iload_n hx hb dX1_settingAt_13 rfl (lv_at hl 1 rfl) ?_
      obtain ⟨hg3, h⟩ := gd_s h
      refine va_iald (D := E.1) (cl := vwCl) (tys := gT E) hx hb hK hP 19 0 rfl rfl (inB_in hg3) dX1_settingAt_14 ?_
      refine lv_goto (tgt := 19) hx hb dX1_settingAt_15 (by decide) ?_
      exact hret (sg (p1).toNatClampNeg) _ _ _ _ _ (Option.some.inj h) hP hS rfl dX1_settingAt_19
set_option maxHeartbeats 4000000 in
set_option maxRecDepth 100000 in
theorem kX1_wouldSuffice (E : gE) (l : Launch) (a0 a1 a2 a3 a4 a5 a6 a7 a8 a9 a10 a11 a12 a13 a14 a15 a16 a17 a18 a19 b0 b1 b2 b3 b4 b5 b6 b7 b8 b9 b10 b11 b12 b13 b14 b15 b16 b17 b18 b19 : Nat) (lk : Nat → Int32) (la : Nat → Int32) (ll : Nat → Int32) (lots : Int32) (pk : Nat → Int32) (pa : Nat → Int32) (pd : Nat → Int32) (onp : Int32) (br : Nat → Int32) (us : Nat → Int32) (sp : Nat → Int32) (zs : Nat → Int32) (zd : Nat → Int32) (zn : Nat → Int32) (zt : Nat → Int32) (zl : Nat → Int32) (zc : Nat → Int32) (nm : Int32) (sto : Nat → Int32) (sg : Nat → Int32) (dy : Int32) (fl : Int32) (hu : Int32) (cn : Int32) (gn : Int32) (cs : Int32) (o0_lk : Nat → Int32) (o0_la : Nat → Int32) (o0_ll : Nat → Int32) (o0_lots : Int32) (o0_pk : Nat → Int32) (o0_pa : Nat → Int32) (o0_pd : Nat → Int32) (o0_onp : Int32) (o0_br : Nat → Int32) (o0_us : Nat → Int32) (o0_sp : Nat → Int32) (o0_zs : Nat → Int32) (o0_zd : Nat → Int32) (o0_zn : Nat → Int32) (o0_zt : Nat → Int32) (o0_zl : Nat → Int32) (o0_zc : Nat → Int32) (o0_nm : Int32) (o0_sto : Nat → Int32) (o0_sg : Nat → Int32) (o0_dy : Int32) (o0_fl : Int32) (o0_hu : Int32) (o0_cn : Int32) (o0_gn : Int32) (o0_cs : Int32) (p2 : Int32) (p3 : Int32) (p4 : Int32) (res : Int32 × (Nat → Int32) × (Nat → Int32) × (Nat → Int32) × Int32 × (Nat → Int32) × (Nat → Int32) × (Nat → Int32) × Int32 × (Nat → Int32) × (Nat → Int32) × (Nat → Int32) × (Nat → Int32) × (Nat → Int32) × (Nat → Int32) × (Nat → Int32) × (Nat → Int32) × (Nat → Int32) × Int32 × (Nat → Int32) × (Nat → Int32) × Int32 × Int32 × Int32 × Int32 × Int32 × Int32) (h : fX1_wouldSuffice o0_lk o0_la o0_ll o0_lots o0_pk o0_pa o0_pd o0_onp o0_br o0_us o0_sp o0_zs o0_zd o0_zn o0_zt o0_zl o0_zc o0_nm o0_sto o0_sg o0_dy o0_fl o0_hu o0_cn o0_gn o0_cs p2 p3 p4 = some res) : gMI E l yX1_wouldSuffice wsX1_wouldSuffice ({ frames := 3, cells := 0, slots := 0, locals := 60 } : Room) [.ref a0, .ref b0, .int p2, .int p3, .int p4] (List.flatten [wHo E a0 a1 a11 a18 a19 dy fl hu cn gn cs, wSt E a1 a2 a3 a4 a5 a6 a7 a8 a9 a10 lk la ll lots pk pa pd onp br us sp, wPa E a11 a12 a13 a14 a15 a16 a17 zs zd zn zt zl zc nm, wH8 E a18 sto, wH9 E a19 sg, wHo E b0 b1 b11 b18 b19 o0_dy o0_fl o0_hu o0_cn o0_gn o0_cs, wSt E b1 b2 b3 b4 b5 b6 b7 b8 b9 b10 o0_lk o0_la o0_ll o0_lots o0_pk o0_pa o0_pd o0_onp o0_br o0_us o0_sp, wPa E b11 b12 b13 b14 b15 b16 b17 o0_zs o0_zd o0_zn o0_zt o0_zl o0_zc o0_nm, wH8 E b18 o0_sto, wH9 E b19 o0_sg]) (fun res : Int32 × (Nat → Int32) × (Nat → Int32) × (Nat → Int32) × Int32 × (Nat → Int32) × (Nat → Int32) × (Nat → Int32) × Int32 × (Nat → Int32) × (Nat → Int32) × (Nat → Int32) × (Nat → Int32) × (Nat → Int32) × (Nat → Int32) × (Nat → Int32) × (Nat → Int32) × (Nat → Int32) × Int32 × (Nat → Int32) × (Nat → Int32) × Int32 × Int32 × Int32 × Int32 × Int32 × Int32 => (List.flatten [wHo E a0 a1 a11 a18 a19 res.2.2.2.2.2.2.2.2.2.2.2.2.2.2.2.2.2.2.2.2.2.1 res.2.2.2.2.2.2.2.2.2.2.2.2.2.2.2.2.2.2.2.2.2.2.1 res.2.2.2.2.2.2.2.2.2.2.2.2.2.2.2.2.2.2.2.2.2.2.2.1 res.2.2.2.2.2.2.2.2.2.2.2.2.2.2.2.2.2.2.2.2.2.2.2.2.1 res.2.2.2.2.2.2.2.2.2.2.2.2.2.2.2.2.2.2.2.2.2.2.2.2.2.1 res.2.2.2.2.2.2.2.2.2.2.2.2.2.2.2.2.2.2.2.2.2.2.2.2.2.2, wSt E a1 a2 a3 a4 a5 a6 a7 a8 a9 a10 res.2.1 res.2.2.1 res.2.2.2.1 res.2.2.2.2.1 res.2.2.2.2.2.1 res.2.2.2.2.2.2.1 res.2.2.2.2.2.2.2.1 res.2.2.2.2.2.2.2.2.1 res.2.2.2.2.2.2.2.2.2.1 res.2.2.2.2.2.2.2.2.2.2.1 res.2.2.2.2.2.2.2.2.2.2.2.1, wPa E a11 a12 a13 a14 a15 a16 a17 res.2.2.2.2.2.2.2.2.2.2.2.2.1 res.2.2.2.2.2.2.2.2.2.2.2.2.2.1 res.2.2.2.2.2.2.2.2.2.2.2.2.2.2.1 res.2.2.2.2.2.2.2.2.2.2.2.2.2.2.2.1 res.2.2.2.2.2.2.2.2.2.2.2.2.2.2.2.2.1 res.2.2.2.2.2.2.2.2.2.2.2.2.2.2.2.2.2.1 res.2.2.2.2.2.2.2.2.2.2.2.2.2.2.2.2.2.2.1, wH8 E a18 res.2.2.2.2.2.2.2.2.2.2.2.2.2.2.2.2.2.2.2.1, wH9 E a19 res.2.2.2.2.2.2.2.2.2.2.2.2.2.2.2.2.2.2.2.2.1, wHo E b0 b1 b11 b18 b19 o0_dy o0_fl o0_hu o0_cn o0_gn o0_cs, wSt E b1 b2 b3 b4 b5 b6 b7 b8 b9 b10 o0_lk o0_la o0_ll o0_lots o0_pk o0_pa o0_pd o0_onp o0_br o0_us o0_sp, wPa E b11 b12 b13 b14 b15 b16 b17 o0_zs o0_zd o0_zn o0_zt o0_zl o0_zc o0_nm, wH8 E b18 o0_sto, wH9 E b19 o0_sg])) (fun res => res.1) res := by
  refine g_entZ (cc := cX1_wouldSuffice) (maxL := 6) (by decide) rfl (Nat.le_of_ble_eq_true rfl) ?_
  intro p e s m args below meth c A Q ls hx hb hml hown hts hK hP hD hS hA hG hret hl
  unfold fX1_wouldSuffice at h
  replace hl : lv_has ls 6 [(0, .ref a0), (1, .ref b0), (2, .int p2), (3, .int p3), (4, .int p4)] := hl
  have hiX1 : ∀ w ∈ wsX10, w ∈ wsX1_wouldSuffice := by decide +kernel
  have hw0 := hts (.fieldLink RX1 21 "GlacierHut$Hut" "parties" "LGlacierHut$Parties;") (by decide +kernel)
  refine lv_aload_n hx hb dX1_wouldSuffice_0 rfl (lv_at hl 0 rfl) ?_
  refine lv_aload_n hx hb dX1_wouldSuffice_1 rfl (lv_at hl 1 rfl) ?_
  obtain ⟨lk1, la2, ll3, lots4, pk5, pa6, pd7, onp8, br9, us10, sp11, zs12, zd13, zn14, zt15, zl16, zc17, nm18, sto19, sg20, dy21, fl22, hu23, cn24, gn25, cs26, hc27, h⟩ := bd26_s h
  refine g_callBv (As := [.ref b0]) (rest := []) (bs1 := [wHo E a0 a1 a11 a18 a19 dy21 fl22 hu23 cn24 gn25 cs26, wSt E a1 a2 a3 a4 a5 a6 a7 a8 a9 a10 lk1 la2 ll3 lots4 pk5 pa6 pd7 onp8 br9 us10 sp11, wPa E a11 a12 a13 a14 a15 a16 a17 zs12 zd13 zn14 zt15 zl16 zc17 nm18, wH8 E a18 sto19, wH9 E a19 sg20, wHo E b0 b1 b11 b18 b19 o0_dy o0_fl o0_hu o0_cn o0_gn o0_cs, wSt E b1 b2 b3 b4 b5 b6 b7 b8 b9 b10 o0_lk o0_la o0_ll o0_lots o0_pk o0_pa o0_pd o0_onp o0_br o0_us o0_sp, wPa E b11 b12 b13 b14 b15 b16 b17 o0_zs o0_zd o0_zn o0_zt o0_zl o0_zc o0_nm, wH8 E b18 o0_sto, wH9 E b19 o0_sg]) ⟨hx, hb, hml, hown, hts⟩ (kX1_copyFrom E l a0 a1 a2 a3 a4 a5 a6 a7 a8 a9 a10 a11 a12 a13 a14 a15 a16 a17 a18 a19 b0 b1 b2 b3 b4 b5 b6 b7 b8 b9 b10 b11 b12 b13 b14 b15 b16 b17 b18 b19 lk la ll lots pk pa pd onp br us sp zs zd zn zt zl zc nm sto sg dy fl hu cn gn cs o0_lk o0_la o0_ll o0_lots o0_pk o0_pa o0_pd o0_onp o0_br o0_us o0_sp o0_zs o0_zd o0_zn o0_zt o0_zl o0_zc o0_nm o0_sto o0_sg o0_dy o0_fl o0_hu o0_cn o0_gn o0_cs (lk1, la2, ll3, lots4, pk5, pa6, pd7, onp8, br9, us10, sp11, zs12, zd13, zn14, zt15, zl16, zc17, nm18, sto19, sg20, dy21, fl22, hu23, cn24, gn25, cs26) hc27) (cwV 1 hts gX1_wouldSuffice_X1_copyFrom rfl rfl rfl (by decide +kernel) ⟨Nat.le_of_ble_eq_true rfl, Nat.le_of_ble_eq_true rfl⟩) hK hP hD hS hA hG hl [0, 1, 2, 3, 4, 5, 6, 7, 8, 9] 0 0 (by decide) rfl (ci := 1) rfl rfl rfl rfl rfl rfl rfl rfl rfl (Nat.le_of_ble_eq_true rfl) dX1_wouldSuffice_2 (Nat.zero_le _) (Nat.zero_le _) (fun H locs hP hD hS => ?_)
  refine lv_aload_n hx hb dX1_wouldSuffice_5 rfl (lv_at hl 0 rfl) ?_
  refine va_get (D := E.1) (cl := vwCl) (ci := 1) (v := .ref a11) (C := RX1) (T := TX1) (N := 10) hx hb hts hiX1 hown hK hP 0 rfl rfl 1 (by decide) hw0 (fun _ h9 => h9) rfl dX1_wouldSuffice_6 ?_
  refine lv_iload_n hx hb dX1_wouldSuffice_9 rfl (lv_at hl 2 rfl) ?_
  refine lv_iload_n hx hb dX1_wouldSuffice_10 rfl (lv_at hl 3 rfl) ?_
  refine lv_iload hx hb dX1_wouldSuffice_11 (lv_at hl 4 rfl) ?_
  obtain ⟨zs28, zd29, zn30, zt31, zl32, zc33, nm34, hc35, h⟩ := bd7_s h
  refine g_call1v (As := [.int p2, .int p3, .int p4]) (rest := []) (bs1 := [wHo E a0 a1 a11 a18 a19 dy21 fl22 hu23 cn24 gn25 cs26, wSt E a1 a2 a3 a4 a5 a6 a7 a8 a9 a10 lk1 la2 ll3 lots4 pk5 pa6 pd7 onp8 br9 us10 sp11, wPa E a11 a12 a13 a14 a15 a16 a17 zs28 zd29 zn30 zt31 zl32 zc33 nm34, wH8 E a18 sto19, wH9 E a19 sg20, wHo E b0 b1 b11 b18 b19 o0_dy o0_fl o0_hu o0_cn o0_gn o0_cs, wSt E b1 b2 b3 b4 b5 b6 b7 b8 b9 b10 o0_lk o0_la o0_ll o0_lots o0_pk o0_pa o0_pd o0_onp o0_br o0_us o0_sp, wPa E b11 b12 b13 b14 b15 b16 b17 o0_zs o0_zd o0_zn o0_zt o0_zl o0_zc o0_nm, wH8 E b18 o0_sto, wH9 E b19 o0_sg]) ⟨hx, hb, hml, hown, hts⟩ (kX2_add E l a11 a12 a13 a14 a15 a16 a17 zs12 zd13 zn14 zt15 zl16 zc17 nm18 p2 p3 p4 (zs28, zd29, zn30, zt31, zl32, zc33, nm34) hc35) (cwV 3 hts gX1_wouldSuffice_X2_add rfl rfl rfl (by decide +kernel) ⟨Nat.le_of_ble_eq_true rfl, Nat.le_of_ble_eq_true rfl⟩) hK hP hD hS hA hG hl 2 0 (ci := 2) rfl rfl rfl rfl rfl rfl rfl rfl (Nat.le_of_ble_eq_true rfl) dX1_wouldSuffice_13 (Nat.zero_le _) (Nat.zero_le _) (fun H locs hP hD hS => ?_)
  refine lv_iconst (v := (0 : Int32)) hx hb dX1_wouldSuffice_16 (by decide) ?_
  refine lv_istore (lv' := [(5, .int (0 : Int32)), (0, .ref a0), (1, .ref b0), (2, .int p2), (3, .int p3), (4, .int p4)]) hx hb dX1_wouldSuffice_17 hl (by decide) rfl (fun ls hl => ?_)
  refine gl15_e h (fun S_rec36 hS_rec36 h => ?_)
  have hL_rec36 : ∀ (n : Nat) (v37 : Int32) (lk38 : Nat → Int32) (la39 : Nat → Int32) (ll40 : Nat → Int32) (lots41 : Int32) (us42 : Nat → Int32) (sp43 : Nat → Int32) (zt44 : Nat → Int32) (zl45 : Nat → Int32) (zc46 : Nat → Int32) (dy47 : Int32) (hu48 : Int32) (cn49 : Int32) (gn50 : Int32) (cs51 : Int32) (H : Heap) (locs : List Loc) (ls : Array Slot), va_P E.1 vwCl (List.flatten [wHo E a0 a1 a11 a18 a19 dy47 fl22 hu48 cn49 gn50 cs51, wSt E a1 a2 a3 a4 a5 a6 a7 a8 a9 a10 lk38 la39 ll40 lots41 pk5 pa6 pd7 onp8 br9 us42 sp43, wPa E a11 a12 a13 a14 a15 a16 a17 zs28 zd29 zn30 zt44 zl45 zc46 nm34, wH8 E a18 sto19, wH9 E a19 sg20, wHo E b0 b1 b11 b18 b19 o0_dy o0_fl o0_hu o0_cn o0_gn o0_cs, wSt E b1 b2 b3 b4 b5 b6 b7 b8 b9 b10 o0_lk o0_la o0_ll o0_lots o0_pk o0_pa o0_pd o0_onp o0_br o0_us o0_sp, wPa E b11 b12 b13 b14 b15 b16 b17 o0_zs o0_zd o0_zn o0_zt o0_zl o0_zc o0_nm, wH8 E b18 o0_sto, wH9 E b19 o0_sg]) H → va_S A s.heap H locs → lv_has ls 6 [(5, .int v37), (0, .ref a0)] → gl15 S_rec36 n v37 lk38 la39 ll40 lots41 us42 sp43 zt44 zl45 zc46 dy47 hu48 cn49 gn50 cs51 = some res → W p l e ({ frames := 3, cells := 0, slots := 0, locals := 60 } : Room) s m args below meth c H locs 0 0 Q (F0 m 19 ls []) := by
    intro n
    induction n with
    | zero => intro v37 lk38 la39 ll40 lots41 us42 sp43 zt44 zl45 zc46 dy47 hu48 cn49 gn50 cs51 H locs ls hP hS hl h; exact gl15_z h
    | succ n ih_rec36 =>
      intro v37 lk38 la39 ll40 lots41 us42 sp43 zt44 zl45 zc46 dy47 hu48 cn49 gn50 cs51 H locs ls hP hS hl h
      replace hD : va_D A (List.flatten [wHo E a0 a1 a11 a18 a19 dy47 fl22 hu48 cn49 gn50 cs51, wSt E a1 a2 a3 a4 a5 a6 a7 a8 a9 a10 lk38 la39 ll40 lots41 pk5 pa6 pd7 onp8 br9 us42 sp43, wPa E a11 a12 a13 a14 a15 a16 a17 zs28 zd29 zn30 zt44 zl45 zc46 nm34, wH8 E a18 sto19, wH9 E a19 sg20, wHo E b0 b1 b11 b18 b19 o0_dy o0_fl o0_hu o0_cn o0_gn o0_cs, wSt E b1 b2 b3 b4 b5 b6 b7 b8 b9 b10 o0_lk o0_la o0_ll o0_lots o0_pk o0_pa o0_pd o0_onp o0_br o0_us o0_sp, wPa E b11 b12 b13 b14 b15 b16 b17 o0_zs o0_zd o0_zn o0_zt o0_zl o0_zc o0_nm, wH8 E b18 o0_sto, wH9 E b19 o0_sg]) := gD_same hD rfl
      replace h : S_rec36 (gl15 S_rec36 n) v37 lk38 la39 ll40 lots41 us42 sp43 zt44 zl45 zc46 dy47 hu48 cn49 gn50 cs51 = some res := h
      generalize gl15 S_rec36 n = rec36 at h ih_rec36
      subst hS_rec36
      refine lv_iload hx hb dX1_wouldSuffice_19 (lv_at hl 0 rfl) ?_
      refine lv_sipush (v := (1000 : Int32)) hx hb dX1_wouldSuffice_21 (by decide) ?_
      refine lv_icmp_ge (tgt := 52) hx hb dX1_wouldSuffice_24 (by decide) (fun hc52 => ?_) (fun hc52 => ?_)
      · replace h := g_it hc52 h
        refine lv_iconst (v := (1 : Int32)) hx hb dX1_wouldSuffice_52 (by decide) ?_
        exact hret ((1 : Int32), lk38, la39, ll40, lots41, pk5, pa6, pd7, onp8, br9, us42, sp43, zs28, zd29, zn30, zt44, zl45, zc46, nm34, sto19, sg20, dy47, fl22, hu48, cn49, gn50, cs51) _ _ _ _ _ (Option.some.inj h) hP hS rfl rfl dX1_wouldSuffice_53
      · replace h := g_if hc52 h
        refine lv_aload_n hx hb dX1_wouldSuffice_27 rfl (lv_at hl 1 rfl) ?_
        refine va_get (D := E.1) (cl := vwCl) (ci := 1) (v := .ref a11) (C := RX1) (T := TX1) (N := 10) hx hb hts hiX1 hown hK hP 0 rfl rfl 1 (by decide) hw0 (fun _ h9 => h9) rfl dX1_wouldSuffice_28 ?_
        obtain ⟨r53, hc54, h⟩ := bd1_s h
        refine g_callRi (As := []) (rest := []) (r := r53) ⟨hx, hb, hml, hown, hts⟩ (kX2_anyAwaited E l a11 a12 a13 a14 a15 a16 a17 zs28 zd29 zn30 zt44 zl45 zc46 nm34 r53 hc54) (cwV 0 hts gX1_wouldSuffice_X2_anyAwaited rfl rfl rfl (by decide +kernel) ⟨Nat.le_of_ble_eq_true rfl, Nat.le_of_ble_eq_true rfl⟩) hK hP hD hS hA hG hl [11, 12, 13, 14, 15, 16, 17] 11 (by decide) rfl (ci := 2) rfl rfl rfl rfl rfl rfl rfl (Nat.le_of_ble_eq_true rfl) dX1_wouldSuffice_31 (Nat.zero_le _) (Nat.zero_le _) (fun H locs hP hD hS => ?_)
        refine lv_if_eq (tgt := 52) hx hb dX1_wouldSuffice_34 (by decide) (fun hc55 => ?_) (fun hc55 => ?_)
        · replace h := g_it hc55 h
          refine lv_iconst (v := (1 : Int32)) hx hb dX1_wouldSuffice_52 (by decide) ?_
          exact hret ((1 : Int32), lk38, la39, ll40, lots41, pk5, pa6, pd7, onp8, br9, us42, sp43, zs28, zd29, zn30, zt44, zl45, zc46, nm34, sto19, sg20, dy47, fl22, hu48, cn49, gn50, cs51) _ _ _ _ _ (Option.some.inj h) hP hS rfl rfl dX1_wouldSuffice_53
        · replace h := g_if hc55 h
          refine lv_aload_n hx hb dX1_wouldSuffice_37 rfl (lv_at hl 1 rfl) ?_
          obtain ⟨r56, lk57, la58, ll59, lots60, us61, sp62, zt63, zl64, zc65, dy66, hu67, cn68, gn69, cs70, hc71, h⟩ := bd15_s h
          refine g_callBi (As := []) (rest := []) (r := r56) (bs1 := [wHo E a0 a1 a11 a18 a19 dy66 fl22 hu67 cn68 gn69 cs70, wSt E a1 a2 a3 a4 a5 a6 a7 a8 a9 a10 lk57 la58 ll59 lots60 pk5 pa6 pd7 onp8 br9 us61 sp62, wPa E a11 a12 a13 a14 a15 a16 a17 zs28 zd29 zn30 zt63 zl64 zc65 nm34, wH8 E a18 sto19, wH9 E a19 sg20, wHo E b0 b1 b11 b18 b19 o0_dy o0_fl o0_hu o0_cn o0_gn o0_cs, wSt E b1 b2 b3 b4 b5 b6 b7 b8 b9 b10 o0_lk o0_la o0_ll o0_lots o0_pk o0_pa o0_pd o0_onp o0_br o0_us o0_sp, wPa E b11 b12 b13 b14 b15 b16 b17 o0_zs o0_zd o0_zn o0_zt o0_zl o0_zc o0_nm, wH8 E b18 o0_sto, wH9 E b19 o0_sg]) ⟨hx, hb, hml, hown, hts⟩ (kX1_passNight E l a0 a1 a2 a3 a4 a5 a6 a7 a8 a9 a10 a11 a12 a13 a14 a15 a16 a17 a18 a19 lk38 la39 ll40 lots41 pk5 pa6 pd7 onp8 br9 us42 sp43 zs28 zd29 zn30 zt44 zl45 zc46 nm34 sto19 sg20 dy47 fl22 hu48 cn49 gn50 cs51 (r56, lk57, la58, ll59, lots60, us61, sp62, zt63, zl64, zc65, dy66, hu67, cn68, gn69, cs70) hc71) (cwV 0 hts gX1_wouldSuffice_X1_passNight rfl rfl rfl (by decide +kernel) ⟨Nat.le_of_ble_eq_true rfl, Nat.le_of_ble_eq_true rfl⟩) hK hP hD hS hA hG hl [0, 1, 2, 3, 4] 0 0 (by decide) rfl (ci := 1) rfl rfl rfl rfl rfl rfl rfl rfl rfl rfl (Nat.le_of_ble_eq_true rfl) dX1_wouldSuffice_38 (Nat.zero_le _) (Nat.zero_le _) (fun H locs hP hD hS => ?_)
          refine lv_if_ne (tgt := 46) hx hb dX1_wouldSuffice_41 (by decide) (fun hc72 => ?_) (fun hc72 => ?_)
          · replace h := g_if hc72 h
            obtain ⟨v73, e_v73⟩ : ∃ y : Int32, y = (v37 + (1 : Int32)) := ⟨_, rfl⟩
            replace h := jl_s e_v73 h
            refine lv_iinc (v := v73) (lv' := [(5, .int v73), (0, .ref a0)]) hx hb dX1_wouldSuffice_46 hl (k := 0) rfl (by rw [e_v73]; rfl) (by decide) rfl (fun ls hl => ?_)
            refine lv_goto (tgt := 19) hx hb dX1_wouldSuffice_49 (by decide) ?_
            exact ih_rec36 v73 lk57 la58 ll59 lots60 us61 sp62 zt63 zl64 zc65 dy66 hu67 cn68 gn69 cs70 _ _ _ hP hS (lv_sub hl [0, 1] rfl) h
          · replace h := g_it hc72 h
            refine lv_iconst (v := (0 : Int32)) hx hb dX1_wouldSuffice_44 (by decide) ?_
            exact hret ((0 : Int32), lk57, la58, ll59, lots60, pk5, pa6, pd7, onp8, br9, us61, sp62, zs28, zd29, zn30, zt63, zl64, zc65, nm34, sto19, sg20, dy66, fl22, hu67, cn68, gn69, cs70) _ _ _ _ _ (Option.some.inj h) hP hS rfl rfl dX1_wouldSuffice_45
  exact hL_rec36 gFU (0 : Int32) lk1 la2 ll3 lots4 us10 sp11 zt31 zl32 zc33 dy21 hu23 cn24 gn25 cs26 _ _ _ hP hS (lv_sub hl [0, 1] rfl) h
set_option maxHeartbeats 4000000 in
set_option maxRecDepth 100000 in
theorem kX1_takeBooking (E : gE) (l : Launch) (a0 a1 a2 a3 a4 a5 a6 a7 a8 a9 a10 a11 a12 a13 a14 a15 a16 a17 a18 a19 b0 b1 b2 b3 b4 b5 b6 b7 b8 b9 b10 b11 b12 b13 b14 b15 b16 b17 b18 b19 : Nat) (lk : Nat → Int32) (la : Nat → Int32) (ll : Nat → Int32) (lots : Int32) (pk : Nat → Int32) (pa : Nat → Int32) (pd : Nat → Int32) (onp : Int32) (br : Nat → Int32) (us : Nat → Int32) (sp : Nat → Int32) (zs : Nat → Int32) (zd : Nat → Int32) (zn : Nat → Int32) (zt : Nat → Int32) (zl : Nat → Int32) (zc : Nat → Int32) (nm : Int32) (sto : Nat → Int32) (sg : Nat → Int32) (dy : Int32) (fl : Int32) (hu : Int32) (cn : Int32) (gn : Int32) (cs : Int32) (o3_lk : Nat → Int32) (o3_la : Nat → Int32) (o3_ll : Nat → Int32) (o3_lots : Int32) (o3_pk : Nat → Int32) (o3_pa : Nat → Int32) (o3_pd : Nat → Int32) (o3_onp : Int32) (o3_br : Nat → Int32) (o3_us : Nat → Int32) (o3_sp : Nat → Int32) (o3_zs : Nat → Int32) (o3_zd : Nat → Int32) (o3_zn : Nat → Int32) (o3_zt : Nat → Int32) (o3_zl : Nat → Int32) (o3_zc : Nat → Int32) (o3_nm : Int32) (o3_sto : Nat → Int32) (o3_sg : Nat → Int32) (o3_dy : Int32) (o3_fl : Int32) (o3_hu : Int32) (o3_cn : Int32) (o3_gn : Int32) (o3_cs : Int32) (p1 : Int32) (p2 : Int32) (p3 : Int32) (res : Int32 × (Nat → Int32) × (Nat → Int32) × (Nat → Int32) × (Nat → Int32) × (Nat → Int32) × (Nat → Int32) × Int32 × (Nat → Int32) × (Nat → Int32) × (Nat → Int32) × Int32 × (Nat → Int32) × (Nat → Int32) × (Nat → Int32) × Int32 × (Nat → Int32) × (Nat → Int32) × (Nat → Int32) × (Nat → Int32) × (Nat → Int32) × (Nat → Int32) × (Nat → Int32) × (Nat → Int32) × (Nat → Int32) × Int32 × (Nat → Int32) × (Nat → Int32) × Int32 × Int32 × Int32 × Int32 × Int32 × Int32) (h : fX1_takeBooking lk la ll lots pk pa pd onp br us sp zs zd zn zt zl zc nm sto sg dy fl hu cn gn cs o3_lk o3_la o3_ll o3_lots o3_pk o3_pa o3_pd o3_onp o3_br o3_us o3_sp o3_zs o3_zd o3_zn o3_zt o3_zl o3_zc o3_nm o3_sto o3_sg o3_dy o3_fl o3_hu o3_cn o3_gn o3_cs p1 p2 p3 = some res) : gMI E l yX1_takeBooking wsX1_takeBooking ({ frames := 4, cells := 0, slots := 0, locals := 85 } : Room) [.ref a0, .int p1, .int p2, .int p3, .ref b0] (List.flatten [wHo E a0 a1 a11 a18 a19 dy fl hu cn gn cs, wSt E a1 a2 a3 a4 a5 a6 a7 a8 a9 a10 lk la ll lots pk pa pd onp br us sp, wPa E a11 a12 a13 a14 a15 a16 a17 zs zd zn zt zl zc nm, wH8 E a18 sto, wH9 E a19 sg, wHo E b0 b1 b11 b18 b19 o3_dy o3_fl o3_hu o3_cn o3_gn o3_cs, wSt E b1 b2 b3 b4 b5 b6 b7 b8 b9 b10 o3_lk o3_la o3_ll o3_lots o3_pk o3_pa o3_pd o3_onp o3_br o3_us o3_sp, wPa E b11 b12 b13 b14 b15 b16 b17 o3_zs o3_zd o3_zn o3_zt o3_zl o3_zc o3_nm, wH8 E b18 o3_sto, wH9 E b19 o3_sg]) (fun res : Int32 × (Nat → Int32) × (Nat → Int32) × (Nat → Int32) × (Nat → Int32) × (Nat → Int32) × (Nat → Int32) × Int32 × (Nat → Int32) × (Nat → Int32) × (Nat → Int32) × Int32 × (Nat → Int32) × (Nat → Int32) × (Nat → Int32) × Int32 × (Nat → Int32) × (Nat → Int32) × (Nat → Int32) × (Nat → Int32) × (Nat → Int32) × (Nat → Int32) × (Nat → Int32) × (Nat → Int32) × (Nat → Int32) × Int32 × (Nat → Int32) × (Nat → Int32) × Int32 × Int32 × Int32 × Int32 × Int32 × Int32 => (List.flatten [wHo E a0 a1 a11 a18 a19 dy fl hu cn gn cs, wSt E a1 a2 a3 a4 a5 a6 a7 a8 a9 a10 lk la ll lots pk pa pd onp br us sp, wPa E a11 a12 a13 a14 a15 a16 a17 res.2.1 res.2.2.1 res.2.2.2.1 res.2.2.2.2.1 res.2.2.2.2.2.1 res.2.2.2.2.2.2.1 res.2.2.2.2.2.2.2.1, wH8 E a18 sto, wH9 E a19 sg, wHo E b0 b1 b11 b18 b19 res.2.2.2.2.2.2.2.2.2.2.2.2.2.2.2.2.2.2.2.2.2.2.2.2.2.2.2.2.1 res.2.2.2.2.2.2.2.2.2.2.2.2.2.2.2.2.2.2.2.2.2.2.2.2.2.2.2.2.2.1 res.2.2.2.2.2.2.2.2.2.2.2.2.2.2.2.2.2.2.2.2.2.2.2.2.2.2.2.2.2.2.1 res.2.2.2.2.2.2.2.2.2.2.2.2.2.2.2.2.2.2.2.2.2.2.2.2.2.2.2.2.2.2.2.1 res.2.2.2.2.2.2.2.2.2.2.2.2.2.2.2.2.2.2.2.2.2.2.2.2.2.2.2.2.2.2.2.2.1 res.2.2.2.2.2.2.2.2.2.2.2.2.2.2.2.2.2.2.2.2.2.2.2.2.2.2.2.2.2.2.2.2.2, wSt E b1 b2 b3 b4 b5 b6 b7 b8 b9 b10 res.2.2.2.2.2.2.2.2.1 res.2.2.2.2.2.2.2.2.2.1 res.2.2.2.2.2.2.2.2.2.2.1 res.2.2.2.2.2.2.2.2.2.2.2.1 res.2.2.2.2.2.2.2.2.2.2.2.2.1 res.2.2.2.2.2.2.2.2.2.2.2.2.2.1 res.2.2.2.2.2.2.2.2.2.2.2.2.2.2.1 res.2.2.2.2.2.2.2.2.2.2.2.2.2.2.2.1 res.2.2.2.2.2.2.2.2.2.2.2.2.2.2.2.2.1 res.2.2.2.2.2.2.2.2.2.2.2.2.2.2.2.2.2.1 res.2.2.2.2.2.2.2.2.2.2.2.2.2.2.2.2.2.2.1, wPa E b11 b12 b13 b14 b15 b16 b17 res.2.2.2.2.2.2.2.2.2.2.2.2.2.2.2.2.2.2.2.1 res.2.2.2.2.2.2.2.2.2.2.2.2.2.2.2.2.2.2.2.2.1 res.2.2.2.2.2.2.2.2.2.2.2.2.2.2.2.2.2.2.2.2.2.1 res.2.2.2.2.2.2.2.2.2.2.2.2.2.2.2.2.2.2.2.2.2.2.1 res.2.2.2.2.2.2.2.2.2.2.2.2.2.2.2.2.2.2.2.2.2.2.2.1 res.2.2.2.2.2.2.2.2.2.2.2.2.2.2.2.2.2.2.2.2.2.2.2.2.1 res.2.2.2.2.2.2.2.2.2.2.2.2.2.2.2.2.2.2.2.2.2.2.2.2.2.1, wH8 E b18 res.2.2.2.2.2.2.2.2.2.2.2.2.2.2.2.2.2.2.2.2.2.2.2.2.2.2.1, wH9 E b19 res.2.2.2.2.2.2.2.2.2.2.2.2.2.2.2.2.2.2.2.2.2.2.2.2.2.2.2.1])) (fun res => res.1) res := by
  refine g_entI (cc := cX1_takeBooking) (maxL := 5) (by decide) rfl (Nat.le_of_ble_eq_true rfl) ?_
  intro p e s m args below meth c A Q ls hx hb hml hown hts hK hP hD hS hA hG hret hl
  unfold fX1_takeBooking at h
  replace hl : lv_has ls 5 [(0, .ref a0), (1, .int p1), (2, .int p2), (3, .int p3), (4, .ref b0)] := hl
  have hiX1 : ∀ w ∈ wsX10, w ∈ wsX1_takeBooking := by decide +kernel
  have hiX2 : ∀ w ∈ wsX20, w ∈ wsX1_takeBooking := by decide +kernel
  have hw0 := hts (.fieldLink RX1 21 "GlacierHut$Hut" "parties" "LGlacierHut$Parties;") (by decide +kernel)
  have hw1 := hts (.fieldLink RX1 98 "GlacierHut$Parties" "number" "I") (by decide +kernel)
  refine lv_aload_n hx hb dX1_takeBooking_0 rfl (lv_at hl 0 rfl) ?_
  refine lv_iload_n hx hb dX1_takeBooking_1 rfl (lv_at hl 1 rfl) ?_
  refine lv_iload_n hx hb dX1_takeBooking_2 rfl (lv_at hl 2 rfl) ?_
  refine lv_iload_n hx hb dX1_takeBooking_3 rfl (lv_at hl 3 rfl) ?_
  obtain ⟨r1, hc2, h⟩ := bd1_s h
  refine g_callRi (As := [.int p1, .int p2, .int p3]) (rest := []) (r := r1) ⟨hx, hb, hml, hown, hts⟩ (kX1_mayBeBooked E l a0 a1 a2 a3 a4 a5 a6 a7 a8 a9 a10 a11 a12 a13 a14 a15 a16 a17 a18 a19 lk la ll lots pk pa pd onp br us sp zs zd zn zt zl zc nm sto sg dy fl hu cn gn cs p1 p2 p3 r1 hc2) (cwV 3 hts gX1_takeBooking_X1_mayBeBooked rfl rfl rfl (by decide +kernel) ⟨Nat.le_of_ble_eq_true rfl, Nat.le_of_ble_eq_true rfl⟩) hK hP hD hS hA hG hl [0, 1, 2, 3, 4, 5, 6, 7, 8, 9, 10, 11, 12, 13, 14, 15, 16, 17, 18, 19] 0 (by decide) rfl (ci := 1) rfl rfl rfl rfl rfl rfl rfl (Nat.le_of_ble_eq_true rfl) dX1_takeBooking_4 (Nat.zero_le _) (Nat.zero_le _) (fun H locs hP hD hS => ?_)
  refine lv_if_ne (tgt := 12) hx hb dX1_takeBooking_7 (by decide) (fun hc3 => ?_) (fun hc3 => ?_)
  · replace h := g_if hc3 h
    refine lv_aload hx hb dX1_takeBooking_12 (lv_at hl 4 rfl) ?_
    refine lv_aload_n hx hb dX1_takeBooking_14 rfl (lv_at hl 0 rfl) ?_
    refine lv_iload_n hx hb dX1_takeBooking_15 rfl (lv_at hl 1 rfl) ?_
    refine lv_iload_n hx hb dX1_takeBooking_16 rfl (lv_at hl 2 rfl) ?_
    refine lv_iload_n hx hb dX1_takeBooking_17 rfl (lv_at hl 3 rfl) ?_
    obtain ⟨r4, o3_lk5, o3_la6, o3_ll7, o3_lots8, o3_pk9, o3_pa10, o3_pd11, o3_onp12, o3_br13, o3_us14, o3_sp15, o3_zs16, o3_zd17, o3_zn18, o3_zt19, o3_zl20, o3_zc21, o3_nm22, o3_sto23, o3_sg24, o3_dy25, o3_fl26, o3_hu27, o3_cn28, o3_gn29, o3_cs30, hc31, h⟩ := bd27_s h
    refine g_callBi (As := [.ref a0, .int p1, .int p2, .int p3]) (rest := []) (r := r4) (bs1 := [wHo E a0 a1 a11 a18 a19 dy fl hu cn gn cs, wSt E a1 a2 a3 a4 a5 a6 a7 a8 a9 a10 lk la ll lots pk pa pd onp br us sp, wPa E a11 a12 a13 a14 a15 a16 a17 zs zd zn zt zl zc nm, wH8 E a18 sto, wH9 E a19 sg, wHo E b0 b1 b11 b18 b19 o3_dy25 o3_fl26 o3_hu27 o3_cn28 o3_gn29 o3_cs30, wSt E b1 b2 b3 b4 b5 b6 b7 b8 b9 b10 o3_lk5 o3_la6 o3_ll7 o3_lots8 o3_pk9 o3_pa10 o3_pd11 o3_onp12 o3_br13 o3_us14 o3_sp15, wPa E b11 b12 b13 b14 b15 b16 b17 o3_zs16 o3_zd17 o3_zn18 o3_zt19 o3_zl20 o3_zc21 o3_nm22, wH8 E b18 o3_sto23, wH9 E b19 o3_sg24]) ⟨hx, hb, hml, hown, hts⟩ (kX1_wouldSuffice E l b0 b1 b2 b3 b4 b5 b6 b7 b8 b9 b10 b11 b12 b13 b14 b15 b16 b17 b18 b19 a0 a1 a2 a3 a4 a5 a6 a7 a8 a9 a10 a11 a12 a13 a14 a15 a16 a17 a18 a19 o3_lk o3_la o3_ll o3_lots o3_pk o3_pa o3_pd o3_onp o3_br o3_us o3_sp o3_zs o3_zd o3_zn o3_zt o3_zl o3_zc o3_nm o3_sto o3_sg o3_dy o3_fl o3_hu o3_cn o3_gn o3_cs lk la ll lots pk pa pd onp br us sp zs zd zn zt zl zc nm sto sg dy fl hu cn gn cs p1 p2 p3 (r4, o3_lk5, o3_la6, o3_ll7, o3_lots8, o3_pk9, o3_pa10, o3_pd11, o3_onp12, o3_br13, o3_us14, o3_sp15, o3_zs16, o3_zd17, o3_zn18, o3_zt19, o3_zl20, o3_zc21, o3_nm22, o3_sto23, o3_sg24, o3_dy25, o3_fl26, o3_hu27, o3_cn28, o3_gn29, o3_cs30) hc31) (cwV 4 hts gX1_takeBooking_X1_wouldSuffice rfl rfl rfl (by decide +kernel) ⟨Nat.le_of_ble_eq_true rfl, Nat.le_of_ble_eq_true rfl⟩) hK hP hD hS hA hG hl [5, 6, 7, 8, 9, 0, 1, 2, 3, 4] 5 0 (by decide) rfl (ci := 1) rfl rfl rfl rfl rfl rfl rfl rfl rfl rfl (Nat.le_of_ble_eq_true rfl) dX1_takeBooking_18 (Nat.zero_le _) (Nat.zero_le _) (fun H locs hP hD hS => ?_)
    refine lv_if_ne (tgt := 27) hx hb dX1_takeBooking_21 (by decide) (fun hc32 => ?_) (fun hc32 => ?_)
    · replace h := g_if hc32 h
      refine lv_aload_n hx hb dX1_takeBooking_27 rfl (lv_at hl 0 rfl) ?_
      refine va_get (D := E.1) (cl := vwCl) (ci := 1) (v := .ref a11) (C := RX1) (T := TX1) (N := 10) hx hb hts hiX1 hown hK hP 0 rfl rfl 1 (by decide) hw0 (fun _ h9 => h9) rfl dX1_takeBooking_28 ?_
      refine va_get (D := E.1) (cl := vwCl) (ci := 2) (v := .int nm) (C := RX2) (T := TX2) (N := 7) hx hb hts hiX2 hown hK hP 11 rfl rfl 6 (by decide) hw1 (fun _ h9 => h9) rfl dX1_takeBooking_31 ?_
      refine lv_bipush (v := (16 : Int32)) hx hb dX1_takeBooking_34 (by decide) ?_
      refine lv_icmp_lt (tgt := 42) hx hb dX1_takeBooking_36 (by decide) (fun hc33 => ?_) (fun hc33 => ?_)
      · replace h := g_it hc33 h
        refine lv_aload_n hx hb dX1_takeBooking_42 rfl (lv_at hl 0 rfl) ?_
        refine va_get (D := E.1) (cl := vwCl) (ci := 1) (v := .ref a11) (C := RX1) (T := TX1) (N := 10) hx hb hts hiX1 hown hK hP 0 rfl rfl 1 (by decide) hw0 (fun _ h9 => h9) rfl dX1_takeBooking_43 ?_
        refine lv_iload_n hx hb dX1_takeBooking_46 rfl (lv_at hl 1 rfl) ?_
        refine lv_iload_n hx hb dX1_takeBooking_47 rfl (lv_at hl 2 rfl) ?_
        refine lv_iload_n hx hb dX1_takeBooking_48 rfl (lv_at hl 3 rfl) ?_
        obtain ⟨zs34, zd35, zn36, zt37, zl38, zc39, nm40, hc41, h⟩ := bd7_s h
        refine g_call1v (As := [.int p1, .int p2, .int p3]) (rest := []) (bs1 := [wHo E a0 a1 a11 a18 a19 dy fl hu cn gn cs, wSt E a1 a2 a3 a4 a5 a6 a7 a8 a9 a10 lk la ll lots pk pa pd onp br us sp, wPa E a11 a12 a13 a14 a15 a16 a17 zs34 zd35 zn36 zt37 zl38 zc39 nm40, wH8 E a18 sto, wH9 E a19 sg, wHo E b0 b1 b11 b18 b19 o3_dy25 o3_fl26 o3_hu27 o3_cn28 o3_gn29 o3_cs30, wSt E b1 b2 b3 b4 b5 b6 b7 b8 b9 b10 o3_lk5 o3_la6 o3_ll7 o3_lots8 o3_pk9 o3_pa10 o3_pd11 o3_onp12 o3_br13 o3_us14 o3_sp15, wPa E b11 b12 b13 b14 b15 b16 b17 o3_zs16 o3_zd17 o3_zn18 o3_zt19 o3_zl20 o3_zc21 o3_nm22, wH8 E b18 o3_sto23, wH9 E b19 o3_sg24]) ⟨hx, hb, hml, hown, hts⟩ (kX2_add E l a11 a12 a13 a14 a15 a16 a17 zs zd zn zt zl zc nm p1 p2 p3 (zs34, zd35, zn36, zt37, zl38, zc39, nm40) hc41) (cwV 3 hts gX1_takeBooking_X2_add rfl rfl rfl (by decide +kernel) ⟨Nat.le_of_ble_eq_true rfl, Nat.le_of_ble_eq_true rfl⟩) hK hP hD hS hA hG hl 2 0 (ci := 2) rfl rfl rfl rfl rfl rfl rfl rfl (Nat.le_of_ble_eq_true rfl) dX1_takeBooking_49 (Nat.zero_le _) (Nat.zero_le _) (fun H locs hP hD hS => ?_)
        refine lv_aload_n hx hb dX1_takeBooking_52 rfl (lv_at hl 0 rfl) ?_
        refine va_get (D := E.1) (cl := vwCl) (ci := 1) (v := .ref a11) (C := RX1) (T := TX1) (N := 10) hx hb hts hiX1 hown hK hP 0 rfl rfl 1 (by decide) hw0 (fun _ h9 => h9) rfl dX1_takeBooking_53 ?_
        refine va_get (D := E.1) (cl := vwCl) (ci := 2) (v := .int nm40) (C := RX2) (T := TX2) (N := 7) hx hb hts hiX2 hown hK hP 11 rfl rfl 6 (by decide) hw1 (fun _ h9 => h9) rfl dX1_takeBooking_56 ?_
        refine lv_iconst (v := (1 : Int32)) hx hb dX1_takeBooking_59 (by decide) ?_
        refine lv_isub hx hb dX1_takeBooking_60 ?_
        exact hret ((nm40 - (1 : Int32)), zs34, zd35, zn36, zt37, zl38, zc39, nm40, o3_lk5, o3_la6, o3_ll7, o3_lots8, o3_pk9, o3_pa10, o3_pd11, o3_onp12, o3_br13, o3_us14, o3_sp15, o3_zs16, o3_zd17, o3_zn18, o3_zt19, o3_zl20, o3_zc21, o3_nm22, o3_sto23, o3_sg24, o3_dy25, o3_fl26, o3_hu27, o3_cn28, o3_gn29, o3_cs30) _ _ _ _ _ (Option.some.inj h) hP hS rfl dX1_takeBooking_61
      · replace h := g_if hc33 h
        refine lv_bipush (v := (-3 : Int32)) hx hb dX1_takeBooking_39 (by decide) ?_
        exact hret ((-3 : Int32), zs, zd, zn, zt, zl, zc, nm, o3_lk5, o3_la6, o3_ll7, o3_lots8, o3_pk9, o3_pa10, o3_pd11, o3_onp12, o3_br13, o3_us14, o3_sp15, o3_zs16, o3_zd17, o3_zn18, o3_zt19, o3_zl20, o3_zc21, o3_nm22, o3_sto23, o3_sg24, o3_dy25, o3_fl26, o3_hu27, o3_cn28, o3_gn29, o3_cs30) _ _ _ _ _ (Option.some.inj h) hP hS rfl dX1_takeBooking_41
    · replace h := g_it hc32 h
      refine lv_bipush (v := (-2 : Int32)) hx hb dX1_takeBooking_24 (by decide) ?_
      exact hret ((-2 : Int32), zs, zd, zn, zt, zl, zc, nm, o3_lk5, o3_la6, o3_ll7, o3_lots8, o3_pk9, o3_pa10, o3_pd11, o3_onp12, o3_br13, o3_us14, o3_sp15, o3_zs16, o3_zd17, o3_zn18, o3_zt19, o3_zl20, o3_zc21, o3_nm22, o3_sto23, o3_sg24, o3_dy25, o3_fl26, o3_hu27, o3_cn28, o3_gn29, o3_cs30) _ _ _ _ _ (Option.some.inj h) hP hS rfl dX1_takeBooking_26
  · replace h := g_it hc3 h
    refine lv_iconst (v := (-1 : Int32)) hx hb dX1_takeBooking_10 (by decide) ?_
    exact hret ((-1 : Int32), zs, zd, zn, zt, zl, zc, nm, o3_lk, o3_la, o3_ll, o3_lots, o3_pk, o3_pa, o3_pd, o3_onp, o3_br, o3_us, o3_sp, o3_zs, o3_zd, o3_zn, o3_zt, o3_zl, o3_zc, o3_nm, o3_sto, o3_sg, o3_dy, o3_fl, o3_hu, o3_cn, o3_gn, o3_cs) _ _ _ _ _ (Option.some.inj h) hP hS rfl dX1_takeBooking_11
set_option maxHeartbeats 4000000 in
set_option maxRecDepth 100000 in
theorem kX1_tellCalm (E : gE) (l : Launch) (a0 a1 a2 a3 a4 a5 a6 a7 a8 a9 a10 a11 a12 a13 a14 a15 a16 a17 a18 a19 : Nat) (lk : Nat → Int32) (la : Nat → Int32) (ll : Nat → Int32) (lots : Int32) (pk : Nat → Int32) (pa : Nat → Int32) (pd : Nat → Int32) (onp : Int32) (br : Nat → Int32) (us : Nat → Int32) (sp : Nat → Int32) (zs : Nat → Int32) (zd : Nat → Int32) (zn : Nat → Int32) (zt : Nat → Int32) (zl : Nat → Int32) (zc : Nat → Int32) (nm : Int32) (sto : Nat → Int32) (sg : Nat → Int32) (dy : Int32) (fl : Int32) (hu : Int32) (cn : Int32) (gn : Int32) (cs : Int32) (p1 : Int32) (res : Int32 × (Nat → Int32)) (h : fX1_tellCalm sto dy p1 = some res) : gMI E l yX1_tellCalm wsX1_tellCalm ({ frames := 0, cells := 0, slots := 0, locals := 0 } : Room) [.ref a0, .int p1] (List.flatten [wHo E a0 a1 a11 a18 a19 dy fl hu cn gn cs, wSt E a1 a2 a3 a4 a5 a6 a7 a8 a9 a10 lk la ll lots pk pa pd onp br us sp, wPa E a11 a12 a13 a14 a15 a16 a17 zs zd zn zt zl zc nm, wH8 E a18 sto, wH9 E a19 sg]) (fun res : Int32 × (Nat → Int32) => (List.flatten [wHo E a0 a1 a11 a18 a19 dy fl hu cn gn cs, wSt E a1 a2 a3 a4 a5 a6 a7 a8 a9 a10 lk la ll lots pk pa pd onp br us sp, wPa E a11 a12 a13 a14 a15 a16 a17 zs zd zn zt zl zc nm, wH8 E a18 res.2, wH9 E a19 sg])) (fun res => res.1) res := by
  refine g_entI (cc := cX1_tellCalm) (maxL := 3) (by decide) rfl (Nat.le_of_ble_eq_true rfl) ?_
  intro p e s m args below meth c A Q ls hx hb hml hown hts hK hP hD hS hA hG hret hl
  unfold fX1_tellCalm at h
  replace hl : lv_has ls 3 [(0, .ref a0), (1, .int p1)] := hl
  have hiX1 : ∀ w ∈ wsX10, w ∈ wsX1_tellCalm := by decide +kernel
  have hw0 := hts (.fieldLink RX1 49 "GlacierHut$Hut" "day" "I") (by decide +kernel)
  have hw1 := hts (.fieldLink RX1 25 "GlacierHut$Hut" "storms" "[Z") (by decide +kernel)
  refine lv_iload_n hx hb dX1_tellCalm_0 rfl (lv_at hl 1 rfl) ?_
  refine lv_aload_n hx hb dX1_tellCalm_1 rfl (lv_at hl 0 rfl) ?_
  refine va_get (D := E.1) (cl := vwCl) (ci := 1) (v := .int dy) (C := RX1) (T := TX1) (N := 10) hx hb hts hiX1 hown hK hP 0 rfl rfl 4 (by decide) hw0 (fun _ h9 => h9) rfl dX1_tellCalm_2 ?_
  refine lv_icmp_lt (tgt := 15) hx hb dX1_tellCalm_5 (by decide) (fun hc1 => ?_) (fun hc1 => ?_)
  · replace h := g_it hc1 h
    refine lv_iconst (v := (-1 : Int32)) hx hb dX1_tellCalm_15 (by decide) ?_
    exact hret ((-1 : Int32), sto) _ _ _ _ _ (Option.some.inj h) hP hS rfl dX1_tellCalm_16
  · replace h := g_if hc1 h
    refine lv_iload_n hx hb dX1_tellCalm_8 rfl (lv_at hl 1 rfl) ?_
    refine lv_sipush (v := (395 : Int32)) hx hb dX1_tellCalm_9 (by decide) ?_
    refine lv_icmp_le (tgt := 17) hx hb dX1_tellCalm_12 (by decide) (fun hc2 => ?_) (fun hc2 => ?_)
    · replace h := g_it hc2 h
      refine lv_aload_n hx hb dX1_tellCalm_17 rfl (lv_at hl 0 rfl) ?_
      refine va_get (D := E.1) (cl := vwCl) (ci := 1) (v := .ref a18) (C := RX1) (T := TX1) (N := 10) hx hb hts hiX1 hown hK hP 0 rfl rfl 2 (by decide) hw1 (fun _ h9 => h9) rfl dX1_tellCalm_18 ?_
      refine lv_iload_n hx hb dX1_tellCalm_21 rfl (lv_at hl 1 rfl) ?_
      obtain ⟨hg3, h⟩ := gd_s h
      refine va_zald (D := E.1) (cl := vwCl) (tys := gT E) hx hb hK hP 18 1 rfl rfl (inB_in hg3) dX1_tellCalm_22 ?_
      refine lv_topi (fun v4 e_v4 => ?_)
      replace h := jl_s e_v4 h
      refine lv_istore_n (lv' := [(2, .int v4), (0, .ref a0), (1, .int p1)]) hx hb dX1_tellCalm_23 rfl hl (by decide) rfl (fun ls hl => ?_)
      refine lv_aload_n hx hb dX1_tellCalm_24 rfl (lv_at hl 1 rfl) ?_
      refine va_get (D := E.1) (cl := vwCl) (ci := 1) (v := .ref a18) (C := RX1) (T := TX1) (N := 10) hx hb hts hiX1 hown hK hP 0 rfl rfl 2 (by decide) hw1 (fun _ h9 => h9) rfl dX1_tellCalm_25 ?_
      refine lv_iload_n hx hb dX1_tellCalm_28 rfl (lv_at hl 2 rfl) ?_
      refine lv_iconst (v := (0 : Int32)) hx hb dX1_tellCalm_29 (by decide) ?_
      refine va_zast (D := E.1) (cl := vwCl) (tys := gT E) hx hb hK hP hD hS 18 1 rfl rfl (inB_in hg3) dX1_tellCalm_30 (fun H locs hP hD hS => ?_)
      obtain ⟨sto5, e_sto5⟩ : ∃ y : Nat → Int32, y = (upd sto (p1).toNatClampNeg (vp_nar .boolean (0 : Int32))) := ⟨_, rfl⟩
      replace h := jl_s e_sto5 h
      replace hP : va_P E.1 vwCl (List.flatten [wHo E a0 a1 a11 a18 a19 dy fl hu cn gn cs, wSt E a1 a2 a3 a4 a5 a6 a7 a8 a9 a10 lk la ll lots pk pa pd onp br us sp, wPa E a11 a12 a13 a14 a15 a16 a17 zs zd zn zt zl zc nm, wH8 E a18 sto5, wH9 E a19 sg]) H := (by rw [e_sto5]; exact hP)
      replace hD : va_D A (List.flatten [wHo E a0 a1 a11 a18 a19 dy fl hu cn gn cs, wSt E a1 a2 a3 a4 a5 a6 a7 a8 a9 a10 lk la ll lots pk pa pd onp br us sp, wPa E a11 a12 a13 a14 a15 a16 a17 zs zd zn zt zl zc nm, wH8 E a18 sto5, wH9 E a19 sg]) := gD_same hD rfl
      refine lv_iload_n hx hb dX1_tellCalm_31 rfl (lv_at hl 0 rfl) ?_
      refine lv_if_eq (tgt := 39) hx hb dX1_tellCalm_32 (by decide) (fun hc6 => ?_) (fun hc6 => ?_)
      · replace h := g_it hc6 h
        refine lv_iconst (v := (0 : Int32)) hx hb dX1_tellCalm_39 (by decide) ?_
        exact hret ((0 : Int32), sto5) _ _ _ _ _ (Option.some.inj h) hP hS rfl dX1_tellCalm_40
      · replace h := g_if hc6 h
        refine lv_iconst (v := (1 : Int32)) hx hb dX1_tellCalm_35 (by decide) ?_
        refine lv_goto (tgt := 40) hx hb dX1_tellCalm_36 (by decide) ?_
        exact hret ((1 : Int32), sto5) _ _ _ _ _ (Option.some.inj h) hP hS rfl dX1_tellCalm_40
    · replace h := g_if hc2 h
      refine lv_iconst (v := (-1 : Int32)) hx hb dX1_tellCalm_15 (by decide) ?_
      exact hret ((-1 : Int32), sto) _ _ _ _ _ (Option.some.inj h) hP hS rfl dX1_tellCalm_16
