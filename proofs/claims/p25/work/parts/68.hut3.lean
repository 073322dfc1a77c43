set_option maxHeartbeats 4000000 in
set_option maxRecDepth 100000 in
theorem kX1_wouldSuffice (E : gE) (l : Launch) (a0 a1 a2 a3 a4 a5 a6 a7 a8 a9 a10 a11 a12 a13 a14 a15 a16 a17 a18 a19 : Nat) (lk : Nat → Int32) (la : Nat → Int32) (ll : Nat → Int32) (lots : Int32) (pk : Nat → Int32) (pa : Nat → Int32) (pd : Nat → Int32) (onp : Int32) (br : Nat → Int32) (us : Nat → Int32) (sp : Nat → Int32) (zs : Nat → Int32) (zd : Nat → Int32) (zn : Nat → Int32) (zt : Nat → Int32) (zl : Nat → Int32) (zc : Nat → Int32) (nm : Int32) (sto : Nat → Int32) (sg : Nat → Int32) (dy : Int32) (fl : Int32) (hu : Int32) (cn : Int32) (gn : Int32) (cs : Int32) (p1 : Int32) (p2 : Int32) (p3 : Int32) (res : Int32 × (Nat → Int32) × (Nat → Int32) × (Nat → Int32) × Int32 × (Nat → Int32) × (Nat → Int32) × (Nat → Int32) × (Nat → Int32) × (Nat → Int32) × (Nat → Int32) × (Nat → Int32) × (Nat → Int32) × Int32 × Int32 × Int32 × Int32 × Int32 × Int32) (h : fX1_wouldSuffice lk la ll lots us sp zs zd zn zt zl zc nm sto sg dy hu cn gn cs p1 p2 p3 = some res) : gMI E l yX1_wouldSuffice wsX1_wouldSuffice ({ frames := 2, cells := 0, slots := 0, locals := 54 } : Room) [.ref a0, .int p1, .int p2, .int p3] (List.flatten [wHo E a0 a1 a11 a18 a19 dy fl hu cn gn cs, wSt E a1 a2 a3 a4 a5 a6 a7 a8 a9 a10 lk la ll lots pk pa pd onp br us sp, wPa E a11 a12 a13 a14 a15 a16 a17 zs zd zn zt zl zc nm, wH8 E a18 sto, wH9 E a19 sg]) (fun res : Int32 × (Nat → Int32) × (Nat → Int32) × (Nat → Int32) × Int32 × (Nat → Int32) × (Nat → Int32) × (Nat → Int32) × (Nat → Int32) × (Nat → Int32) × (Nat → Int32) × (Nat → Int32) × (Nat → Int32) × Int32 × Int32 × Int32 × Int32 × Int32 × Int32 => (List.flatten [wHo E a0 a1 a11 a18 a19 res.2.2.2.2.2.2.2.2.2.2.2.2.2.2.1 fl res.2.2.2.2.2.2.2.2.2.2.2.2.2.2.2.1 res.2.2.2.2.2.2.2.2.2.2.2.2.2.2.2.2.1 res.2.2.2.2.2.2.2.2.2.2.2.2.2.2.2.2.2.1 res.2.2.2.2.2.2.2.2.2.2.2.2.2.2.2.2.2.2, wSt E a1 a2 a3 a4 a5 a6 a7 a8 a9 a10 res.2.1 res.2.2.1 res.2.2.2.1 res.2.2.2.2.1 pk pa pd onp br res.2.2.2.2.2.1 res.2.2.2.2.2.2.1, wPa E a11 a12 a13 a14 a15 a16 a17 res.2.2.2.2.2.2.2.1 res.2.2.2.2.2.2.2.2.1 res.2.2.2.2.2.2.2.2.2.1 res.2.2.2.2.2.2.2.2.2.2.1 res.2.2.2.2.2.2.2.2.2.2.2.1 res.2.2.2.2.2.2.2.2.2.2.2.2.1 res.2.2.2.2.2.2.2.2.2.2.2.2.2.1, wH8 E a18 sto, wH9 E a19 sg])) (fun res => res.1) res := by
  refine g_entZ (cc := cX1_wouldSuffice) (maxL := 5) (by decide) rfl (Nat.le_of_ble_eq_true rfl) ?_
  intro p e s m args below meth c A Q ls hx hb hml hown hts hK hP hD hS hA hG hret hl
  unfold fX1_wouldSuffice at h
  replace hl : lv_has ls 5 [(0, .ref a0), (1, .int p1), (2, .int p2), (3, .int p3)] := hl
  have hiX1 : ∀ w ∈ wsX10, w ∈ wsX1_wouldSuffice := by decide +kernel
  have hw0 := hts (.fieldLink RX1 21 "GlacierHut$Hut" "parties" "LGlacierHut$Parties;") (by decide +kernel)
  refine lv_aload_n hx hb dX1_wouldSuffice_0 rfl (lv_at hl 0 rfl) ?_
  refine va_get (D := E.1) (cl := vwCl) (ci := 1) (v := .ref a11) (C := RX1) (T := TX1) (N := 10) hx hb hts hiX1 hown hK hP 0 rfl rfl 1 (by decide) hw0 (fun _ h9 => h9) rfl dX1_wouldSuffice_1 ?_
  refine lv_iload_n hx hb dX1_wouldSuffice_4 rfl (lv_at hl 1 rfl) ?_
  refine lv_iload_n hx hb dX1_wouldSuffice_5 rfl (lv_at hl 2 rfl) ?_
  refine lv_iload_n hx hb dX1_wouldSuffice_6 rfl (lv_at hl 3 rfl) ?_
  obtain ⟨zs1, zd2, zn3, zt4, zl5, zc6, nm7, hc8, h⟩ := bd7_s h
  refine g_call1v (As := [.int p1, .int p2, .int p3]) (rest := []) (bs1 := [wHo E a0 a1 a11 a18 a19 dy fl hu cn gn cs, wSt E a1 a2 a3 a4 a5 a6 a7 a8 a9 a10 lk la ll lots pk pa pd onp br us sp, wPa E a11 a12 a13 a14 a15 a16 a17 zs1 zd2 zn3 zt4 zl5 zc6 nm7, wH8 E a18 sto, wH9 E a19 sg]) ⟨hx, hb, hml, hown, hts⟩ (kX2_add E l a11 a12 a13 a14 a15 a16 a17 zs zd zn zt zl zc nm p1 p2 p3 (zs1, zd2, zn3, zt4, zl5, zc6, nm7) hc8) (cwV 3 hts gX1_wouldSuffice_X2_add rfl rfl rfl (by decide +kernel) ⟨Nat.le_of_ble_eq_true rfl, Nat.le_of_ble_eq_true rfl⟩) hK hP hD hS hA hG hl 2 0 (ci := 2) rfl rfl rfl rfl rfl rfl rfl rfl (Nat.le_of_ble_eq_true rfl) dX1_wouldSuffice_7 (Nat.zero_le _) (Nat.zero_le _) (fun H locs hP hD hS => ?_)
  refine lv_iconst (v := (0 : Int32)) hx hb dX1_wouldSuffice_10 (by decide) ?_
  refine lv_istore (lv' := [(4, .int (0 : Int32)), (0, .ref a0), (1, .int p1), (2, .int p2), (3, .int p3)]) hx hb dX1_wouldSuffice_11 hl (by decide) rfl (fun ls hl => ?_)
  refine gl15_e h (fun S_rec9 hS_rec9 h => ?_)
  have hL_rec9 : ∀ (nF : Nat) (v10 : Int32) (lk11 : Nat → Int32) (la12 : Nat → Int32) (ll13 : Nat → Int32) (lots14 : Int32) (us15 : Nat → Int32) (sp16 : Nat → Int32) (zt17 : Nat → Int32) (zl18 : Nat → Int32) (zc19 : Nat → Int32) (dy20 : Int32) (hu21 : Int32) (cn22 : Int32) (gn23 : Int32) (cs24 : Int32) (H : Heap) (locs : List Loc) (ls : Array Slot), va_P E.1 vwCl (List.flatten [wHo E a0 a1 a11 a18 a19 dy20 fl hu21 cn22 gn23 cs24, wSt E a1 a2 a3 a4 a5 a6 a7 a8 a9 a10 lk11 la12 ll13 lots14 pk pa pd onp br us15 sp16, wPa E a11 a12 a13 a14 a15 a16 a17 zs1 zd2 zn3 zt17 zl18 zc19 nm7, wH8 E a18 sto, wH9 E a19 sg]) H → va_S A s.heap H locs → lv_has ls 5 [(4, .int v10), (0, .ref a0)] → gl15 S_rec9 nF v10 lk11 la12 ll13 lots14 us15 sp16 zt17 zl18 zc19 dy20 hu21 cn22 gn23 cs24 = some res → W p l e ({ frames := 2, cells := 0, slots := 0, locals := 54 } : Room) s m args below meth c H locs 0 0 Q (F0 m 13 ls []) := by
    intro nF
    induction nF with
    | zero => intro v10 lk11 la12 ll13 lots14 us15 sp16 zt17 zl18 zc19 dy20 hu21 cn22 gn23 cs24 H locs ls hP hS hl h; exact gl15_z h
    | succ nF ih_rec9 =>
      intro v10 lk11 la12 ll13 lots14 us15 sp16 zt17 zl18 zc19 dy20 hu21 cn22 gn23 cs24 H locs ls hP hS hl h
      replace hD : va_D A (List.flatten [wHo E a0 a1 a11 a18 a19 dy20 fl hu21 cn22 gn23 cs24, wSt E a1 a2 a3 a4 a5 a6 a7 a8 a9 a10 lk11 la12 ll13 lots14 pk pa pd onp br us15 sp16, wPa E a11 a12 a13 a14 a15 a16 a17 zs1 zd2 zn3 zt17 zl18 zc19 nm7, wH8 E a18 sto, wH9 E a19 sg]) := gD_same hD rfl
      replace h : S_rec9 (gl15 S_rec9 nF) v10 lk11 la12 ll13 lots14 us15 sp16 zt17 zl18 zc19 dy20 hu21 cn22 gn23 cs24 = some res := h
      generalize gl15 S_rec9 nF = rec9 at h ih_rec9
      subst hS_rec9
      unfold sX1_wouldSuffice_rec9 at h
      refine lv_iload hx hb dX1_wouldSuffice_13 (lv_at hl 0 rfl) ?_
      refine lv_sipush (v := (1000 : Int32)) hx hb dX1_wouldSuffice_15 (by decide) ?_
      refine lv_icmp_ge (tgt := 46) hx hb dX1_wouldSuffice_18 (by decide) (fun hc25 => ?_) (fun hc25 => ?_)
      · replace h := g_it hc25 h
        refine lv_iconst (v := (1 : Int32)) hx hb dX1_wouldSuffice_46 (by decide) ?_
        exact hret ((1 : Int32), lk11, la12, ll13, lots14, us15, sp16, zs1, zd2, zn3, zt17, zl18, zc19, nm7, dy20, hu21, cn22, gn23, cs24) _ _ _ _ _ (Option.some.inj h) hP hS rfl rfl dX1_wouldSuffice_47
      · replace h := g_if hc25 h
        refine lv_aload_n hx hb dX1_wouldSuffice_21 rfl (lv_at hl 1 rfl) ?_
        refine va_get (D := E.1) (cl := vwCl) (ci := 1) (v := .ref a11) (C := RX1) (T := TX1) (N := 10) hx hb hts hiX1 hown hK hP 0 rfl rfl 1 (by decide) hw0 (fun _ h9 => h9) rfl dX1_wouldSuffice_22 ?_
        obtain ⟨r26, hc27, h⟩ := bd1_s h
        refine g_callRi (As := []) (rest := []) (r := r26) ⟨hx, hb, hml, hown, hts⟩ (kX2_anyAwaited E l a11 a12 a13 a14 a15 a16 a17 zs1 zd2 zn3 zt17 zl18 zc19 nm7 r26 hc27) (cwV 0 hts gX1_wouldSuffice_X2_anyAwaited rfl rfl rfl (by decide +kernel) ⟨Nat.le_of_ble_eq_true rfl, Nat.le_of_ble_eq_true rfl⟩) hK hP hD hS hA hG hl [11, 12, 13, 14, 15, 16, 17] 11 (by decide) rfl (ci := 2) rfl rfl rfl rfl rfl rfl rfl (Nat.le_of_ble_eq_true rfl) dX1_wouldSuffice_25 (Nat.zero_le _) (Nat.zero_le _) (fun H locs hP hD hS => ?_)
        refine lv_if_eq (tgt := 46) hx hb dX1_wouldSuffice_28 (by decide) (fun hc28 => ?_) (fun hc28 => ?_)
        · replace h := g_it hc28 h
          refine lv_iconst (v := (1 : Int32)) hx hb dX1_wouldSuffice_46 (by decide) ?_
          exact hret ((1 : Int32), lk11, la12, ll13, lots14, us15, sp16, zs1, zd2, zn3, zt17, zl18, zc19, nm7, dy20, hu21, cn22, gn23, cs24) _ _ _ _ _ (Option.some.inj h) hP hS rfl rfl dX1_wouldSuffice_47
        · replace h := g_if hc28 h
          refine lv_aload_n hx hb dX1_wouldSuffice_31 rfl (lv_at hl 1 rfl) ?_
          obtain ⟨r29, lk30, la31, ll32, lots33, us34, sp35, zt36, zl37, zc38, dy39, hu40, cn41, gn42, cs43, hc44, h⟩ := bd15_s h
          refine g_callBi (As := []) (rest := []) (r := r29) (bs1 := [wHo E a0 a1 a11 a18 a19 dy39 fl hu40 cn41 gn42 cs43, wSt E a1 a2 a3 a4 a5 a6 a7 a8 a9 a10 lk30 la31 ll32 lots33 pk pa pd onp br us34 sp35, wPa E a11 a12 a13 a14 a15 a16 a17 zs1 zd2 zn3 zt36 zl37 zc38 nm7, wH8 E a18 sto, wH9 E a19 sg]) ⟨hx, hb, hml, hown, hts⟩ (kX1_passNight E l a0 a1 a2 a3 a4 a5 a6 a7 a8 a9 a10 a11 a12 a13 a14 a15 a16 a17 a18 a19 lk11 la12 ll13 lots14 pk pa pd onp br us15 sp16 zs1 zd2 zn3 zt17 zl18 zc19 nm7 sto sg dy20 fl hu21 cn22 gn23 cs24 (r29, lk30, la31, ll32, lots33, us34, sp35, zt36, zl37, zc38, dy39, hu40, cn41, gn42, cs43) hc44) (cwV 0 hts gX1_wouldSuffice_X1_passNight rfl rfl rfl (by decide +kernel) ⟨Nat.le_of_ble_eq_true rfl, Nat.le_of_ble_eq_true rfl⟩) hK hP hD hS hA hG hl [0, 1, 2, 3, 4] 0 0 (by decide) rfl (ci := 1) rfl rfl rfl rfl rfl rfl rfl rfl rfl rfl (Nat.le_of_ble_eq_true rfl) dX1_wouldSuffice_32 (Nat.zero_le _) (Nat.zero_le _) (fun H locs hP hD hS => ?_)
          refine lv_if_ne (tgt := 40) hx hb dX1_wouldSuffice_35 (by decide) (fun hc45 => ?_) (fun hc45 => ?_)
          · replace h := g_if hc45 h
            obtain ⟨v46, e_v46⟩ : ∃ y : Int32, y = (v10 + (1 : Int32)) := ⟨_, rfl⟩
            replace h := jl_s e_v46 h
            refine lv_iinc (v := v46) (lv' := [(4, .int v46), (0, .ref a0)]) hx hb dX1_wouldSuffice_40 hl (k := 0) rfl (by rw [e_v46]; rfl) (by decide) rfl (fun ls hl => ?_)
            refine lv_goto (tgt := 13) hx hb dX1_wouldSuffice_43 (by decide) ?_
            exact ih_rec9 v46 lk30 la31 ll32 lots33 us34 sp35 zt36 zl37 zc38 dy39 hu40 cn41 gn42 cs43 _ _ _ hP hS (lv_sub hl [0, 1] rfl) h
          · replace h := g_it hc45 h
            refine lv_iconst (v := (0 : Int32)) hx hb dX1_wouldSuffice_38 (by decide) ?_
            exact hret ((0 : Int32), lk30, la31, ll32, lots33, us34, sp35, zs1, zd2, zn3, zt36, zl37, zc38, nm7, dy39, hu40, cn41, gn42, cs43) _ _ _ _ _ (Option.some.inj h) hP hS rfl rfl dX1_wouldSuffice_39
  exact hL_rec9 gFU (0 : Int32) lk la ll lots us sp zt4 zl5 zc6 dy hu cn gn cs _ _ _ hP hS (lv_sub hl [0, 1] rfl) h
set_option maxHeartbeats 4000000 in
set_option maxRecDepth 100000 in
theorem kX1_takeBooking (E : gE) (l : Launch) (a0 a1 a2 a3 a4 a5 a6 a7 a8 a9 a10 a11 a12 a13 a14 a15 a16 a17 a18 a19 b0 b1 b2 b3 b4 b5 b6 b7 b8 b9 b10 b11 b12 b13 b14 b15 b16 b17 b18 b19 : Nat) (lk : Nat → Int32) (la : Nat → Int32) (ll : Nat → Int32) (lots : Int32) (pk : Nat → Int32) (pa : Nat → Int32) (pd : Nat → Int32) (onp : Int32) (br : Nat → Int32) (us : Nat → Int32) (sp : Nat → Int32) (zs : Nat → Int32) (zd : Nat → Int32) (zn : Nat → Int32) (zt : Nat → Int32) (zl : Nat → Int32) (zc : Nat → Int32) (nm : Int32) (sto : Nat → Int32) (sg : Nat → Int32) (dy : Int32) (fl : Int32) (hu : Int32) (cn : Int32) (gn : Int32) (cs : Int32) (o3_lk : Nat → Int32) (o3_la : Nat → Int32) (o3_ll : Nat → Int32) (o3_lots : Int32) (o3_pk : Nat → Int32) (o3_pa : Nat → Int32) (o3_pd : Nat → Int32) (o3_onp : Int32) (o3_br : Nat → Int32) (o3_us : Nat → Int32) (o3_sp : Nat → Int32) (o3_zs : Nat → Int32) (o3_zd : Nat → Int32) (o3_zn : Nat → Int32) (o3_zt : Nat → Int32) (o3_zl : Nat → Int32) (o3_zc : Nat → Int32) (o3_nm : Int32) (o3_sto : Nat → Int32) (o3_sg : Nat → Int32) (o3_dy : Int32) (o3_fl : Int32) (o3_hu : Int32) (o3_cn : Int32) (o3_gn : Int32) (o3_cs : Int32) (p1 : Int32) (p2 : Int32) (p3 : Int32) (res : Int32 × (Nat → Int32) × (Nat → Int32) × (Nat → Int32) × (Nat → Int32) × (Nat → Int32) × (Nat → Int32) × Int32 × (Nat → Int32) × (Nat → Int32) × (Nat → Int32) × Int32 × (Nat → Int32) × (Nat → Int32) × (Nat → Int32) × Int32 × (Nat → Int32) × (Nat → Int32) × (Nat → Int32) × (Nat → Int32) × (Nat → Int32) × (Nat → Int32) × (Nat → Int32) × (Nat → Int32) × (Nat → Int32) × Int32 × (Nat → Int32) × (Nat → Int32) × Int32 × Int32 × Int32 × Int32 × Int32 × Int32) (h : fX1_takeBooking lk la ll lots pk pa pd onp br us sp zs zd zn zt zl zc nm sto sg dy fl hu cn gn cs o3_lk o3_la o3_ll o3_lots o3_pk o3_pa o3_pd o3_onp o3_br o3_us o3_sp o3_zs o3_zd o3_zn o3_zt o3_zl o3_zc o3_nm o3_sto o3_sg o3_dy o3_fl o3_hu o3_cn o3_gn o3_cs p1 p2 p3 = some res) : gMI E l yX1_takeBooking wsX1_takeBooking ({ frames := 3, cells := 0, slots := 0, locals := 78 } : Room) [.ref a0, .int p1, .int p2, .int p3, .ref b0] (List.flatten [wHo E a0 a1 a11 a18 a19 dy fl hu cn gn cs, wSt E a1 a2 a3 a4 a5 a6 a7 a8 a9 a10 lk la ll lots pk pa pd onp br us sp, wPa E a11 a12 a13 a14 a15 a16 a17 zs zd zn zt zl zc nm, wH8 E a18 sto, wH9 E a19 sg, wHo E b0 b1 b11 b18 b19 o3_dy o3_fl o3_hu o3_cn o3_gn o3_cs, wSt E b1 b2 b3 b4 b5 b6 b7 b8 b9 b10 o3_lk o3_la o3_ll o3_lots o3_pk o3_pa o3_pd o3_onp o3_br o3_us o3_sp, wPa E b11 b12 b13 b14 b15 b16 b17 o3_zs o3_zd o3_zn o3_zt o3_zl o3_zc o3_nm, wH8 E b18 o3_sto, wH9 E b19 o3_sg]) (fun res : Int32 × (Nat → Int32) × (Nat → Int32) × (Nat → Int32) × (Nat → Int32) × (Nat → Int32) × (Nat → Int32) × Int32 × (Nat → Int32) × (Nat → Int32) × (Nat → Int32) × Int32 × (Nat → Int32) × (Nat → Int32) × (Nat → Int32) × Int32 × (Nat → Int32) × (Nat → Int32) × (Nat → Int32) × (Nat → Int32) × (Nat → Int32) × (Nat → Int32) × (Nat → Int32) × (Nat → Int32) × (Nat → Int32) × Int32 × (Nat → Int32) × (Nat → Int32) × Int32 × Int32 × Int32 × Int32 × Int32 × Int32 => (List.flatten [wHo E a0 a1 a11 a18 a19 dy fl hu cn gn cs, wSt E a1 a2 a3 a4 a5 a6 a7 a8 a9 a10 lk la ll lots pk pa pd onp br us sp, wPa E a11 a12 a13 a14 a15 a16 a17 res.2.1 res.2.2.1 res.2.2.2.1 res.2.2.2.2.1 res.2.2.2.2.2.1 res.2.2.2.2.2.2.1 res.2.2.2.2.2.2.2.1, wH8 E a18 sto, wH9 E a19 sg, wHo E b0 b1 b11 b18 b19 res.2.2.2.2.2.2.2.2.2.2.2.2.2.2.2.2.2.2.2.2.2.2.2.2.2.2.2.2.1 res.2.2.2.2.2.2.2.2.2.2.2.2.2.2.2.2.2.2.2.2.2.2.2.2.2.2.2.2.2.1 res.2.2.2.2.2.2.2.2.2.2.2.2.2.2.2.2.2.2.2.2.2.2.2.2.2.2.2.2.2.2.1 res.2.2.2.2.2.2.2.2.2.2.2.2.2.2.2.2.2.2.2.2.2.2.2.2.2.2.2.2.2.2.2.1 res.2.2.2.2.2.2.2.2.2.2.2.2.2.2.2.2.2.2.2.2.2.2.2.2.2.2.2.2.2.2.2.2.1 res.2.2.2.2.2.2.2.2.2.2.2.2.2.2.2.2.2.2.2.2.2.2.2.2.2.2.2.2.2.2.2.2.2, wSt E b1 b2 b3 b4 b5 b6 b7 b8 b9 b10 res.2.2.2.2.2.2.2.2.1 res.2.2.2.2.2.2.2.2.2.1 res.2.2.2.2.2.2.2.2.2.2.1 res.2.2.2.2.2.2.2.2.2.2.2.1 res.2.2.2.2.2.2.2.2.2.2.2.2.1 res.2.2.2.2.2.2.2.2.2.2.2.2.2.1 res.2.2.2.2.2.2.2.2.2.2.2.2.2.2.1 res.2.2.2.2.2.2.2.2.2.2.2.2.2.2.2.1 res.2.2.2.2.2.2.2.2.2.2.2.2.2.2.2.2.1 res.2.2.2.2.2.2.2.2.2.2.2.2.2.2.2.2.2.1 res.2.2.2.2.2.2.2.2.2.2.2.2.2.2.2.2.2.2.1, wPa E b11 b12 b13 b14 b15 b16 b17 res.2.2.2.2.2.2.2.2.2.2.2.2.2.2.2.2.2.2.2.1 res.2.2.2.2.2.2.2.2.2.2.2.2.2.2.2.2.2.2.2.2.1 res.2.2.2.2.2.2.2.2.2.2.2.2.2.2.2.2.2.2.2.2.2.1 res.2.2.2.2.2.2.2.2.2.2.2.2.2.2.2.2.2.2.2.2.2.2.1 res.2.2.2.2.2.2.2.2.2.2.2.2.2.2.2.2.2.2.2.2.2.2.2.1 res.2.2.2.2.2.2.2.2.2.2.2.2.2.2.2.2.2.2.2.2.2.2.2.2.1 res.2.2.2.2.2.2.2.2.2.2.2.2.2.2.2.2.2.2.2.2.2.2.2.2.2.1, wH8 E b18 res.2.2.2.2.2.2.2.2.2.2.2.2.2.2.2.2.2.2.2.2.2.2.2.2.2.2.1, wH9 E b19 res.2.2.2.2.2.2.2.2.2.2.2.2.2.2.2.2.2.2.2.2.2.2.2.2.2.2.2.1])) (fun res => res.1) res := by
  refine g_entI (cc := cX1_takeBooking) (maxL := 5) (by decide) rfl (Nat.le_of_ble_eq_true rfl) ?_
  intro p e s m args below meth c A Q ls hx hb hml hown hts hK hP hD hS hA hG hret hl
  unfold fX1_takeBooking at h
  replace hl : lv_has ls 5 [(0, .ref a0), (1, .int p1), (2, .int p2), (3, .int p3), (4, .ref b0)] := hl
  have hiX1 : ∀ w ∈ wsX10, w ∈ wsX1_takeBooking := by decide +kernel
  have hiX2 : ∀ w ∈ wsX20, w ∈ wsX1_takeBooking := by decide +kernel
  have hw0 := hts (.fieldLink RX1 21 "GlacierHut$Hut" "parties" "LGlacierHut$Parties;") (by decide +kernel)
  have hw1 := hts (.fieldLink RX1 100 "GlacierHut$Parties" "number" "I") (by decide +kernel)
  refine lv_aload_n hx hb dX1_takeBooking_0 rfl (lv_at hl 0 rfl) ?_
  refine lv_iload_n hx hb dX1_takeBooking_1 rfl (lv_at hl 1 rfl) ?_
  refine lv_iload_n hx hb dX1_takeBooking_2 rfl (lv_at hl 2 rfl) ?_
  refine lv_iload_n hx hb dX1_takeBooking_3 rfl (lv_at hl 3 rfl) ?_
  obtain ⟨r1, hc2, h⟩ := bd1_s h
  refine g_callRi (As := [.int p1, .int p2, .int p3]) (rest := []) (r := r1) ⟨hx, hb, hml, hown, hts⟩ (kX1_mayBeBooked E l a0 a1 a2 a3 a4 a5 a6 a7 a8 a9 a10 a11 a12 a13 a14 a15 a16 a17 a18 a19 lk la ll lots pk pa pd onp br us sp zs zd zn zt zl zc nm sto sg dy fl hu cn gn cs p1 p2 p3 r1 hc2) (cwV 3 hts gX1_takeBooking_X1_mayBeBooked rfl rfl rfl (by decide +kernel) ⟨Nat.le_of_ble_eq_true rfl, Nat.le_of_ble_eq_true rfl⟩) hK hP hD hS hA hG hl [0, 1, 2, 3, 4, 5, 6, 7, 8, 9, 10, 11, 12, 13, 14, 15, 16, 17, 18, 19] 0 (by decide) rfl (ci := 1) rfl rfl rfl rfl rfl rfl rfl (Nat.le_of_ble_eq_true rfl) dX1_takeBooking_4 (Nat.zero_le _) (Nat.zero_le _) (fun H locs hP hD hS => ?_)
  refine lv_if_ne (tgt := 12) hx hb dX1_takeBooking_7 (by decide) (fun hc3 => ?_) (fun hc3 => ?_)
  · replace h := g_if hc3 h
    refine lv_aload hx hb dX1_takeBooking_12 (lv_at hl 4 rfl) ?_
    refine lv_aload_n hx hb dX1_takeBooking_14 rfl (lv_at hl 0 rfl) ?_
    obtain ⟨o3_lk4, o3_la5, o3_ll6, o3_lots7, o3_pk8, o3_pa9, o3_pd10, o3_onp11, o3_br12, o3_us13, o3_sp14, o3_zs15, o3_zd16, o3_zn17, o3_zt18, o3_zl19, o3_zc20, o3_nm21, o3_sto22, o3_sg23, o3_dy24, o3_fl25, o3_hu26, o3_cn27, o3_gn28, o3_cs29, hc30, h⟩ := bd26_s h
    refine g_callBv (As := [.ref a0]) (rest := []) (bs1 := [wHo E a0 a1 a11 a18 a19 dy fl hu cn gn cs, wSt E a1 a2 a3 a4 a5 a6 a7 a8 a9 a10 lk la ll lots pk pa pd onp br us sp, wPa E a11 a12 a13 a14 a15 a16 a17 zs zd zn zt zl zc nm, wH8 E a18 sto, wH9 E a19 sg, wHo E b0 b1 b11 b18 b19 o3_dy24 o3_fl25 o3_hu26 o3_cn27 o3_gn28 o3_cs29, wSt E b1 b2 b3 b4 b5 b6 b7 b8 b9 b10 o3_lk4 o3_la5 o3_ll6 o3_lots7 o3_pk8 o3_pa9 o3_pd10 o3_onp11 o3_br12 o3_us13 o3_sp14, wPa E b11 b12 b13 b14 b15 b16 b17 o3_zs15 o3_zd16 o3_zn17 o3_zt18 o3_zl19 o3_zc20 o3_nm21, wH8 E b18 o3_sto22, wH9 E b19 o3_sg23]) ⟨hx, hb, hml, hown, hts⟩ (kX1_copyFrom E l b0 b1 b2 b3 b4 b5 b6 b7 b8 b9 b10 b11 b12 b13 b14 b15 b16 b17 b18 b19 a0 a1 a2 a3 a4 a5 a6 a7 a8 a9 a10 a11 a12 a13 a14 a15 a16 a17 a18 a19 o3_lk o3_la o3_ll o3_lots o3_pk o3_pa o3_pd o3_onp o3_br o3_us o3_sp o3_zs o3_zd o3_zn o3_zt o3_zl o3_zc o3_nm o3_sto o3_sg o3_dy o3_fl o3_hu o3_cn o3_gn o3_cs lk la ll lots pk pa pd onp br us sp zs zd zn zt zl zc nm sto sg dy fl hu cn gn cs (o3_lk4, o3_la5, o3_ll6, o3_lots7, o3_pk8, o3_pa9, o3_pd10, o3_onp11, o3_br12, o3_us13, o3_sp14, o3_zs15, o3_zd16, o3_zn17, o3_zt18, o3_zl19, o3_zc20, o3_nm21, o3_sto22, o3_sg23, o3_dy24, o3_fl25, o3_hu26, o3_cn27, o3_gn28, o3_cs29) hc30) (cwV 1 hts gX1_takeBooking_X1_copyFrom rfl rfl rfl (by decide +kernel) ⟨Nat.le_of_ble_eq_true rfl, Nat.le_of_ble_eq_true rfl⟩) hK hP hD hS hA hG hl [5, 6, 7, 8, 9, 0, 1, 2, 3, 4] 5 0 (by decide) rfl (ci := 1) rfl rfl rfl rfl rfl rfl rfl rfl rfl (Nat.le_of_ble_eq_true rfl) dX1_takeBooking_15 (Nat.zero_le _) (Nat.zero_le _) (fun H locs hP hD hS => ?_)
    refine lv_aload hx hb dX1_takeBooking_18 (lv_at hl 4 rfl) ?_
    refine lv_iload_n hx hb dX1_takeBooking_20 rfl (lv_at hl 1 rfl) ?_
    refine lv_iload_n hx hb dX1_takeBooking_21 rfl (lv_at hl 2 rfl) ?_
    refine lv_iload_n hx hb dX1_takeBooking_22 rfl (lv_at hl 3 rfl) ?_
    obtain ⟨r31, o3_lk32, o3_la33, o3_ll34, o3_lots35, o3_us36, o3_sp37, o3_zs38, o3_zd39, o3_zn40, o3_zt41, o3_zl42, o3_zc43, o3_nm44, o3_dy45, o3_hu46, o3_cn47, o3_gn48, o3_cs49, hc50, h⟩ := bd19_s h
    refine g_callBi (As := [.int p1, .int p2, .int p3]) (rest := []) (r := r31) (bs1 := [wHo E a0 a1 a11 a18 a19 dy fl hu cn gn cs, wSt E a1 a2 a3 a4 a5 a6 a7 a8 a9 a10 lk la ll lots pk pa pd onp br us sp, wPa E a11 a12 a13 a14 a15 a16 a17 zs zd zn zt zl zc nm, wH8 E a18 sto, wH9 E a19 sg, wHo E b0 b1 b11 b18 b19 o3_dy45 o3_fl25 o3_hu46 o3_cn47 o3_gn48 o3_cs49, wSt E b1 b2 b3 b4 b5 b6 b7 b8 b9 b10 o3_lk32 o3_la33 o3_ll34 o3_lots35 o3_pk8 o3_pa9 o3_pd10 o3_onp11 o3_br12 o3_us36 o3_sp37, wPa E b11 b12 b13 b14 b15 b16 b17 o3_zs38 o3_zd39 o3_zn40 o3_zt41 o3_zl42 o3_zc43 o3_nm44, wH8 E b18 o3_sto22, wH9 E b19 o3_sg23]) ⟨hx, hb, hml, hown, hts⟩ (kX1_wouldSuffice E l b0 b1 b2 b3 b4 b5 b6 b7 b8 b9 b10 b11 b12 b13 b14 b15 b16 b17 b18 b19 o3_lk4 o3_la5 o3_ll6 o3_lots7 o3_pk8 o3_pa9 o3_pd10 o3_onp11 o3_br12 o3_us13 o3_sp14 o3_zs15 o3_zd16 o3_zn17 o3_zt18 o3_zl19 o3_zc20 o3_nm21 o3_sto22 o3_sg23 o3_dy24 o3_fl25 o3_hu26 o3_cn27 o3_gn28 o3_cs29 p1 p2 p3 (r31, o3_lk32, o3_la33, o3_ll34, o3_lots35, o3_us36, o3_sp37, o3_zs38, o3_zd39, o3_zn40, o3_zt41, o3_zl42, o3_zc43, o3_nm44, o3_dy45, o3_hu46, o3_cn47, o3_gn48, o3_cs49) hc50) (cwV 3 hts gX1_takeBooking_X1_wouldSuffice rfl rfl rfl (by decide +kernel) ⟨Nat.le_of_ble_eq_true rfl, Nat.le_of_ble_eq_true rfl⟩) hK hP hD hS hA hG hl [5, 6, 7, 8, 9] 5 0 (by decide) rfl (ci := 1) rfl rfl rfl rfl rfl rfl rfl rfl rfl rfl (Nat.le_of_ble_eq_true rfl) dX1_takeBooking_23 (Nat.zero_le _) (Nat.zero_le _) (fun H locs hP hD hS => ?_)
    refine lv_if_ne (tgt := 32) hx hb dX1_takeBooking_26 (by decide) (fun hc51 => ?_) (fun hc51 => ?_)
    · replace h := g_if hc51 h
      refine lv_aload_n hx hb dX1_takeBooking_32 rfl (lv_at hl 0 rfl) ?_
      refine va_get (D := E.1) (cl := vwCl) (ci := 1) (v := .ref a11) (C := RX1) (T := TX1) (N := 10) hx hb hts hiX1 hown hK hP 0 rfl rfl 1 (by decide) hw0 (fun _ h9 => h9) rfl dX1_takeBooking_33 ?_
      refine va_get (D := E.1) (cl := vwCl) (ci := 2) (v := .int nm) (C := RX2) (T := TX2) (N := 7) hx hb hts hiX2 hown hK hP 11 rfl rfl 6 (by decide) hw1 (fun _ h9 => h9) rfl dX1_takeBooking_36 ?_
      refine lv_bipush (v := (16 : Int32)) hx hb dX1_takeBooking_39 (by decide) ?_
      refine lv_icmp_lt (tgt := 47) hx hb dX1_takeBooking_41 (by decide) (fun hc52 => ?_) (fun hc52 => ?_)
      · replace h := g_it hc52 h
        refine lv_aload_n hx hb dX1_takeBooking_47 rfl (lv_at hl 0 rfl) ?_
        refine va_get (D := E.1) (cl := vwCl) (ci := 1) (v := .ref a11) (C := RX1) (T := TX1) (N := 10) hx hb hts hiX1 hown hK hP 0 rfl rfl 1 (by decide) hw0 (fun _ h9 => h9) rfl dX1_takeBooking_48 ?_
        refine lv_iload_n hx hb dX1_takeBooking_51 rfl (lv_at hl 1 rfl) ?_
        refine lv_iload_n hx hb dX1_takeBooking_52 rfl (lv_at hl 2 rfl) ?_
        refine lv_iload_n hx hb dX1_takeBooking_53 rfl (lv_at hl 3 rfl) ?_
        obtain ⟨zs53, zd54, zn55, zt56, zl57, zc58, nm59, hc60, h⟩ := bd7_s h
        refine g_call1v (As := [.int p1, .int p2, .int p3]) (rest := []) (bs1 := [wHo E a0 a1 a11 a18 a19 dy fl hu cn gn cs, wSt E a1 a2 a3 a4 a5 a6 a7 a8 a9 a10 lk la ll lots pk pa pd onp br us sp, wPa E a11 a12 a13 a14 a15 a16 a17 zs53 zd54 zn55 zt56 zl57 zc58 nm59, wH8 E a18 sto, wH9 E a19 sg, wHo E b0 b1 b11 b18 b19 o3_dy45 o3_fl25 o3_hu46 o3_cn47 o3_gn48 o3_cs49, wSt E b1 b2 b3 b4 b5 b6 b7 b8 b9 b10 o3_lk32 o3_la33 o3_ll34 o3_lots35 o3_pk8 o3_pa9 o3_pd10 o3_onp11 o3_br12 o3_us36 o3_sp37, wPa E b11 b12 b13 b14 b15 b16 b17 o3_zs38 o3_zd39 o3_zn40 o3_zt41 o3_zl42 o3_zc43 o3_nm44, wH8 E b18 o3_sto22, wH9 E b19 o3_sg23]) ⟨hx, hb, hml, hown, hts⟩ (kX2_add E l a11 a12 a13 a14 a15 a16 a17 zs zd zn zt zl zc nm p1 p2 p3 (zs53, zd54, zn55, zt56, zl57, zc58, nm59) hc60) (cwV 3 hts gX1_takeBooking_X2_add rfl rfl rfl (by decide +kernel) ⟨Nat.le_of_ble_eq_true rfl, Nat.le_of_ble_eq_true rfl⟩) hK hP hD hS hA hG hl 2 0 (ci := 2) rfl rfl rfl rfl rfl rfl rfl rfl (Nat.le_of_ble_eq_true rfl) dX1_takeBooking_54 (Nat.zero_le _) (Nat.zero_le _) (fun H locs hP hD hS => ?_)
        refine lv_aload_n hx hb dX1_takeBooking_57 rfl (lv_at hl 0 rfl) ?_
        refine va_get (D := E.1) (cl := vwCl) (ci := 1) (v := .ref a11) (C := RX1) (T := TX1) (N := 10) hx hb hts hiX1 hown hK hP 0 rfl rfl 1 (by decide) hw0 (fun _ h9 => h9) rfl dX1_takeBooking_58 ?_
        refine va_get (D := E.1) (cl := vwCl) (ci := 2) (v := .int nm59) (C := RX2) (T := TX2) (N := 7) hx hb hts hiX2 hown hK hP 11 rfl rfl 6 (by decide) hw1 (fun _ h9 => h9) rfl dX1_takeBooking_61 ?_
        refine lv_iconst (v := (1 : Int32)) hx hb dX1_takeBooking_64 (by decide) ?_
        refine lv_isub hx hb dX1_takeBooking_65 ?_
        exact hret ((nm59 - (1 : Int32)), zs53, zd54, zn55, zt56, zl57, zc58, nm59, o3_lk32, o3_la33, o3_ll34, o3_lots35, o3_pk8, o3_pa9, o3_pd10, o3_onp11, o3_br12, o3_us36, o3_sp37, o3_zs38, o3_zd39, o3_zn40, o3_zt41, o3_zl42, o3_zc43, o3_nm44, o3_sto22, o3_sg23, o3_dy45, o3_fl25, o3_hu46, o3_cn47, o3_gn48, o3_cs49) _ _ _ _ _ (Option.some.inj h) hP hS rfl dX1_takeBooking_66
      · replace h := g_if hc52 h
        refine lv_bipush (v := (-3 : Int32)) hx hb dX1_takeBooking_44 (by decide) ?_
        exact hret ((-3 : Int32), zs, zd, zn, zt, zl, zc, nm, o3_lk32, o3_la33, o3_ll34, o3_lots35, o3_pk8, o3_pa9, o3_pd10, o3_onp11, o3_br12, o3_us36, o3_sp37, o3_zs38, o3_zd39, o3_zn40, o3_zt41, o3_zl42, o3_zc43, o3_nm44, o3_sto22, o3_sg23, o3_dy45, o3_fl25, o3_hu46, o3_cn47, o3_gn48, o3_cs49) _ _ _ _ _ (Option.some.inj h) hP hS rfl dX1_takeBooking_46
    · replace h := g_it hc51 h
      refine lv_bipush (v := (-2 : Int32)) hx hb dX1_takeBooking_29 (by decide) ?_
      exact hret ((-2 : Int32), zs, zd, zn, zt, zl, zc, nm, o3_lk32, o3_la33, o3_ll34, o3_lots35, o3_pk8, o3_pa9, o3_pd10, o3_onp11, o3_br12, o3_us36, o3_sp37, o3_zs38, o3_zd39, o3_zn40, o3_zt41, o3_zl42, o3_zc43, o3_nm44, o3_sto22, o3_sg23, o3_dy45, o3_fl25, o3_hu46, o3_cn47, o3_gn48, o3_cs49) _ _ _ _ _ (Option.some.inj h) hP hS rfl dX1_takeBooking_31
  · replace h := g_it hc3 h
    refine lv_iconst (v := (-1 : Int32)) hx hb dX1_takeBooking_10 (by decide) ?_
    exact hret ((-1 : Int32), zs, zd, zn, zt, zl, zc, nm, o3_lk, o3_la, o3_ll, o3_lots, o3_pk, o3_pa, o3_pd, o3_onp, o3_br, o3_us, o3_sp, o3_zs, o3_zd, o3_zn, o3_zt, o3_zl, o3_zc, o3_nm, o3_sto, o3_sg, o3_dy, o3_fl, o3_hu, o3_cn, o3_gn, o3_cs) _ _ _ _ _ (Option.some.inj h) hP hS rfl dX1_takeBooking_11
set_option maxHeartbeats 4000000 in
set_option maxRecDepth 100000 in
theorem kX1_tellCalm (E : gE) (l : Launch) (a0 a1 a2 a3 a4 a5 a6 a7 a8 a9 a10 a11 a12 a13 a14 a15 a16 a17 a18 a19 : Nat) (lk : Nat → Int32) (la : Nat → Int32) (ll : Nat → Int32) (lots : Int32) (pk : Nat → Int32) (pa : Nat → Int32) (pd : Nat → Int32) (onp : Int32) (br : Nat → Int32) (us : Nat → Int32) (sp : Nat → Int32) (zs : Nat → Int32) (zd : Nat → Int32) (zn : Nat → Int32) (zt : Nat → Int32) (zl : Nat → Int32) (zc : Nat → Int32) (nm : Int32) (sto : Nat → Int32) (sg : Nat → Int32) (dy : Int32) (fl : Int32) (hu : Int32) (cn : Int32) (gn : Int32) (cs : Int32) (p1 : Int32) (res : Int32 × (Nat → Int32)) (h : fX1_tellCalm sto dy p1 = some res) : gMI E l yX1_tellCalm wsX1_tellCalm ({ frames := 0, cells := 0, slots := 0, locals := 0 } : Room) [.ref a0, .int p1] (List.flatten [wHo E a0 a1 a11 a18 a19 dy fl hu cn gn cs, wSt E a1 a2 a3 a4 a5 a6 a7 a8 a9 a10 lk la ll lots pk pa pd onp br us sp, wPa E a11 a12 a13 a14 a15 a16 a17 zs zd zn zt zl zc nm, wH8 E a18 sto, wH9 E a19 sg]) (fun res : Int32 × (Nat → Int32) => (List.flatten [wHo E a0 a1 a11 a18 a19 dy fl hu cn gn cs, wSt E a1 a2 a3 a4 a5 a6 a7 a8 a9 a10 lk la ll lots pk pa pd onp br us sp, wPa E a11 a12 a13 a14 a15 a16 a17 zs zd zn zt zl zc nm, wH8 E a18 res.2, wH9 E a19 sg])) (fun res => res.1) res := by
  refine g_entI (cc := cX1_tellCalm) (maxL := 3) (by decide) rfl (Nat.le_of_ble_eq_true rfl) ?_
  intro p e s m args below meth c A Q ls hx hb hml hown hts hK hP hD hS hA hG hret hl
  unfold fX1_tellCalm at h
  replace hl : lv_has ls 3 [(0, .ref a0), (1, .int p1)] := hl
  have hiX1 : ∀ w ∈ wsX10, w ∈ wsX1_tellCalm := by decide +kernel
  have hw0 := hts (.fieldLink RX1 49 "GlacierHut$Hut" "day" "I") (by decide +kernel)
  have hw1 := hts (.fieldLink RX1 25 "GlacierHut$Hut" "storms" "[Z") (by decide +kernel)
  refine lv_iload_n hx hb dX1_tellCalm_0 rfl (lv_at hl 1 rfl) ?_
  refine lv_aload_n hx hb dX1_tellCalm_1 rfl (lv_at hl 0 rfl) ?_
  refine va_get (D := E.1) (cl := vwCl) (ci := 1) (v := .int dy) (C := RX1) (T := TX1) (N := 10) hx hb hts hiX1 hown hK hP 0 rfl rfl 4 (by decide) hw0 (fun _ h9 => h9) rfl dX1_tellCalm_2 ?_
  refine lv_icmp_lt (tgt := 15) hx hb dX1_tellCalm_5 (by decide) (fun hc1 => ?_) (fun hc1 => ?_)
  · replace h := g_it hc1 h
    refine lv_iconst (v := (-1 : Int32)) hx hb dX1_tellCalm_15 (by decide) ?_
    exact hret ((-1 : Int32), sto) _ _ _ _ _ (Option.some.inj h) hP hS rfl dX1_tellCalm_16
  · replace h := g_if hc1 h
    refine lv_iload_n hx hb dX1_tellCalm_8 rfl (lv_at hl 1 rfl) ?_
    refine lv_sipush (v := (395 : Int32)) hx hb dX1_tellCalm_9 (by decide) ?_
    refine lv_icmp_le (tgt := 17) hx hb dX1_tellCalm_12 (by decide) (fun hc2 => ?_) (fun hc2 => ?_)
    · replace h := g_it hc2 h
      refine lv_aload_n hx hb dX1_tellCalm_17 rfl (lv_at hl 0 rfl) ?_
      refine va_get (D := E.1) (cl := vwCl) (ci := 1) (v := .ref a18) (C := RX1) (T := TX1) (N := 10) hx hb hts hiX1 hown hK hP 0 rfl rfl 2 (by decide) hw1 (fun _ h9 => h9) rfl dX1_tellCalm_18 ?_
      refine lv_iload_n hx hb dX1_tellCalm_21 rfl (lv_at hl 1 rfl) ?_
      obtain ⟨hg3, h⟩ := gd_s h
      refine va_zald (D := E.1) (cl := vwCl) (tys := gT E) hx hb hK hP 18 1 rfl rfl (inB_in hg3) dX1_tellCalm_22 ?_
      refine lv_topi (fun v4 e_v4 => ?_)
      replace h := jl_s e_v4 h
      refine lv_istore_n (lv' := [(2, .int v4), (0, .ref a0), (1, .int p1)]) hx hb dX1_tellCalm_23 rfl hl (by decide) rfl (fun ls hl => ?_)
      refine lv_aload_n hx hb dX1_tellCalm_24 rfl (lv_at hl 1 rfl) ?_
      refine va_get (D := E.1) (cl := vwCl) (ci := 1) (v := .ref a18) (C := RX1) (T := TX1) (N := 10) hx hb hts hiX1 hown hK hP 0 rfl rfl 2 (by decide) hw1 (fun _ h9 => h9) rfl dX1_tellCalm_25 ?_
      refine lv_iload_n hx hb dX1_tellCalm_28 rfl (lv_at hl 2 rfl) ?_
      refine lv_iconst (v := (0 : Int32)) hx hb dX1_tellCalm_29 (by decide) ?_
      refine va_zast (D := E.1) (cl := vwCl) (tys := gT E) hx hb hK hP hD hS 18 1 rfl rfl (inB_in hg3) dX1_tellCalm_30 (fun H locs hP hD hS => ?_)
      obtain ⟨sto5, e_sto5⟩ : ∃ y : Nat → Int32, y = (upd sto (p1).toNatClampNeg (vp_nar .boolean (0 : Int32))) := ⟨_, rfl⟩
      replace h := jl_s e_sto5 h
      replace hP : va_P E.1 vwCl (List.flatten [wHo E a0 a1 a11 a18 a19 dy fl hu cn gn cs, wSt E a1 a2 a3 a4 a5 a6 a7 a8 a9 a10 lk la ll lots pk pa pd onp br us sp, wPa E a11 a12 a13 a14 a15 a16 a17 zs zd zn zt zl zc nm, wH8 E a18 sto5, wH9 E a19 sg]) H := (by rw [e_sto5]; exact hP)
      replace hD : va_D A (List.flatten [wHo E a0 a1 a11 a18 a19 dy fl hu cn gn cs, wSt E a1 a2 a3 a4 a5 a6 a7 a8 a9 a10 lk la ll lots pk pa pd onp br us sp, wPa E a11 a12 a13 a14 a15 a16 a17 zs zd zn zt zl zc nm, wH8 E a18 sto5, wH9 E a19 sg]) := gD_same hD rfl
      refine lv_iload_n hx hb dX1_tellCalm_31 rfl (lv_at hl 0 rfl) ?_
      refine lv_if_eq (tgt := 39) hx hb dX1_tellCalm_32 (by decide) (fun hc6 => ?_) (fun hc6 => ?_)
      · replace h := g_it hc6 h
        refine lv_iconst (v := (0 : Int32)) hx hb dX1_tellCalm_39 (by decide) ?_
        exact hret ((0 : Int32), sto5) _ _ _ _ _ (Option.some.inj h) hP hS rfl dX1_tellCalm_40
      · replace h := g_if hc6 h
        refine lv_iconst (v := (1 : Int32)) hx hb dX1_tellCalm_35 (by decide) ?_
        refine lv_goto (tgt := 40) hx hb dX1_tellCalm_36 (by decide) ?_
        exact hret ((1 : Int32), sto5) _ _ _ _ _ (Option.some.inj h) hP hS rfl dX1_tellCalm_40
    · replace h := g_if hc2 h
      refine lv_iconst (v := (-1 : Int32)) hx hb dX1_tellCalm_15 (by decide) ?_
      exact hret ((-1 : Int32), sto) _ _ _ _ _ (Option.some.inj h) hP hS rfl dX1_tellCalm_16
set_option maxHeartbeats 4000000 in
set_option maxRecDepth 100000 in
theorem kX1_tellStorm (E : gE) (l : Launch) (a0 a1 a2 a3 a4 a5 a6 a7 a8 a9 a10 a11 a12 a13 a14 a15 a16 a17 a18 a19 : Nat) (lk : Nat → Int32) (la : Nat → Int32) (ll : Nat → Int32) (lots : Int32) (pk : Nat → Int32) (pa : Nat → Int32) (pd : Nat → Int32) (onp : Int32) (br : Nat → Int32) (us : Nat → Int32) (sp : Nat → Int32) (zs : Nat → Int32) (zd : Nat → Int32) (zn : Nat → Int32) (zt : Nat → Int32) (zl : Nat → Int32) (zc : Nat → Int32) (nm : Int32) (sto : Nat → Int32) (sg : Nat → Int32) (dy : Int32) (fl : Int32) (hu : Int32) (cn : Int32) (gn : Int32) (cs : Int32) (p1 : Int32) (p2 : Int32) (res : Int32 × (Nat → Int32)) (h : fX1_tellStorm sto dy p1 p2 = some res) : gMI E l yX1_tellStorm wsX1_tellStorm ({ frames := 0, cells := 0, slots := 0, locals := 0 } : Room) [.ref a0, .int p1, .int p2] (List.flatten [wHo E a0 a1 a11 a18 a19 dy fl hu cn gn cs, wSt E a1 a2 a3 a4 a5 a6 a7 a8 a9 a10 lk la ll lots pk pa pd onp br us sp, wPa E a11 a12 a13 a14 a15 a16 a17 zs zd zn zt zl zc nm, wH8 E a18 sto, wH9 E a19 sg]) (fun res : Int32 × (Nat → Int32) => (List.flatten [wHo E a0 a1 a11 a18 a19 dy fl hu cn gn cs, wSt E a1 a2 a3 a4 a5 a6 a7 a8 a9 a10 lk la ll lots pk pa pd onp br us sp, wPa E a11 a12 a13 a14 a15 a16 a17 zs zd zn zt zl zc nm, wH8 E a18 res.2, wH9 E a19 sg])) (fun res => res.1) res := by
  refine g_entI (cc := cX1_tellStorm) (maxL := 6) (by decide) rfl (Nat.le_of_ble_eq_true rfl) ?_
  intro p e s m args below meth c A Q ls hx hb hml hown hts hK hP hD hS hA hG hret hl
  unfold fX1_tellStorm at h
  replace hl : lv_has ls 6 [(0, .ref a0), (1, .int p1), (2, .int p2)] := hl
  have hiX1 : ∀ w ∈ wsX10, w ∈ wsX1_tellStorm := by decide +kernel
  have hw0 := hts (.fieldLink RX1 49 "GlacierHut$Hut" "day" "I") (by decide +kernel)
  have hw1 := hts (.fieldLink RX1 25 "GlacierHut$Hut" "storms" "[Z") (by decide +kernel)
  refine lv_iload_n hx hb dX1_tellStorm_0 rfl (lv_at hl 1 rfl) ?_
  refine lv_aload_n hx hb dX1_tellStorm_1 rfl (lv_at hl 0 rfl) ?_
  refine va_get (D := E.1) (cl := vwCl) (ci := 1) (v := .int dy) (C := RX1) (T := TX1) (N := 10) hx hb hts hiX1 hown hK hP 0 rfl rfl 4 (by decide) hw0 (fun _ h9 => h9) rfl dX1_tellStorm_2 ?_
  refine lv_icmp_lt (tgt := 26) hx hb dX1_tellStorm_5 (by decide) (fun hc1 => ?_) (fun hc1 => ?_)
  · replace h := g_it hc1 h
    refine lv_iconst (v := (-1 : Int32)) hx hb dX1_tellStorm_26 (by decide) ?_
    exact hret ((-1 : Int32), sto) _ _ _ _ _ (Option.some.inj h) hP hS rfl dX1_tellStorm_27
  · replace h := g_if hc1 h
    refine lv_iload_n hx hb dX1_tellStorm_8 rfl (lv_at hl 1 rfl) ?_
    refine lv_sipush (v := (365 : Int32)) hx hb dX1_tellStorm_9 (by decide) ?_
    refine lv_icmp_gt (tgt := 26) hx hb dX1_tellStorm_12 (by decide) (fun hc2 => ?_) (fun hc2 => ?_)
    · replace h := g_it hc2 h
      refine lv_iconst (v := (-1 : Int32)) hx hb dX1_tellStorm_26 (by decide) ?_
      exact hret ((-1 : Int32), sto) _ _ _ _ _ (Option.some.inj h) hP hS rfl dX1_tellStorm_27
    · replace h := g_if hc2 h
      refine lv_iload_n hx hb dX1_tellStorm_15 rfl (lv_at hl 2 rfl) ?_
      refine lv_iconst (v := (1 : Int32)) hx hb dX1_tellStorm_16 (by decide) ?_
      refine lv_icmp_lt (tgt := 26) hx hb dX1_tellStorm_17 (by decide) (fun hc3 => ?_) (fun hc3 => ?_)
      · replace h := g_it hc3 h
        refine lv_iconst (v := (-1 : Int32)) hx hb dX1_tellStorm_26 (by decide) ?_
        exact hret ((-1 : Int32), sto) _ _ _ _ _ (Option.some.inj h) hP hS rfl dX1_tellStorm_27
      · replace h := g_if hc3 h
        refine lv_iload_n hx hb dX1_tellStorm_20 rfl (lv_at hl 2 rfl) ?_
        refine lv_bipush (v := (30 : Int32)) hx hb dX1_tellStorm_21 (by decide) ?_
        refine lv_icmp_le (tgt := 28) hx hb dX1_tellStorm_23 (by decide) (fun hc4 => ?_) (fun hc4 => ?_)
        · replace h := g_it hc4 h
          refine lv_iload_n hx hb dX1_tellStorm_28 rfl (lv_at hl 1 rfl) ?_
          refine lv_iload_n hx hb dX1_tellStorm_29 rfl (lv_at hl 2 rfl) ?_
          refine lv_iadd hx hb dX1_tellStorm_30 ?_
          refine lv_topi (fun v5 e_v5 => ?_)
          replace h := jl_s e_v5 h
          refine lv_istore_n (lv' := [(3, .int v5), (0, .ref a0), (1, .int p1), (2, .int p2)]) hx hb dX1_tellStorm_31 rfl hl (by decide) rfl (fun ls hl => ?_)
          refine lv_iconst (v := (0 : Int32)) hx hb dX1_tellStorm_32 (by decide) ?_
          refine lv_istore (lv' := [(4, .int (0 : Int32)), (3, .int v5), (0, .ref a0), (1, .int p1), (2, .int p2)]) hx hb dX1_tellStorm_33 hl (by decide) rfl (fun ls hl => ?_)
          refine lv_aload_n hx hb dX1_tellStorm_35 rfl (lv_at hl 2 rfl) ?_
          refine va_get (D := E.1) (cl := vwCl) (ci := 1) (v := .int dy) (C := RX1) (T := TX1) (N := 10) hx hb hts hiX1 hown hK hP 0 rfl rfl 4 (by decide) hw0 (fun _ h9 => h9) rfl dX1_tellStorm_36 ?_
          refine lv_istore (lv' := [(5, .int dy), (4, .int (0 : Int32)), (3, .int v5), (0, .ref a0), (1, .int p1), (2, .int p2)]) hx hb dX1_tellStorm_39 hl (by decide) rfl (fun ls hl => ?_)
          refine gl2_e h (fun S_rec6 hS_rec6 h => ?_)
          have hL_rec6 : ∀ (nF : Nat) (v7 : Int32) (v8 : Int32) (H : Heap) (locs : List Loc) (ls : Array Slot), va_P E.1 vwCl (List.flatten [wHo E a0 a1 a11 a18 a19 dy fl hu cn gn cs, wSt E a1 a2 a3 a4 a5 a6 a7 a8 a9 a10 lk la ll lots pk pa pd onp br us sp, wPa E a11 a12 a13 a14 a15 a16 a17 zs zd zn zt zl zc nm, wH8 E a18 sto, wH9 E a19 sg]) H → va_S A s.heap H locs → lv_has ls 6 [(5, .int v7), (4, .int v8), (3, .int v5), (0, .ref a0), (1, .int p1)] → gl2 S_rec6 nF v7 v8 = some res → W p l e ({ frames := 0, cells := 0, slots := 0, locals := 0 } : Room) s m args below meth c H locs 0 0 Q (F0 m 41 ls []) := by
            intro nF
            induction nF with
            | zero => intro v7 v8 H locs ls hP hS hl h; exact gl2_z h
            | succ nF ih_rec6 =>
              intro v7 v8 H locs ls hP hS hl h
              replace hD : va_D A (List.flatten [wHo E a0 a1 a11 a18 a19 dy fl hu cn gn cs, wSt E a1 a2 a3 a4 a5 a6 a7 a8 a9 a10 lk la ll lots pk pa pd onp br us sp, wPa E a11 a12 a13 a14 a15 a16 a17 zs zd zn zt zl zc nm, wH8 E a18 sto, wH9 E a19 sg]) := gD_same hD rfl
              replace h : S_rec6 (gl2 S_rec6 nF) v7 v8 = some res := h
              generalize gl2 S_rec6 nF = rec6 at h ih_rec6
              subst hS_rec6
              unfold sX1_tellStorm_rec6 at h
              refine lv_iload hx hb dX1_tellStorm_41 (lv_at hl 0 rfl) ?_
              refine lv_aload_n hx hb dX1_tellStorm_43 rfl (lv_at hl 3 rfl) ?_
              refine va_get (D := E.1) (cl := vwCl) (ci := 1) (v := .ref a18) (C := RX1) (T := TX1) (N := 10) hx hb hts hiX1 hown hK hP 0 rfl rfl 2 (by decide) hw1 (fun _ h9 => h9) rfl dX1_tellStorm_44 ?_
              refine va_alen (D := E.1) (cl := vwCl) (tys := gT E) (v := (396 : Int32)) hx hb hK hP 18 1 rfl rfl (show Int32.ofNat 396 = (396 : Int32) by decide) dX1_tellStorm_47 ?_
              refine lv_icmp_ge (tgt := 82) hx hb dX1_tellStorm_48 (by decide) (fun hc9 => ?_) (fun hc9 => ?_)
              · replace h := g_it hc9 h
                refine lv_iload hx hb dX1_tellStorm_82 (lv_at hl 1 rfl) ?_
                refine lv_bipush (v := (40 : Int32)) hx hb dX1_tellStorm_84 (by decide) ?_
                refine lv_icmp_le (tgt := 92) hx hb dX1_tellStorm_86 (by decide) (fun hc10 => ?_) (fun hc10 => ?_)
                · replace h := g_it hc10 h
                  refine lv_iload_n hx hb dX1_tellStorm_92 rfl (lv_at hl 4 rfl) ?_
                  refine lv_istore (lv' := [(5, .int p1), (4, .int v8), (3, .int v5), (0, .ref a0), (1, .int p1)]) hx hb dX1_tellStorm_93 hl (by decide) rfl (fun ls hl => ?_)
                  refine gl2_e h (fun S_rec11 hS_rec11 h => ?_)
                  have hL_rec11 : ∀ (nF : Nat) (v12 : Int32) (sto13 : Nat → Int32) (H : Heap) (locs : List Loc) (ls : Array Slot), va_P E.1 vwCl (List.flatten [wHo E a0 a1 a11 a18 a19 dy fl hu cn gn cs, wSt E a1 a2 a3 a4 a5 a6 a7 a8 a9 a10 lk la ll lots pk pa pd onp br us sp, wPa E a11 a12 a13 a14 a15 a16 a17 zs zd zn zt zl zc nm, wH8 E a18 sto13, wH9 E a19 sg]) H → va_S A s.heap H locs → lv_has ls 6 [(5, .int v12), (4, .int v8), (3, .int v5), (0, .ref a0)] → gl2 S_rec11 nF v12 sto13 = some res → W p l e ({ frames := 0, cells := 0, slots := 0, locals := 0 } : Room) s m args below meth c H locs 0 0 Q (F0 m 95 ls []) := by
                    intro nF
                    induction nF with
                    | zero => intro v12 sto13 H locs ls hP hS hl h; exact gl2_z h
                    | succ nF ih_rec11 =>
                      intro v12 sto13 H locs ls hP hS hl h
                      replace hD : va_D A (List.flatten [wHo E a0 a1 a11 a18 a19 dy fl hu cn gn cs, wSt E a1 a2 a3 a4 a5 a6 a7 a8 a9 a10 lk la ll lots pk pa pd onp br us sp, wPa E a11 a12 a13 a14 a15 a16 a17 zs zd zn zt zl zc nm, wH8 E a18 sto13, wH9 E a19 sg]) := gD_same hD rfl
                      replace h : S_rec11 (gl2 S_rec11 nF) v12 sto13 = some res := h
                      generalize gl2 S_rec11 nF = rec11 at h ih_rec11
                      subst hS_rec11
                      unfold sX1_tellStorm_rec11 at h
                      refine lv_iload hx hb dX1_tellStorm_95 (lv_at hl 0 rfl) ?_
                      refine lv_iload_n hx hb dX1_tellStorm_97 rfl (lv_at hl 2 rfl) ?_
                      refine lv_icmp_ge (tgt := 125) hx hb dX1_tellStorm_98 (by decide) (fun hc14 => ?_) (fun hc14 => ?_)
                      · replace h := g_it hc14 h
                        refine lv_iload hx hb dX1_tellStorm_125 (lv_at hl 1 rfl) ?_
                        exact hret (v8, sto13) _ _ _ _ _ (Option.some.inj h) hP hS rfl dX1_tellStorm_127
                      · replace h := g_if hc14 h
                        refine lv_iload hx hb dX1_tellStorm_101 (lv_at hl 0 rfl) ?_
                        refine lv_aload_n hx hb dX1_tellStorm_103 rfl (lv_at hl 3 rfl) ?_
                        refine va_get (D := E.1) (cl := vwCl) (ci := 1) (v := .ref a18) (C := RX1) (T := TX1) (N := 10) hx hb hts hiX1 hown hK hP 0 rfl rfl 2 (by decide) hw1 (fun _ h9 => h9) rfl dX1_tellStorm_104 ?_
                        refine va_alen (D := E.1) (cl := vwCl) (tys := gT E) (v := (396 : Int32)) hx hb hK hP 18 1 rfl rfl (show Int32.ofNat 396 = (396 : Int32) by decide) dX1_tellStorm_107 ?_
                        refine lv_icmp_ge (tgt := 125) hx hb dX1_tellStorm_108 (by decide) (fun hc15 => ?_) (fun hc15 => ?_)
                        · replace h := g_it hc15 h
                          refine lv_iload hx hb dX1_tellStorm_125 (lv_at hl 1 rfl) ?_
                          exact hret (v8, sto13) _ _ _ _ _ (Option.some.inj h) hP hS rfl dX1_tellStorm_127
                        · replace h := g_if hc15 h
                          refine lv_aload_n hx hb dX1_tellStorm_111 rfl (lv_at hl 3 rfl) ?_
                          refine va_get (D := E.1) (cl := vwCl) (ci := 1) (v := .ref a18) (C := RX1) (T := TX1) (N := 10) hx hb hts hiX1 hown hK hP 0 rfl rfl 2 (by decide) hw1 (fun _ h9 => h9) rfl dX1_tellStorm_112 ?_
                          refine lv_iload hx hb dX1_tellStorm_115 (lv_at hl 0 rfl) ?_
                          refine lv_iconst (v := (1 : Int32)) hx hb dX1_tellStorm_117 (by decide) ?_
                          obtain ⟨hg16, h⟩ := gd_s h
                          refine va_zast (D := E.1) (cl := vwCl) (tys := gT E) hx hb hK hP hD hS 18 1 rfl rfl (inB_in hg16) dX1_tellStorm_118 (fun H locs hP hD hS => ?_)
                          obtain ⟨sto17, e_sto17⟩ : ∃ y : Nat → Int32, y = (upd sto13 (v12).toNatClampNeg (vp_nar .boolean (1 : Int32))) := ⟨_, rfl⟩
                          replace h := jl_s e_sto17 h
                          replace hP : va_P E.1 vwCl (List.flatten [wHo E a0 a1 a11 a18 a19 dy fl hu cn gn cs, wSt E a1 a2 a3 a4 a5 a6 a7 a8 a9 a10 lk la ll lots pk pa pd onp br us sp, wPa E a11 a12 a13 a14 a15 a16 a17 zs zd zn zt zl zc nm, wH8 E a18 sto17, wH9 E a19 sg]) H := (by rw [e_sto17]; exact hP)
                          replace hD : va_D A (List.flatten [wHo E a0 a1 a11 a18 a19 dy fl hu cn gn cs, wSt E a1 a2 a3 a4 a5 a6 a7 a8 a9 a10 lk la ll lots pk pa pd onp br us sp, wPa E a11 a12 a13 a14 a15 a16 a17 zs zd zn zt zl zc nm, wH8 E a18 sto17, wH9 E a19 sg]) := gD_same hD rfl
                          obtain ⟨v18, e_v18⟩ : ∃ y : Int32, y = (v12 + (1 : Int32)) := ⟨_, rfl⟩
                          replace h := jl_s e_v18 h
                          refine lv_iinc (v := v18) (lv' := [(5, .int v18), (4, .int v8), (3, .int v5), (0, .ref a0)]) hx hb dX1_tellStorm_119 hl (k := 0) rfl (by rw [e_v18]; rfl) (by decide) rfl (fun ls hl => ?_)
                          refine lv_goto (tgt := 95) hx hb dX1_tellStorm_122 (by decide) ?_
                          exact ih_rec11 v18 sto17 _ _ _ hP hS (lv_sub hl [0, 1, 2, 3] rfl) h
                  exact hL_rec11 gFU p1 sto _ _ _ hP hS (lv_sub hl [0, 1, 2, 3] rfl) h
                · replace h := g_if hc10 h
                  refine lv_bipush (v := (-3 : Int32)) hx hb dX1_tellStorm_89 (by decide) ?_
                  exact hret ((-3 : Int32), sto) _ _ _ _ _ (Option.some.inj h) hP hS rfl dX1_tellStorm_91
              · replace h := g_if hc9 h
                refine lv_aload_n hx hb dX1_tellStorm_51 rfl (lv_at hl 3 rfl) ?_
                refine va_get (D := E.1) (cl := vwCl) (ci := 1) (v := .ref a18) (C := RX1) (T := TX1) (N := 10) hx hb hts hiX1 hown hK hP 0 rfl rfl 2 (by decide) hw1 (fun _ h9 => h9) rfl dX1_tellStorm_52 ?_
                refine lv_iload hx hb dX1_tellStorm_55 (lv_at hl 0 rfl) ?_
                obtain ⟨hg19, h⟩ := gd_s h
                refine va_zald (D := E.1) (cl := vwCl) (tys := gT E) hx hb hK hP 18 1 rfl rfl (inB_in hg19) dX1_tellStorm_57 ?_
                refine lv_if_ne (tgt := 73) hx hb dX1_tellStorm_58 (by decide) (fun hc20 => ?_) (fun hc20 => ?_)
                · replace h := g_if hc20 h
                  obtain ⟨v21, e_v21⟩ : ∃ y : Int32, y = (v8 + (1 : Int32)) := ⟨_, rfl⟩
                  replace h := jl_s e_v21 h
                  refine lv_iinc (v := v21) (lv' := [(4, .int v21), (5, .int v7), (3, .int v5), (0, .ref a0), (1, .int p1)]) hx hb dX1_tellStorm_73 hl (k := 1) rfl (by rw [e_v21]; rfl) (by decide) rfl (fun ls hl => ?_)
                  obtain ⟨v22, e_v22⟩ : ∃ y : Int32, y = (v7 + (1 : Int32)) := ⟨_, rfl⟩
                  replace h := jl_s e_v22 h
                  refine lv_iinc (v := v22) (lv' := [(5, .int v22), (4, .int v21), (3, .int v5), (0, .ref a0), (1, .int p1)]) hx hb dX1_tellStorm_76 hl (k := 1) rfl (by rw [e_v22]; rfl) (by decide) rfl (fun ls hl => ?_)
                  refine lv_goto (tgt := 41) hx hb dX1_tellStorm_79 (by decide) ?_
                  exact ih_rec6 v22 v21 _ _ _ hP hS (lv_sub hl [0, 1, 2, 3, 4] rfl) h
                · replace h := g_it hc20 h
                  refine lv_iload hx hb dX1_tellStorm_61 (lv_at hl 0 rfl) ?_
                  refine lv_iload_n hx hb dX1_tellStorm_63 rfl (lv_at hl 4 rfl) ?_
                  refine lv_icmp_lt (tgt := 76) hx hb dX1_tellStorm_64 (by decide) (fun hc23 => ?_) (fun hc23 => ?_)
                  · replace h := g_it hc23 h
                    obtain ⟨v24, e_v24⟩ : ∃ y : Int32, y = (v7 + (1 : Int32)) := ⟨_, rfl⟩
                    replace h := jl_s e_v24 h
                    refine lv_iinc (v := v24) (lv' := [(5, .int v24), (4, .int v8), (3, .int v5), (0, .ref a0), (1, .int p1)]) hx hb dX1_tellStorm_76 hl (k := 0) rfl (by rw [e_v24]; rfl) (by decide) rfl (fun ls hl => ?_)
                    refine lv_goto (tgt := 41) hx hb dX1_tellStorm_79 (by decide) ?_
                    exact ih_rec6 v24 v8 _ _ _ hP hS (lv_sub hl [0, 1, 2, 3, 4] rfl) h
                  · replace h := g_if hc23 h
                    refine lv_iload hx hb dX1_tellStorm_67 (lv_at hl 0 rfl) ?_
                    refine lv_iload_n hx hb dX1_tellStorm_69 rfl (lv_at hl 2 rfl) ?_
                    refine lv_icmp_ge (tgt := 76) hx hb dX1_tellStorm_70 (by decide) (fun hc25 => ?_) (fun hc25 => ?_)
                    · replace h := g_it hc25 h
                      obtain ⟨v26, e_v26⟩ : ∃ y : Int32, y = (v7 + (1 : Int32)) := ⟨_, rfl⟩
                      replace h := jl_s e_v26 h
                      refine lv_iinc (v := v26) (lv' := [(5, .int v26), (4, .int v8), (3, .int v5), (0, .ref a0), (1, .int p1)]) hx hb dX1_tellStorm_76 hl (k := 0) rfl (by rw [e_v26]; rfl) (by decide) rfl (fun ls hl => ?_)
                      refine lv_goto (tgt := 41) hx hb dX1_tellStorm_79 (by decide) ?_
                      exact ih_rec6 v26 v8 _ _ _ hP hS (lv_sub hl [0, 1, 2, 3, 4] rfl) h
                    · replace h := g_if hc25 h
                      obtain ⟨v27, e_v27⟩ : ∃ y : Int32, y = (v8 + (1 : Int32)) := ⟨_, rfl⟩
                      replace h := jl_s e_v27 h
                      refine lv_iinc (v := v27) (lv' := [(4, .int v27), (5, .int v7), (3, .int v5), (0, .ref a0), (1, .int p1)]) hx hb dX1_tellStorm_73 hl (k := 1) rfl (by rw [e_v27]; rfl) (by decide) rfl (fun ls hl => ?_)
                      obtain ⟨v28, e_v28⟩ : ∃ y : Int32, y = (v7 + (1 : Int32)) := ⟨_, rfl⟩
                      replace h := jl_s e_v28 h
                      refine lv_iinc (v := v28) (lv' := [(5, .int v28), (4, .int v27), (3, .int v5), (0, .ref a0), (1, .int p1)]) hx hb dX1_tellStorm_76 hl (k := 1) rfl (by rw [e_v28]; rfl) (by decide) rfl (fun ls hl => ?_)
                      refine lv_goto (tgt := 41) hx hb dX1_tellStorm_79 (by decide) ?_
                      exact ih_rec6 v28 v27 _ _ _ hP hS (lv_sub hl [0, 1, 2, 3, 4] rfl) h
          exact hL_rec6 gFU dy (0 : Int32) _ _ _ hP hS (lv_sub hl [0, 1, 2, 3, 4] rfl) h
        · replace h := g_if hc4 h
          refine lv_iconst (v := (-1 : Int32)) hx hb dX1_tellStorm_26 (by decide) ?_
          exact hret ((-1 : Int32), sto) _ _ _ _ _ (Option.some.inj h) hP hS rfl dX1_tellStorm_27
