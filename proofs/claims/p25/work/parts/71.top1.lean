set_option maxHeartbeats 4000000 in
set_option maxRecDepth 100000 in
theorem kX0_prepare (E : gE) (l : Launch) (q0 q1 : Nat) (an : Nat → Nat) (ba : Nat → Nat → Nat) (lnn : Int32) (pm : Nat → Nat) (h0 : HutS) (h1 : HutS) (h2 : HutS) (h3 : HutS) (h4 : HutS) (xn : HutS)  (res : HutS × HutS × HutS × HutS × HutS) (h : fX0_prepare lnn pm h0 h1 h2 h3 h4 xn  = some res) : gMV E l yX0_prepare wsX0_prepare ({ frames := 3, cells := 0, slots := 0, locals := 60 } : Room) [.ref q0, .ref (an 0)] (List.flatten [[(q0, .inr (0, [.ref q1, .int lnn]))], wHa E q1 ba pm, wHuT E (ba 0) h0, wHuT E (ba 1) h1, wHuT E (ba 2) h2, wHuT E (ba 3) h3, wHuT E (ba 4) h4, wHuT E an xn]) (fun res : HutS × HutS × HutS × HutS × HutS => (List.flatten [[(q0, .inr (0, [.ref q1, .int lnn]))], wHa E q1 ba pm, wHuT E (ba 0) res.1, wHuT E (ba 1) res.2.1, wHuT E (ba 2) res.2.2.1, wHuT E (ba 3) res.2.2.2.1, wHuT E (ba 4) res.2.2.2.2, wHuT E an xn])) res := by
  refine g_entV (cc := cX0_prepare) (maxL := 3) (by decide) rfl (Nat.le_of_ble_eq_true rfl) ?_
  intro p e s m args below meth c A Q ls hx hb hml hown hts hK hP hD hS hA hG hret hl
  unfold fX0_prepare at h
  replace hl : lv_has ls 3 [(0, .ref q0), (1, .ref (an 0))] := hl
  have hiX0 : ∀ w ∈ wsX00, w ∈ wsX0_prepare := by decide +kernel
  have hw0 := hts (.fieldLink RX0 16 "GlacierHut$History" "length" "I") (by decide +kernel)
  have hw1 := hts (.fieldLink RX0 11 "GlacierHut$History" "states" "[LGlacierHut$Hut;") (by decide +kernel)
  refine lv_aload_n hx hb dX0_prepare_0 rfl (lv_at hl 0 rfl) ?_
  refine va_get (D := E.1) (cl := vwCl) (ci := 0) (v := .int lnn) (C := RX0) (T := TX0) (N := 2) hx hb hts hiX0 hown hK hP 0 rfl rfl 1 (by decide) hw0 (fun _ h9 => h9) rfl dX0_prepare_1 ?_
  refine lv_if_lt (tgt := 27) hx hb dX0_prepare_4 (by decide) (fun hc1 => ?_) (fun hc1 => ?_)
  · replace h := g_it hc1 h
    refine lv_null hx hb dX0_prepare_27 ?_
    refine lv_astore_nN (lv' := [(2, .null), (0, .ref q0), (1, .ref (an 0))]) hx hb dX0_prepare_28 rfl hl (by decide) rfl (fun ls hl => ?_)
    refine lv_aload_nN hx hb dX0_prepare_29 rfl (lv_at hl 0 rfl) ?_
    refine lv_ifnullN (tgt := 38) hx hb dX0_prepare_30 (by decide) ?_
    exact hret (h0, h1, h2, h3, h4) _ _ _ _ (Option.some.inj h) hP hS dX0_prepare_38
  · replace h := g_if hc1 h
    refine lv_aload_n hx hb dX0_prepare_7 rfl (lv_at hl 0 rfl) ?_
    refine va_get (D := E.1) (cl := vwCl) (ci := 0) (v := .int lnn) (C := RX0) (T := TX0) (N := 2) hx hb hts hiX0 hown hK hP 0 rfl rfl 1 (by decide) hw0 (fun _ h9 => h9) rfl dX0_prepare_8 ?_
    refine lv_iconst (v := (4 : Int32)) hx hb dX0_prepare_11 (by decide) ?_
    refine lv_icmp_gt (tgt := 27) hx hb dX0_prepare_12 (by decide) (fun hc2 => ?_) (fun hc2 => ?_)
    · replace h := g_it hc2 h
      refine lv_null hx hb dX0_prepare_27 ?_
      refine lv_astore_nN (lv' := [(2, .null), (0, .ref q0), (1, .ref (an 0))]) hx hb dX0_prepare_28 rfl hl (by decide) rfl (fun ls hl => ?_)
      refine lv_aload_nN hx hb dX0_prepare_29 rfl (lv_at hl 0 rfl) ?_
      refine lv_ifnullN (tgt := 38) hx hb dX0_prepare_30 (by decide) ?_
      exact hret (h0, h1, h2, h3, h4) _ _ _ _ (Option.some.inj h) hP hS dX0_prepare_38
    · replace h := g_if hc2 h
      refine lv_aload_n hx hb dX0_prepare_15 rfl (lv_at hl 0 rfl) ?_
      refine va_get (D := E.1) (cl := vwCl) (ci := 0) (v := .ref q1) (C := RX0) (T := TX0) (N := 2) hx hb hts hiX0 hown hK hP 0 rfl rfl 0 (by decide) hw1 (fun _ h9 => h9) rfl dX0_prepare_16 ?_
      refine lv_aload_n hx hb dX0_prepare_19 rfl (lv_at hl 0 rfl) ?_
      refine va_get (D := E.1) (cl := vwCl) (ci := 0) (v := .int lnn) (C := RX0) (T := TX0) (N := 2) hx hb hts hiX0 hown hK hP 0 rfl rfl 1 (by decide) hw0 (fun _ h9 => h9) rfl dX0_prepare_20 ?_
      obtain ⟨hg3, h⟩ := gd_s h
      by_cases hk4 : (pm (lnn).toNatClampNeg) = 0
      · replace h := g_it hk4 h
        refine g_aldH (v := ba 0 0) hx hb hK hP 1 3 rfl rfl (inB_in hg3) (by show some (ba (pm (lnn).toNatClampNeg) 0) = _; rw [hk4]) dX0_prepare_23 ?_
        refine lv_goto (tgt := 28) hx hb dX0_prepare_24 (by decide) ?_
        refine lv_astore_n (lv' := [(2, .ref (ba 0 0)), (0, .ref q0), (1, .ref (an 0))]) hx hb dX0_prepare_28 rfl hl (by decide) rfl (fun ls hl => ?_)
        refine lv_aload_n hx hb dX0_prepare_29 rfl (lv_at hl 0 rfl) ?_
        refine lv_ifnull hx hb dX0_prepare_30 ?_
        refine lv_aload_n hx hb dX0_prepare_33 rfl (lv_at hl 0 rfl) ?_
        refine lv_aload_n hx hb dX0_prepare_34 rfl (lv_at hl 2 rfl) ?_
        obtain ⟨h0_6, hc7, h⟩ := bd1_s h
        refine g_callBv (As := [.ref (an 0)]) (rest := []) (bs1 := [[(q0, .inr (0, [.ref q1, .int lnn]))], wHa E q1 ba pm, wHuT E (ba 0) h0_6, wHuT E (ba 1) h1, wHuT E (ba 2) h2, wHuT E (ba 3) h3, wHuT E (ba 4) h4, wHuT E an xn]) ⟨hx, hb, hml, hown, hts⟩ (kgX1_copyFrom E l (ba 0) an h0 xn h0_6 hc7) (cwV 1 hts gX0_prepare_X1_copyFrom rfl rfl rfl (by decide +kernel) ⟨Nat.le_of_ble_eq_true rfl, Nat.le_of_ble_eq_true rfl⟩) hK hP hD hS hA hG hl [2, 7] 2 0 (by decide) rfl (ci := 1) rfl rfl rfl rfl rfl rfl rfl rfl rfl (Nat.le_of_ble_eq_true rfl) dX0_prepare_35 (Nat.zero_le _) (Nat.zero_le _) (fun H locs hP hD hS => ?_)
        exact hret (h0_6, h1, h2, h3, h4) _ _ _ _ (Option.some.inj h) hP hS dX0_prepare_38
      replace h := g_if hk4 h
      by_cases hk8 : (pm (lnn).toNatClampNeg) = 1
      · replace h := g_it hk8 h
        refine g_aldH (v := ba 1 0) hx hb hK hP 1 3 rfl rfl (inB_in hg3) (by show some (ba (pm (lnn).toNatClampNeg) 0) = _; rw [hk8]) dX0_prepare_23 ?_
        refine lv_goto (tgt := 28) hx hb dX0_prepare_24 (by decide) ?_
        refine lv_astore_n (lv' := [(2, .ref (ba 1 0)), (0, .ref q0), (1, .ref (an 0))]) hx hb dX0_prepare_28 rfl hl (by decide) rfl (fun ls hl => ?_)
        refine lv_aload_n hx hb dX0_prepare_29 rfl (lv_at hl 0 rfl) ?_
        refine lv_ifnull hx hb dX0_prepare_30 ?_
        refine lv_aload_n hx hb dX0_prepare_33 rfl (lv_at hl 0 rfl) ?_
        refine lv_aload_n hx hb dX0_prepare_34 rfl (lv_at hl 2 rfl) ?_
        obtain ⟨h1_10, hc11, h⟩ := bd1_s h
        refine g_callBv (As := [.ref (an 0)]) (rest := []) (bs1 := [[(q0, .inr (0, [.ref q1, .int lnn]))], wHa E q1 ba pm, wHuT E (ba 0) h0, wHuT E (ba 1) h1_10, wHuT E (ba 2) h2, wHuT E (ba 3) h3, wHuT E (ba 4) h4, wHuT E an xn]) ⟨hx, hb, hml, hown, hts⟩ (kgX1_copyFrom E l (ba 1) an h1 xn h1_10 hc11) (cwV 1 hts gX0_prepare_X1_copyFrom rfl rfl rfl (by decide +kernel) ⟨Nat.le_of_ble_eq_true rfl, Nat.le_of_ble_eq_true rfl⟩) hK hP hD hS hA hG hl [3, 7] 3 0 (by decide) rfl (ci := 1) rfl rfl rfl rfl rfl rfl rfl rfl rfl (Nat.le_of_ble_eq_true rfl) dX0_prepare_35 (Nat.zero_le _) (Nat.zero_le _) (fun H locs hP hD hS => ?_)
        exact hret (h0, h1_10, h2, h3, h4) _ _ _ _ (Option.some.inj h) hP hS dX0_prepare_38
      replace h := g_if hk8 h
      by_cases hk12 : (pm (lnn).toNatClampNeg) = 2
      · replace h := g_it hk12 h
        refine g_aldH (v := ba 2 0) hx hb hK hP 1 3 rfl rfl (inB_in hg3) (by show some (ba (pm (lnn).toNatClampNeg) 0) = _; rw [hk12]) dX0_prepare_23 ?_
        refine lv_goto (tgt := 28) hx hb dX0_prepare_24 (by decide) ?_
        refine lv_astore_n (lv' := [(2, .ref (ba 2 0)), (0, .ref q0), (1, .ref (an 0))]) hx hb dX0_prepare_28 rfl hl (by decide) rfl (fun ls hl => ?_)
        refine lv_aload_n hx hb dX0_prepare_29 rfl (lv_at hl 0 rfl) ?_
        refine lv_ifnull hx hb dX0_prepare_30 ?_
        refine lv_aload_n hx hb dX0_prepare_33 rfl (lv_at hl 0 rfl) ?_
        refine lv_aload_n hx hb dX0_prepare_34 rfl (lv_at hl 2 rfl) ?_
        obtain ⟨h2_14, hc15, h⟩ := bd1_s h
        refine g_callBv (As := [.ref (an 0)]) (rest := []) (bs1 := [[(q0, .inr (0, [.ref q1, .int lnn]))], wHa E q1 ba pm, wHuT E (ba 0) h0, wHuT E (ba 1) h1, wHuT E (ba 2) h2_14, wHuT E (ba 3) h3, wHuT E (ba 4) h4, wHuT E an xn]) ⟨hx, hb, hml, hown, hts⟩ (kgX1_copyFrom E l (ba 2) an h2 xn h2_14 hc15) (cwV 1 hts gX0_prepare_X1_copyFrom rfl rfl rfl (by decide +kernel) ⟨Nat.le_of_ble_eq_true rfl, Nat.le_of_ble_eq_true rfl⟩) hK hP hD hS hA hG hl [4, 7] 4 0 (by decide) rfl (ci := 1) rfl rfl rfl rfl rfl rfl rfl rfl rfl (Nat.le_of_ble_eq_true rfl) dX0_prepare_35 (Nat.zero_le _) (Nat.zero_le _) (fun H locs hP hD hS => ?_)
        exact hret (h0, h1, h2_14, h3, h4) _ _ _ _ (Option.some.inj h) hP hS dX0_prepare_38
      replace h := g_if hk12 h
      by_cases hk16 : (pm (lnn).toNatClampNeg) = 3
      · replace h := g_it hk16 h
        refine g_aldH (v := ba 3 0) hx hb hK hP 1 3 rfl rfl (inB_in hg3) (by show some (ba (pm (lnn).toNatClampNeg) 0) = _; rw [hk16]) dX0_prepare_23 ?_
        refine lv_goto (tgt := 28) hx hb dX0_prepare_24 (by decide) ?_
        refine lv_astore_n (lv' := [(2, .ref (ba 3 0)), (0, .ref q0), (1, .ref (an 0))]) hx hb dX0_prepare_28 rfl hl (by decide) rfl (fun ls hl => ?_)
        refine lv_aload_n hx hb dX0_prepare_29 rfl (lv_at hl 0 rfl) ?_
        refine lv_ifnull hx hb dX0_prepare_30 ?_
        refine lv_aload_n hx hb dX0_prepare_33 rfl (lv_at hl 0 rfl) ?_
        refine lv_aload_n hx hb dX0_prepare_34 rfl (lv_at hl 2 rfl) ?_
        obtain ⟨h3_18, hc19, h⟩ := bd1_s h
        refine g_callBv (As := [.ref (an 0)]) (rest := []) (bs1 := [[(q0, .inr (0, [.ref q1, .int lnn]))], wHa E q1 ba pm, wHuT E (ba 0) h0, wHuT E (ba 1) h1, wHuT E (ba 2) h2, wHuT E (ba 3) h3_18, wHuT E (ba 4) h4, wHuT E an xn]) ⟨hx, hb, hml, hown, hts⟩ (kgX1_copyFrom E l (ba 3) an h3 xn h3_18 hc19) (cwV 1 hts gX0_prepare_X1_copyFrom rfl rfl rfl (by decide +kernel) ⟨Nat.le_of_ble_eq_true rfl, Nat.le_of_ble_eq_true rfl⟩) hK hP hD hS hA hG hl [5, 7] 5 0 (by decide) rfl (ci := 1) rfl rfl rfl rfl rfl rfl rfl rfl rfl (Nat.le_of_ble_eq_true rfl) dX0_prepare_35 (Nat.zero_le _) (Nat.zero_le _) (fun H locs hP hD hS => ?_)
        exact hret (h0, h1, h2, h3_18, h4) _ _ _ _ (Option.some.inj h) hP hS dX0_prepare_38
      replace h := g_if hk16 h
      by_cases hk20 : (pm (lnn).toNatClampNeg) = 4
      · replace h := g_it hk20 h
        refine g_aldH (v := ba 4 0) hx hb hK hP 1 3 rfl rfl (inB_in hg3) (by show some (ba (pm (lnn).toNatClampNeg) 0) = _; rw [hk20]) dX0_prepare_23 ?_
        refine lv_goto (tgt := 28) hx hb dX0_prepare_24 (by decide) ?_
        refine lv_astore_n (lv' := [(2, .ref (ba 4 0)), (0, .ref q0), (1, .ref (an 0))]) hx hb dX0_prepare_28 rfl hl (by decide) rfl (fun ls hl => ?_)
        refine lv_aload_n hx hb dX0_prepare_29 rfl (lv_at hl 0 rfl) ?_
        refine lv_ifnull hx hb dX0_prepare_30 ?_
        refine lv_aload_n hx hb dX0_prepare_33 rfl (lv_at hl 0 rfl) ?_
        refine lv_aload_n hx hb dX0_prepare_34 rfl (lv_at hl 2 rfl) ?_
        obtain ⟨h4_22, hc23, h⟩ := bd1_s h
        refine g_callBv (As := [.ref (an 0)]) (rest := []) (bs1 := [[(q0, .inr (0, [.ref q1, .int lnn]))], wHa E q1 ba pm, wHuT E (ba 0) h0, wHuT E (ba 1) h1, wHuT E (ba 2) h2, wHuT E (ba 3) h3, wHuT E (ba 4) h4_22, wHuT E an xn]) ⟨hx, hb, hml, hown, hts⟩ (kgX1_copyFrom E l (ba 4) an h4 xn h4_22 hc23) (cwV 1 hts gX0_prepare_X1_copyFrom rfl rfl rfl (by decide +kernel) ⟨Nat.le_of_ble_eq_true rfl, Nat.le_of_ble_eq_true rfl⟩) hK hP hD hS hA hG hl [6, 7] 6 0 (by decide) rfl (ci := 1) rfl rfl rfl rfl rfl rfl rfl rfl rfl (Nat.le_of_ble_eq_true rfl) dX0_prepare_35 (Nat.zero_le _) (Nat.zero_le _) (fun H locs hP hD hS => ?_)
        exact hret (h0, h1, h2, h3, h4_22) _ _ _ _ (Option.some.inj h) hP hS dX0_prepare_38
      replace h := g_if hk20 h
      cases h
set_option maxHeartbeats 4000000 in
set_option maxRecDepth 100000 in
theorem kX0_commit (E : gE) (l : Launch) (q0 q1 : Nat) (ba : Nat → Nat → Nat) (lnn : Int32) (pm : Nat → Nat) (h0 : HutS) (h1 : HutS) (h2 : HutS) (h3 : HutS) (h4 : HutS)  (res : Int32 × (Nat → Nat)) (h : fX0_commit lnn pm  = some res) : gMV E l yX0_commit wsX0_commit ({ frames := 0, cells := 0, slots := 0, locals := 0 } : Room) [.ref q0] (List.flatten [[(q0, .inr (0, [.ref q1, .int lnn]))], wHa E q1 ba pm, wHuT E (ba 0) h0, wHuT E (ba 1) h1, wHuT E (ba 2) h2, wHuT E (ba 3) h3, wHuT E (ba 4) h4]) (fun res : Int32 × (Nat → Nat) => (List.flatten [[(q0, .inr (0, [.ref q1, .int res.1]))], wHa E q1 ba res.2, wHuT E (ba 0) h0, wHuT E (ba 1) h1, wHuT E (ba 2) h2, wHuT E (ba 3) h3, wHuT E (ba 4) h4])) res := by
  refine g_entV (cc := cX0_commit) (maxL := 3) (by decide) rfl (Nat.le_of_ble_eq_true rfl) ?_
  intro p e s m args below meth c A Q ls hx hb hml hown hts hK hP hD hS hA hG hret hl
  unfold fX0_commit at h
  replace hl : lv_has ls 3 [(0, .ref q0)] := hl
  have hiX0 : ∀ w ∈ wsX00, w ∈ wsX0_commit := by decide +kernel
  have hw0 := hts (.fieldLink RX0 16 "GlacierHut$History" "length" "I") (by decide +kernel)
  have hw1 := hts (.fieldLink RX0 11 "GlacierHut$History" "states" "[LGlacierHut$Hut;") (by decide +kernel)
  refine lv_aload_n hx hb dX0_commit_0 rfl (lv_at hl 0 rfl) ?_
  refine lv_dup hx hb dX0_commit_1 rfl ?_
  refine va_get (D := E.1) (cl := vwCl) (ci := 0) (v := .int lnn) (C := RX0) (T := TX0) (N := 2) hx hb hts hiX0 hown hK hP 0 rfl rfl 1 (by decide) hw0 (fun _ h9 => h9) rfl dX0_commit_2 ?_
  refine lv_iconst (v := (1 : Int32)) hx hb dX0_commit_5 (by decide) ?_
  refine lv_iadd hx hb dX0_commit_6 ?_
  refine lv_topi (fun v1 e_v1 => ?_)
  replace h := jl_s e_v1 h
  refine va_put (D := E.1) (cl := vwCl) (ci := 0) (v := .int v1) (ty := .int) (C := RX0) (T := TX0) (N := 2) hx hb hts hiX0 tyX0 tyX0_ok nmX0 hown hK hP hD hS 0 rfl rfl 1 (by decide) hw0 (fun _ h9 => h9) rfl (by decide +kernel) rfl rfl (Nat.le_of_ble_eq_true rfl) dX0_commit_7 (fun H locs hP hD hS => ?_)
  replace hP : va_P E.1 vwCl (List.flatten [[(q0, .inr (0, [.ref q1, .int v1]))], wHa E q1 ba pm, wHuT E (ba 0) h0, wHuT E (ba 1) h1, wHuT E (ba 2) h2, wHuT E (ba 3) h3, wHuT E (ba 4) h4]) H := hP
  replace hD : va_D A (List.flatten [[(q0, .inr (0, [.ref q1, .int v1]))], wHa E q1 ba pm, wHuT E (ba 0) h0, wHuT E (ba 1) h1, wHuT E (ba 2) h2, wHuT E (ba 3) h3, wHuT E (ba 4) h4]) := hD
  refine lv_aload_n hx hb dX0_commit_10 rfl (lv_at hl 0 rfl) ?_
  refine va_get (D := E.1) (cl := vwCl) (ci := 0) (v := .int v1) (C := RX0) (T := TX0) (N := 2) hx hb hts hiX0 hown hK hP 0 rfl rfl 1 (by decide) hw0 (fun _ h9 => h9) rfl dX0_commit_11 ?_
  refine lv_iconst (v := (4 : Int32)) hx hb dX0_commit_14 (by decide) ?_
  refine lv_icmp_gt (tgt := 19) hx hb dX0_commit_15 (by decide) (fun hc2 => ?_) (fun hc2 => ?_)
  · replace h := g_it hc2 h
    refine lv_aload_n hx hb dX0_commit_19 rfl (lv_at hl 0 rfl) ?_
    refine va_get (D := E.1) (cl := vwCl) (ci := 0) (v := .ref q1) (C := RX0) (T := TX0) (N := 2) hx hb hts hiX0 hown hK hP 0 rfl rfl 0 (by decide) hw1 (fun _ h9 => h9) rfl dX0_commit_20 ?_
    refine lv_iconst (v := (0 : Int32)) hx hb dX0_commit_23 (by decide) ?_
    obtain ⟨hg3, h⟩ := gd_s h
    refine g_aldH (v := ba (pm ((0 : Int32)).toNatClampNeg) 0) hx hb hK hP 1 3 rfl rfl (inB_in hg3) rfl dX0_commit_24 ?_
    refine lv_astore_n (lv' := [(1, .ref (ba (pm ((0 : Int32)).toNatClampNeg) 0)), (0, .ref q0)]) hx hb dX0_commit_25 rfl hl (by decide) rfl (fun ls hl => ?_)
    refine lv_iconst (v := (0 : Int32)) hx hb dX0_commit_26 (by decide) ?_
    refine lv_istore_n (lv' := [(2, .int (0 : Int32)), (1, .ref (ba (pm ((0 : Int32)).toNatClampNeg) 0)), (0, .ref q0)]) hx hb dX0_commit_27 rfl hl (by decide) rfl (fun ls hl => ?_)
    refine gl2_e h (fun S_rec4 hS_rec4 h => ?_)
    have hL_rec4 : ∀ (nF : Nat) (v5 : Int32) (pm6 : Nat → Nat) (H : Heap) (locs : List Loc) (ls : Array Slot), va_P E.1 vwCl (List.flatten [[(q0, .inr (0, [.ref q1, .int v1]))], wHa E q1 ba pm6, wHuT E (ba 0) h0, wHuT E (ba 1) h1, wHuT E (ba 2) h2, wHuT E (ba 3) h3, wHuT E (ba 4) h4]) H → va_S A s.heap H locs → lv_has ls 3 [(2, .int v5), (1, .ref (ba (pm ((0 : Int32)).toNatClampNeg) 0)), (0, .ref q0)] → gl2 S_rec4 nF v5 pm6 = some res → W p l e ({ frames := 0, cells := 0, slots := 0, locals := 0 } : Room) s m args below meth c H locs 0 0 Q (F0 m 28 ls []) := by
      intro nF
      induction nF with
      | zero => intro v5 pm6 H locs ls hP hS hl h; exact gl2_z h
      | succ nF ih_rec4 =>
        intro v5 pm6 H locs ls hP hS hl h
        replace hD : va_D A (List.flatten [[(q0, .inr (0, [.ref q1, .int v1]))], wHa E q1 ba pm6, wHuT E (ba 0) h0, wHuT E (ba 1) h1, wHuT E (ba 2) h2, wHuT E (ba 3) h3, wHuT E (ba 4) h4]) := gD_same hD rfl
        replace h : S_rec4 (gl2 S_rec4 nF) v5 pm6 = some res := h
        generalize gl2 S_rec4 nF = rec4 at h ih_rec4
        subst hS_rec4
        unfold sX0_commit_rec4 at h
        refine lv_iload_n hx hb dX0_commit_28 rfl (lv_at hl 0 rfl) ?_
        refine lv_iconst (v := (4 : Int32)) hx hb dX0_commit_29 (by decide) ?_
        refine lv_icmp_ge (tgt := 53) hx hb dX0_commit_30 (by decide) (fun hc7 => ?_) (fun hc7 => ?_)
        · replace h := g_it hc7 h
          refine lv_aload_n hx hb dX0_commit_53 rfl (lv_at hl 2 rfl) ?_
          refine va_get (D := E.1) (cl := vwCl) (ci := 0) (v := .ref q1) (C := RX0) (T := TX0) (N := 2) hx hb hts hiX0 hown hK hP 0 rfl rfl 0 (by decide) hw1 (fun _ h9 => h9) rfl dX0_commit_54 ?_
          refine lv_iconst (v := (4 : Int32)) hx hb dX0_commit_57 (by decide) ?_
          refine lv_aload_n hx hb dX0_commit_58 rfl (lv_at hl 1 rfl) ?_
          obtain ⟨hg8, h⟩ := gd_s h
          obtain ⟨hg9, h⟩ := gd_s h
          obtain ⟨qk, vs, hqk⟩ : ∃ (qk : Nat) (vs : List Value), (List.flatten [[(q0, .inr (0, [.ref q1, .int v1]))], wHa E q1 ba pm6, wHuT E (ba 0) h0, wHuT E (ba 1) h1, wHuT E (ba 2) h2, wHuT E (ba 3) h3, wHuT E (ba 4) h4])[qk]? = some (ba (pm ((0 : Int32)).toNatClampNeg) 0, .inr (1, vs)) := gH_five (P := fun j => ∃ (qk : Nat) (vs : List Value), (List.flatten [[(q0, .inr (0, [.ref q1, .int v1]))], wHa E q1 ba pm6, wHuT E (ba 0) h0, wHuT E (ba 1) h1, wHuT E (ba 2) h2, wHuT E (ba 3) h3, wHuT E (ba 4) h4])[qk]? = some (ba j 0, .inr (1, vs))) hg9 ⟨⟨2, _, rfl⟩, ⟨22, _, rfl⟩, ⟨42, _, rfl⟩, ⟨62, _, rfl⟩, ⟨82, _, rfl⟩⟩
          refine va_astq (D := E.1) (cl := vwCl) (tys := gT E) hx hb hK hP hD hS 1 3 qk 1 rfl rfl hqk rfl (inB_in hg8) dX0_commit_59 (fun H locs hP hD hS => ?_)
          obtain ⟨pm10, e_pm10⟩ : ∃ y : Nat → Nat, y = (va_up pm6 ((4 : Int32)).toNatClampNeg (pm ((0 : Int32)).toNatClampNeg)) := ⟨_, rfl⟩
          replace h := jl_s e_pm10 h
          replace hP : va_P E.1 vwCl (List.flatten [[(q0, .inr (0, [.ref q1, .int v1]))], wHa E q1 ba pm10, wHuT E (ba 0) h0, wHuT E (ba 1) h1, wHuT E (ba 2) h2, wHuT E (ba 3) h3, wHuT E (ba 4) h4]) H := (by rw [e_pm10]; rw [gH_up] at hP; exact hP)
          replace hD : va_D A (List.flatten [[(q0, .inr (0, [.ref q1, .int v1]))], wHa E q1 ba pm10, wHuT E (ba 0) h0, wHuT E (ba 1) h1, wHuT E (ba 2) h2, wHuT E (ba 3) h3, wHuT E (ba 4) h4]) := gD_same hD rfl
          refine lv_aload_n hx hb dX0_commit_60 rfl (lv_at hl 2 rfl) ?_
          refine lv_iconst (v := (4 : Int32)) hx hb dX0_commit_61 (by decide) ?_
          refine va_put (D := E.1) (cl := vwCl) (ci := 0) (v := .int (4 : Int32)) (ty := .int) (C := RX0) (T := TX0) (N := 2) hx hb hts hiX0 tyX0 tyX0_ok nmX0 hown hK hP hD hS 0 rfl rfl 1 (by decide) hw0 (fun _ h9 => h9) rfl (by decide +kernel) rfl rfl (Nat.le_of_ble_eq_true rfl) dX0_commit_62 (fun H locs hP hD hS => ?_)
          replace hP : va_P E.1 vwCl (List.flatten [[(q0, .inr (0, [.ref q1, .int (4 : Int32)]))], wHa E q1 ba pm10, wHuT E (ba 0) h0, wHuT E (ba 1) h1, wHuT E (ba 2) h2, wHuT E (ba 3) h3, wHuT E (ba 4) h4]) H := hP
          replace hD : va_D A (List.flatten [[(q0, .inr (0, [.ref q1, .int (4 : Int32)]))], wHa E q1 ba pm10, wHuT E (ba 0) h0, wHuT E (ba 1) h1, wHuT E (ba 2) h2, wHuT E (ba 3) h3, wHuT E (ba 4) h4]) := hD
          exact hret ((4 : Int32), pm10) _ _ _ _ (Option.some.inj h) hP hS dX0_commit_65
        · replace h := g_if hc7 h
          refine lv_aload_n hx hb dX0_commit_33 rfl (lv_at hl 2 rfl) ?_
          refine va_get (D := E.1) (cl := vwCl) (ci := 0) (v := .ref q1) (C := RX0) (T := TX0) (N := 2) hx hb hts hiX0 hown hK hP 0 rfl rfl 0 (by decide) hw1 (fun _ h9 => h9) rfl dX0_commit_34 ?_
          refine lv_iload_n hx hb dX0_commit_37 rfl (lv_at hl 0 rfl) ?_
          refine lv_aload_n hx hb dX0_commit_38 rfl (lv_at hl 2 rfl) ?_
          refine va_get (D := E.1) (cl := vwCl) (ci := 0) (v := .ref q1) (C := RX0) (T := TX0) (N := 2) hx hb hts hiX0 hown hK hP 0 rfl rfl 0 (by decide) hw1 (fun _ h9 => h9) rfl dX0_commit_39 ?_
          refine lv_iload_n hx hb dX0_commit_42 rfl (lv_at hl 0 rfl) ?_
          refine lv_iconst (v := (1 : Int32)) hx hb dX0_commit_43 (by decide) ?_
          refine lv_iadd hx hb dX0_commit_44 ?_
          obtain ⟨hg11, h⟩ := gd_s h
          refine g_aldH (v := ba (pm6 ((v5 + (1 : Int32))).toNatClampNeg) 0) hx hb hK hP 1 3 rfl rfl (inB_in hg11) rfl dX0_commit_45 ?_
          obtain ⟨hg12, h⟩ := gd_s h
          obtain ⟨hg13, h⟩ := gd_s h
          obtain ⟨qk, vs, hqk⟩ : ∃ (qk : Nat) (vs : List Value), (List.flatten [[(q0, .inr (0, [.ref q1, .int v1]))], wHa E q1 ba pm6, wHuT E (ba 0) h0, wHuT E (ba 1) h1, wHuT E (ba 2) h2, wHuT E (ba 3) h3, wHuT E (ba 4) h4])[qk]? = some (ba (pm6 ((v5 + (1 : Int32))).toNatClampNeg) 0, .inr (1, vs)) := gH_five (P := fun j => ∃ (qk : Nat) (vs : List Value), (List.flatten [[(q0, .inr (0, [.ref q1, .int v1]))], wHa E q1 ba pm6, wHuT E (ba 0) h0, wHuT E (ba 1) h1, wHuT E (ba 2) h2, wHuT E (ba 3) h3, wHuT E (ba 4) h4])[qk]? = some (ba j 0, .inr (1, vs))) hg13 ⟨⟨2, _, rfl⟩, ⟨22, _, rfl⟩, ⟨42, _, rfl⟩, ⟨62, _, rfl⟩, ⟨82, _, rfl⟩⟩
          refine va_astq (D := E.1) (cl := vwCl) (tys := gT E) hx hb hK hP hD hS 1 3 qk 1 rfl rfl hqk rfl (inB_in hg12) dX0_commit_46 (fun H locs hP hD hS => ?_)
          obtain ⟨pm14, e_pm14⟩ : ∃ y : Nat → Nat, y = (va_up pm6 (v5).toNatClampNeg (pm6 ((v5 + (1 : Int32))).toNatClampNeg)) := ⟨_, rfl⟩
          replace h := jl_s e_pm14 h
          replace hP : va_P E.1 vwCl (List.flatten [[(q0, .inr (0, [.ref q1, .int v1]))], wHa E q1 ba pm14, wHuT E (ba 0) h0, wHuT E (ba 1) h1, wHuT E (ba 2) h2, wHuT E (ba 3) h3, wHuT E (ba 4) h4]) H := (by rw [e_pm14]; rw [gH_up] at hP; exact hP)
          replace hD : va_D A (List.flatten [[(q0, .inr (0, [.ref q1, .int v1]))], wHa E q1 ba pm14, wHuT E (ba 0) h0, wHuT E (ba 1) h1, wHuT E (ba 2) h2, wHuT E (ba 3) h3, wHuT E (ba 4) h4]) := gD_same hD rfl
          obtain ⟨v15, e_v15⟩ : ∃ y : Int32, y = (v5 + (1 : Int32)) := ⟨_, rfl⟩
          replace h := jl_s e_v15 h
          refine lv_iinc (v := v15) (lv' := [(2, .int v15), (1, .ref (ba (pm ((0 : Int32)).toNatClampNeg) 0)), (0, .ref q0)]) hx hb dX0_commit_47 hl (k := 0) rfl (by rw [e_v15]; rfl) (by decide) rfl (fun ls hl => ?_)
          refine lv_goto (tgt := 28) hx hb dX0_commit_50 (by decide) ?_
          exact ih_rec4 v15 pm14 _ _ _ hP hS (lv_sub hl [0, 1, 2] rfl) h
    exact hL_rec4 gFU (0 : Int32) pm _ _ _ hP hS (lv_sub hl [0, 1, 2] rfl) h
  · replace h := g_if hc2 h
    exact hret (v1, pm) _ _ _ _ (Option.some.inj h) hP hS dX0_commit_18
set_option maxHeartbeats 4000000 in
set_option maxRecDepth 100000 in
theorem kX0_takeBack (E : gE) (l : Launch) (q0 q1 : Nat) (an : Nat → Nat) (ba : Nat → Nat → Nat) (lnn : Int32) (pm : Nat → Nat) (h0 : HutS) (h1 : HutS) (h2 : HutS) (h3 : HutS) (h4 : HutS) (xn : HutS)  (res : Int32 × HutS) (h : fX0_takeBack lnn pm h0 h1 h2 h3 h4 xn  = some res) : gMV E l yX0_takeBack wsX0_takeBack ({ frames := 3, cells := 0, slots := 0, locals := 60 } : Room) [.ref q0, .ref (an 0)] (List.flatten [[(q0, .inr (0, [.ref q1, .int lnn]))], wHa E q1 ba pm, wHuT E (ba 0) h0, wHuT E (ba 1) h1, wHuT E (ba 2) h2, wHuT E (ba 3) h3, wHuT E (ba 4) h4, wHuT E an xn]) (fun res : Int32 × HutS => (List.flatten [[(q0, .inr (0, [.ref q1, .int res.1]))], wHa E q1 ba pm, wHuT E (ba 0) h0, wHuT E (ba 1) h1, wHuT E (ba 2) h2, wHuT E (ba 3) h3, wHuT E (ba 4) h4, wHuT E an res.2])) res := by
  refine g_entV (cc := cX0_takeBack) (maxL := 3) (by decide) rfl (Nat.le_of_ble_eq_true rfl) ?_
  intro p e s m args below meth c A Q ls hx hb hml hown hts hK hP hD hS hA hG hret hl
  unfold fX0_takeBack at h
  replace hl : lv_has ls 3 [(0, .ref q0), (1, .ref (an 0))] := hl
  have hiX0 : ∀ w ∈ wsX00, w ∈ wsX0_takeBack := by decide +kernel
  have hw0 := hts (.fieldLink RX0 16 "GlacierHut$History" "length" "I") (by decide +kernel)
  have hw1 := hts (.fieldLink RX0 11 "GlacierHut$History" "states" "[LGlacierHut$Hut;") (by decide +kernel)
  refine lv_aload_n hx hb dX0_takeBack_0 rfl (lv_at hl 0 rfl) ?_
  refine va_get (D := E.1) (cl := vwCl) (ci := 0) (v := .int lnn) (C := RX0) (T := TX0) (N := 2) hx hb hts hiX0 hown hK hP 0 rfl rfl 1 (by decide) hw0 (fun _ h9 => h9) rfl dX0_takeBack_1 ?_
  refine lv_iconst (v := (1 : Int32)) hx hb dX0_takeBack_4 (by decide) ?_
  refine lv_icmp_lt (tgt := 30) hx hb dX0_takeBack_5 (by decide) (fun hc1 => ?_) (fun hc1 => ?_)
  · replace h := g_it hc1 h
    refine lv_null hx hb dX0_takeBack_30 ?_
    refine lv_astore_nN (lv' := [(2, .null), (0, .ref q0), (1, .ref (an 0))]) hx hb dX0_takeBack_31 rfl hl (by decide) rfl (fun ls hl => ?_)
    refine lv_aload_nN hx hb dX0_takeBack_32 rfl (lv_at hl 0 rfl) ?_
    refine lv_ifnullN (tgt := 51) hx hb dX0_takeBack_33 (by decide) ?_
    exact hret (lnn, xn) _ _ _ _ (Option.some.inj h) hP hS dX0_takeBack_51
  · replace h := g_if hc1 h
    refine lv_aload_n hx hb dX0_takeBack_8 rfl (lv_at hl 0 rfl) ?_
    refine va_get (D := E.1) (cl := vwCl) (ci := 0) (v := .int lnn) (C := RX0) (T := TX0) (N := 2) hx hb hts hiX0 hown hK hP 0 rfl rfl 1 (by decide) hw0 (fun _ h9 => h9) rfl dX0_takeBack_9 ?_
    refine lv_iconst (v := (4 : Int32)) hx hb dX0_takeBack_12 (by decide) ?_
    refine lv_icmp_gt (tgt := 30) hx hb dX0_takeBack_13 (by decide) (fun hc2 => ?_) (fun hc2 => ?_)
    · replace h := g_it hc2 h
      refine lv_null hx hb dX0_takeBack_30 ?_
      refine lv_astore_nN (lv' := [(2, .null), (0, .ref q0), (1, .ref (an 0))]) hx hb dX0_takeBack_31 rfl hl (by decide) rfl (fun ls hl => ?_)
      refine lv_aload_nN hx hb dX0_takeBack_32 rfl (lv_at hl 0 rfl) ?_
      refine lv_ifnullN (tgt := 51) hx hb dX0_takeBack_33 (by decide) ?_
      exact hret (lnn, xn) _ _ _ _ (Option.some.inj h) hP hS dX0_takeBack_51
    · replace h := g_if hc2 h
      refine lv_aload_n hx hb dX0_takeBack_16 rfl (lv_at hl 0 rfl) ?_
      refine va_get (D := E.1) (cl := vwCl) (ci := 0) (v := .ref q1) (C := RX0) (T := TX0) (N := 2) hx hb hts hiX0 hown hK hP 0 rfl rfl 0 (by decide) hw1 (fun _ h9 => h9) rfl dX0_takeBack_17 ?_
      refine lv_aload_n hx hb dX0_takeBack_20 rfl (lv_at hl 0 rfl) ?_
      refine va_get (D := E.1) (cl := vwCl) (ci := 0) (v := .int lnn) (C := RX0) (T := TX0) (N := 2) hx hb hts hiX0 hown hK hP 0 rfl rfl 1 (by decide) hw0 (fun _ h9 => h9) rfl dX0_takeBack_21 ?_
      refine lv_iconst (v := (1 : Int32)) hx hb dX0_takeBack_24 (by decide) ?_
      refine lv_isub hx hb dX0_takeBack_25 ?_
      obtain ⟨hg3, h⟩ := gd_s h
      by_cases hk4 : (pm ((lnn - (1 : Int32))).toNatClampNeg) = 0
      · replace h := g_it hk4 h
        refine g_aldH (v := ba 0 0) hx hb hK hP 1 3 rfl rfl (inB_in hg3) (by show some (ba (pm ((lnn - (1 : Int32))).toNatClampNeg) 0) = _; rw [hk4]) dX0_takeBack_26 ?_
        refine lv_goto (tgt := 31) hx hb dX0_takeBack_27 (by decide) ?_
        refine lv_astore_n (lv' := [(2, .ref (ba 0 0)), (0, .ref q0), (1, .ref (an 0))]) hx hb dX0_takeBack_31 rfl hl (by decide) rfl (fun ls hl => ?_)
        refine lv_aload_n hx hb dX0_takeBack_32 rfl (lv_at hl 0 rfl) ?_
        refine lv_ifnull hx hb dX0_takeBack_33 ?_
        refine lv_aload_n hx hb dX0_takeBack_36 rfl (lv_at hl 2 rfl) ?_
        refine lv_aload_n hx hb dX0_takeBack_37 rfl (lv_at hl 0 rfl) ?_
        obtain ⟨xn_6, hc7, h⟩ := bd1_s h
        refine g_callBv (As := [.ref (ba 0 0)]) (rest := []) (bs1 := [[(q0, .inr (0, [.ref q1, .int lnn]))], wHa E q1 ba pm, wHuT E (ba 0) h0, wHuT E (ba 1) h1, wHuT E (ba 2) h2, wHuT E (ba 3) h3, wHuT E (ba 4) h4, wHuT E an xn_6]) ⟨hx, hb, hml, hown, hts⟩ (kgX1_copyFrom E l an (ba 0) xn h0 xn_6 hc7) (cwV 1 hts gX0_takeBack_X1_copyFrom rfl rfl rfl (by decide +kernel) ⟨Nat.le_of_ble_eq_true rfl, Nat.le_of_ble_eq_true rfl⟩) hK hP hD hS hA hG hl [7, 2] 7 0 (by decide) rfl (ci := 1) rfl rfl rfl rfl rfl rfl rfl rfl rfl (Nat.le_of_ble_eq_true rfl) dX0_takeBack_38 (Nat.zero_le _) (Nat.zero_le _) (fun H locs hP hD hS => ?_)
        refine lv_aload_n hx hb dX0_takeBack_41 rfl (lv_at hl 1 rfl) ?_
        refine lv_dup hx hb dX0_takeBack_42 rfl ?_
        refine va_get (D := E.1) (cl := vwCl) (ci := 0) (v := .int lnn) (C := RX0) (T := TX0) (N := 2) hx hb hts hiX0 hown hK hP 0 rfl rfl 1 (by decide) hw0 (fun _ h9 => h9) rfl dX0_takeBack_43 ?_
        refine lv_iconst (v := (1 : Int32)) hx hb dX0_takeBack_46 (by decide) ?_
        refine lv_isub hx hb dX0_takeBack_47 ?_
        refine lv_topi (fun v8 e_v8 => ?_)
        replace h := jl_s e_v8 h
        refine va_put (D := E.1) (cl := vwCl) (ci := 0) (v := .int v8) (ty := .int) (C := RX0) (T := TX0) (N := 2) hx hb hts hiX0 tyX0 tyX0_ok nmX0 hown hK hP hD hS 0 rfl rfl 1 (by decide) hw0 (fun _ h9 => h9) rfl (by decide +kernel) rfl rfl (Nat.le_of_ble_eq_true rfl) dX0_takeBack_48 (fun H locs hP hD hS => ?_)
        replace hP : va_P E.1 vwCl (List.flatten [[(q0, .inr (0, [.ref q1, .int v8]))], wHa E q1 ba pm, wHuT E (ba 0) h0, wHuT E (ba 1) h1, wHuT E (ba 2) h2, wHuT E (ba 3) h3, wHuT E (ba 4) h4, wHuT E an xn_6]) H := hP
        replace hD : va_D A (List.flatten [[(q0, .inr (0, [.ref q1, .int v8]))], wHa E q1 ba pm, wHuT E (ba 0) h0, wHuT E (ba 1) h1, wHuT E (ba 2) h2, wHuT E (ba 3) h3, wHuT E (ba 4) h4, wHuT E an xn_6]) := hD
        exact hret (v8, xn_6) _ _ _ _ (Option.some.inj h) hP hS dX0_takeBack_51
      replace h := g_if hk4 h
      by_cases hk9 : (pm ((lnn - (1 : Int32))).toNatClampNeg) = 1
      · replace h := g_it hk9 h
        refine g_aldH (v := ba 1 0) hx hb hK hP 1 3 rfl rfl (inB_in hg3) (by show some (ba (pm ((lnn - (1 : Int32))).toNatClampNeg) 0) = _; rw [hk9]) dX0_takeBack_26 ?_
        refine lv_goto (tgt := 31) hx hb dX0_takeBack_27 (by decide) ?_
        refine lv_astore_n (lv' := [(2, .ref (ba 1 0)), (0, .ref q0), (1, .ref (an 0))]) hx hb dX0_takeBack_31 rfl hl (by decide) rfl (fun ls hl => ?_)
        refine lv_aload_n hx hb dX0_takeBack_32 rfl (lv_at hl 0 rfl) ?_
        refine lv_ifnull hx hb dX0_takeBack_33 ?_
        refine lv_aload_n hx hb dX0_takeBack_36 rfl (lv_at hl 2 rfl) ?_
        refine lv_aload_n hx hb dX0_takeBack_37 rfl (lv_at hl 0 rfl) ?_
        obtain ⟨xn_11, hc12, h⟩ := bd1_s h
        refine g_callBv (As := [.ref (ba 1 0)]) (rest := []) (bs1 := [[(q0, .inr (0, [.ref q1, .int lnn]))], wHa E q1 ba pm, wHuT E (ba 0) h0, wHuT E (ba 1) h1, wHuT E (ba 2) h2, wHuT E (ba 3) h3, wHuT E (ba 4) h4, wHuT E an xn_11]) ⟨hx, hb, hml, hown, hts⟩ (kgX1_copyFrom E l an (ba 1) xn h1 xn_11 hc12) (cwV 1 hts gX0_takeBack_X1_copyFrom rfl rfl rfl (by decide +kernel) ⟨Nat.le_of_ble_eq_true rfl, Nat.le_of_ble_eq_true rfl⟩) hK hP hD hS hA hG hl [7, 3] 7 0 (by decide) rfl (ci := 1) rfl rfl rfl rfl rfl rfl rfl rfl rfl (Nat.le_of_ble_eq_true rfl) dX0_takeBack_38 (Nat.zero_le _) (Nat.zero_le _) (fun H locs hP hD hS => ?_)
        refine lv_aload_n hx hb dX0_takeBack_41 rfl (lv_at hl 1 rfl) ?_
        refine lv_dup hx hb dX0_takeBack_42 rfl ?_
        refine va_get (D := E.1) (cl := vwCl) (ci := 0) (v := .int lnn) (C := RX0) (T := TX0) (N := 2) hx hb hts hiX0 hown hK hP 0 rfl rfl 1 (by decide) hw0 (fun _ h9 => h9) rfl dX0_takeBack_43 ?_
        refine lv_iconst (v := (1 : Int32)) hx hb dX0_takeBack_46 (by decide) ?_
        refine lv_isub hx hb dX0_takeBack_47 ?_
        refine lv_topi (fun v13 e_v13 => ?_)
        replace h := jl_s e_v13 h
        refine va_put (D := E.1) (cl := vwCl) (ci := 0) (v := .int v13) (ty := .int) (C := RX0) (T := TX0) (N := 2) hx hb hts hiX0 tyX0 tyX0_ok nmX0 hown hK hP hD hS 0 rfl rfl 1 (by decide) hw0 (fun _ h9 => h9) rfl (by decide +kernel) rfl rfl (Nat.le_of_ble_eq_true rfl) dX0_takeBack_48 (fun H locs hP hD hS => ?_)
        replace hP : va_P E.1 vwCl (List.flatten [[(q0, .inr (0, [.ref q1, .int v13]))], wHa E q1 ba pm, wHuT E (ba 0) h0, wHuT E (ba 1) h1, wHuT E (ba 2) h2, wHuT E (ba 3) h3, wHuT E (ba 4) h4, wHuT E an xn_11]) H := hP
        replace hD : va_D A (List.flatten [[(q0, .inr (0, [.ref q1, .int v13]))], wHa E q1 ba pm, wHuT E (ba 0) h0, wHuT E (ba 1) h1, wHuT E (ba 2) h2, wHuT E (ba 3) h3, wHuT E (ba 4) h4, wHuT E an xn_11]) := hD
        exact hret (v13, xn_11) _ _ _ _ (Option.some.inj h) hP hS dX0_takeBack_51
      replace h := g_if hk9 h
      by_cases hk14 : (pm ((lnn - (1 : Int32))).toNatClampNeg) = 2
      · replace h := g_it hk14 h
        refine g_aldH (v := ba 2 0) hx hb hK hP 1 3 rfl rfl (inB_in hg3) (by show some (ba (pm ((lnn - (1 : Int32))).toNatClampNeg) 0) = _; rw [hk14]) dX0_takeBack_26 ?_
        refine lv_goto (tgt := 31) hx hb dX0_takeBack_27 (by decide) ?_
        refine lv_astore_n (lv' := [(2, .ref (ba 2 0)), (0, .ref q0), (1, .ref (an 0))]) hx hb dX0_takeBack_31 rfl hl (by decide) rfl (fun ls hl => ?_)
        refine lv_aload_n hx hb dX0_takeBack_32 rfl (lv_at hl 0 rfl) ?_
        refine lv_ifnull hx hb dX0_takeBack_33 ?_
        refine lv_aload_n hx hb dX0_takeBack_36 rfl (lv_at hl 2 rfl) ?_
        refine lv_aload_n hx hb dX0_takeBack_37 rfl (lv_at hl 0 rfl) ?_
        obtain ⟨xn_16, hc17, h⟩ := bd1_s h
        refine g_callBv (As := [.ref (ba 2 0)]) (rest := []) (bs1 := [[(q0, .inr (0, [.ref q1, .int lnn]))], wHa E q1 ba pm, wHuT E (ba 0) h0, wHuT E (ba 1) h1, wHuT E (ba 2) h2, wHuT E (ba 3) h3, wHuT E (ba 4) h4, wHuT E an xn_16]) ⟨hx, hb, hml, hown, hts⟩ (kgX1_copyFrom E l an (ba 2) xn h2 xn_16 hc17) (cwV 1 hts gX0_takeBack_X1_copyFrom rfl rfl rfl (by decide +kernel) ⟨Nat.le_of_ble_eq_true rfl, Nat.le_of_ble_eq_true rfl⟩) hK hP hD hS hA hG hl [7, 4] 7 0 (by decide) rfl (ci := 1) rfl rfl rfl rfl rfl rfl rfl rfl rfl (Nat.le_of_ble_eq_true rfl) dX0_takeBack_38 (Nat.zero_le _) (Nat.zero_le _) (fun H locs hP hD hS => ?_)
        refine lv_aload_n hx hb dX0_takeBack_41 rfl (lv_at hl 1 rfl) ?_
        refine lv_dup hx hb dX0_takeBack_42 rfl ?_
        refine va_get (D := E.1) (cl := vwCl) (ci := 0) (v := .int lnn) (C := RX0) (T := TX0) (N := 2) hx hb hts hiX0 hown hK hP 0 rfl rfl 1 (by decide) hw0 (fun _ h9 => h9) rfl dX0_takeBack_43 ?_
        refine lv_iconst (v := (1 : Int32)) hx hb dX0_takeBack_46 (by decide) ?_
        refine lv_isub hx hb dX0_takeBack_47 ?_
        refine lv_topi (fun v18 e_v18 => ?_)
        replace h := jl_s e_v18 h
        refine va_put (D := E.1) (cl := vwCl) (ci := 0) (v := .int v18) (ty := .int) (C := RX0) (T := TX0) (N := 2) hx hb hts hiX0 tyX0 tyX0_ok nmX0 hown hK hP hD hS 0 rfl rfl 1 (by decide) hw0 (fun _ h9 => h9) rfl (by decide +kernel) rfl rfl (Nat.le_of_ble_eq_true rfl) dX0_takeBack_48 (fun H locs hP hD hS => ?_)
        replace hP : va_P E.1 vwCl (List.flatten [[(q0, .inr (0, [.ref q1, .int v18]))], wHa E q1 ba pm, wHuT E (ba 0) h0, wHuT E (ba 1) h1, wHuT E (ba 2) h2, wHuT E (ba 3) h3, wHuT E (ba 4) h4, wHuT E an xn_16]) H := hP
        replace hD : va_D A (List.flatten [[(q0, .inr (0, [.ref q1, .int v18]))], wHa E q1 ba pm, wHuT E (ba 0) h0, wHuT E (ba 1) h1, wHuT E (ba 2) h2, wHuT E (ba 3) h3, wHuT E (ba 4) h4, wHuT E an xn_16]) := hD
        exact hret (v18, xn_16) _ _ _ _ (Option.some.inj h) hP hS dX0_takeBack_51
      replace h := g_if hk14 h
      by_cases hk19 : (pm ((lnn - (1 : Int32))).toNatClampNeg) = 3
      · replace h := g_it hk19 h
        refine g_aldH (v := ba 3 0) hx hb hK hP 1 3 rfl rfl (inB_in hg3) (by show some (ba (pm ((lnn - (1 : Int32))).toNatClampNeg) 0) = _; rw [hk19]) dX0_takeBack_26 ?_
        refine lv_goto (tgt := 31) hx hb dX0_takeBack_27 (by decide) ?_
        refine lv_astore_n (lv' := [(2, .ref (ba 3 0)), (0, .ref q0), (1, .ref (an 0))]) hx hb dX0_takeBack_31 rfl hl (by decide) rfl (fun ls hl => ?_)
        refine lv_aload_n hx hb dX0_takeBack_32 rfl (lv_at hl 0 rfl) ?_
        refine lv_ifnull hx hb dX0_takeBack_33 ?_
        refine lv_aload_n hx hb dX0_takeBack_36 rfl (lv_at hl 2 rfl) ?_
        refine lv_aload_n hx hb dX0_takeBack_37 rfl (lv_at hl 0 rfl) ?_
        obtain ⟨xn_21, hc22, h⟩ := bd1_s h
        refine g_callBv (As := [.ref (ba 3 0)]) (rest := []) (bs1 := [[(q0, .inr (0, [.ref q1, .int lnn]))], wHa E q1 ba pm, wHuT E (ba 0) h0, wHuT E (ba 1) h1, wHuT E (ba 2) h2, wHuT E (ba 3) h3, wHuT E (ba 4) h4, wHuT E an xn_21]) ⟨hx, hb, hml, hown, hts⟩ (kgX1_copyFrom E l an (ba 3) xn h3 xn_21 hc22) (cwV 1 hts gX0_takeBack_X1_copyFrom rfl rfl rfl (by decide +kernel) ⟨Nat.le_of_ble_eq_true rfl, Nat.le_of_ble_eq_true rfl⟩) hK hP hD hS hA hG hl [7, 5] 7 0 (by decide) rfl (ci := 1) rfl rfl rfl rfl rfl rfl rfl rfl rfl (Nat.le_of_ble_eq_true rfl) dX0_takeBack_38 (Nat.zero_le _) (Nat.zero_le _) (fun H locs hP hD hS => ?_)
        refine lv_aload_n hx hb dX0_takeBack_41 rfl (lv_at hl 1 rfl) ?_
        refine lv_dup hx hb dX0_takeBack_42 rfl ?_
        refine va_get (D := E.1) (cl := vwCl) (ci := 0) (v := .int lnn) (C := RX0) (T := TX0) (N := 2) hx hb hts hiX0 hown hK hP 0 rfl rfl 1 (by decide) hw0 (fun _ h9 => h9) rfl dX0_takeBack_43 ?_
        refine lv_iconst (v := (1 : Int32)) hx hb dX0_takeBack_46 (by decide) ?_
        refine lv_isub hx hb dX0_takeBack_47 ?_
        refine lv_topi (fun v23 e_v23 => ?_)
        replace h := jl_s e_v23 h
        refine va_put (D := E.1) (cl := vwCl) (ci := 0) (v := .int v23) (ty := .int) (C := RX0) (T := TX0) (N := 2) hx hb hts hiX0 tyX0 tyX0_ok nmX0 hown hK hP hD hS 0 rfl rfl 1 (by decide) hw0 (fun _ h9 => h9) rfl (by decide +kernel) rfl rfl (Nat.le_of_ble_eq_true rfl) dX0_takeBack_48 (fun H locs hP hD hS => ?_)
        replace hP : va_P E.1 vwCl (List.flatten [[(q0, .inr (0, [.ref q1, .int v23]))], wHa E q1 ba pm, wHuT E (ba 0) h0, wHuT E (ba 1) h1, wHuT E (ba 2) h2, wHuT E (ba 3) h3, wHuT E (ba 4) h4, wHuT E an xn_21]) H := hP
        replace hD : va_D A (List.flatten [[(q0, .inr (0, [.ref q1, .int v23]))], wHa E q1 ba pm, wHuT E (ba 0) h0, wHuT E (ba 1) h1, wHuT E (ba 2) h2, wHuT E (ba 3) h3, wHuT E (ba 4) h4, wHuT E an xn_21]) := hD
        exact hret (v23, xn_21) _ _ _ _ (Option.some.inj h) hP hS dX0_takeBack_51
      replace h := g_if hk19 h
      by_cases hk24 : (pm ((lnn - (1 : Int32))).toNatClampNeg) = 4
      · replace h := g_it hk24 h
        refine g_aldH (v := ba 4 0) hx hb hK hP 1 3 rfl rfl (inB_in hg3) (by show some (ba (pm ((lnn - (1 : Int32))).toNatClampNeg) 0) = _; rw [hk24]) dX0_takeBack_26 ?_
        refine lv_goto (tgt := 31) hx hb dX0_takeBack_27 (by decide) ?_
        refine lv_astore_n (lv' := [(2, .ref (ba 4 0)), (0, .ref q0), (1, .ref (an 0))]) hx hb dX0_takeBack_31 rfl hl (by decide) rfl (fun ls hl => ?_)
        refine lv_aload_n hx hb dX0_takeBack_32 rfl (lv_at hl 0 rfl) ?_
        refine lv_ifnull hx hb dX0_takeBack_33 ?_
        refine lv_aload_n hx hb dX0_takeBack_36 rfl (lv_at hl 2 rfl) ?_
        refine lv_aload_n hx hb dX0_takeBack_37 rfl (lv_at hl 0 rfl) ?_
        obtain ⟨xn_26, hc27, h⟩ := bd1_s h
        refine g_callBv (As := [.ref (ba 4 0)]) (rest := []) (bs1 := [[(q0, .inr (0, [.ref q1, .int lnn]))], wHa E q1 ba pm, wHuT E (ba 0) h0, wHuT E (ba 1) h1, wHuT E (ba 2) h2, wHuT E (ba 3) h3, wHuT E (ba 4) h4, wHuT E an xn_26]) ⟨hx, hb, hml, hown, hts⟩ (kgX1_copyFrom E l an (ba 4) xn h4 xn_26 hc27) (cwV 1 hts gX0_takeBack_X1_copyFrom rfl rfl rfl (by decide +kernel) ⟨Nat.le_of_ble_eq_true rfl, Nat.le_of_ble_eq_true rfl⟩) hK hP hD hS hA hG hl [7, 6] 7 0 (by decide) rfl (ci := 1) rfl rfl rfl rfl rfl rfl rfl rfl rfl (Nat.le_of_ble_eq_true rfl) dX0_takeBack_38 (Nat.zero_le _) (Nat.zero_le _) (fun H locs hP hD hS => ?_)
        refine lv_aload_n hx hb dX0_takeBack_41 rfl (lv_at hl 1 rfl) ?_
        refine lv_dup hx hb dX0_takeBack_42 rfl ?_
        refine va_get (D := E.1) (cl := vwCl) (ci := 0) (v := .int lnn) (C := RX0) (T := TX0) (N := 2) hx hb hts hiX0 hown hK hP 0 rfl rfl 1 (by decide) hw0 (fun _ h9 => h9) rfl dX0_takeBack_43 ?_
        refine lv_iconst (v := (1 : Int32)) hx hb dX0_takeBack_46 (by decide) ?_
        refine lv_isub hx hb dX0_takeBack_47 ?_
        refine lv_topi (fun v28 e_v28 => ?_)
        replace h := jl_s e_v28 h
        refine va_put (D := E.1) (cl := vwCl) (ci := 0) (v := .int v28) (ty := .int) (C := RX0) (T := TX0) (N := 2) hx hb hts hiX0 tyX0 tyX0_ok nmX0 hown hK hP hD hS 0 rfl rfl 1 (by decide) hw0 (fun _ h9 => h9) rfl (by decide +kernel) rfl rfl (Nat.le_of_ble_eq_true rfl) dX0_takeBack_48 (fun H locs hP hD hS => ?_)
        replace hP : va_P E.1 vwCl (List.flatten [[(q0, .inr (0, [.ref q1, .int v28]))], wHa E q1 ba pm, wHuT E (ba 0) h0, wHuT E (ba 1) h1, wHuT E (ba 2) h2, wHuT E (ba 3) h3, wHuT E (ba 4) h4, wHuT E an xn_26]) H := hP
        replace hD : va_D A (List.flatten [[(q0, .inr (0, [.ref q1, .int v28]))], wHa E q1 ba pm, wHuT E (ba 0) h0, wHuT E (ba 1) h1, wHuT E (ba 2) h2, wHuT E (ba 3) h3, wHuT E (ba 4) h4, wHuT E an xn_26]) := hD
        exact hret (v28, xn_26) _ _ _ _ (Option.some.inj h) hP hS dX0_takeBack_51
      replace h := g_if hk24 h
      cases h
set_option maxHeartbeats 4000000 in
set_option maxRecDepth 100000 in
theorem kX3_obey (E : gE) (l : Launch) (x0 x1 x2 r0 : Nat) (ar aw : Nat → Nat) (cmd : Int32) (pos : Int32) (rea : Int32) (cau : Int32) (xr : HutS) (xw : HutS) (ch : Nat → Int32) (tl : Int32) (nu : Nat → Int32) (le : Int32) (nx : Int32) (p1 : Int32) (res : Int32 × HutS × HutS) (h : fX3_obey xr xw nu p1 = some res) : gMI E l yX3_obey wsX3_obey ({ frames := 4, cells := 0, slots := 0, locals := 102 } : Room) [.ref r0, .int p1, .ref x2] (List.flatten [[(r0, .inr (3, [.ref (ar 0), .ref (aw 0), .int cmd, .int pos, .int rea, .int cau]))], wHuT E ar xr, wHuT E aw xw, wTx E x0 x1 x2 ch tl nu le nx]) (fun res : Int32 × HutS × HutS => (List.flatten [[(r0, .inr (3, [.ref (ar 0), .ref (aw 0), .int cmd, .int pos, .int rea, .int cau]))], wHuT E ar res.2.1, wHuT E aw res.2.2, wTx E x0 x1 x2 ch tl nu le nx])) (fun res => res.1) res := by
  refine g_entI (cc := cX3_obey) (maxL := 3) (by decide) rfl (Nat.le_of_ble_eq_true rfl) ?_
  intro p e s m args below meth c A Q ls hx hb hml hown hts hK hP hD hS hA hG hret hl
  unfold fX3_obey at h
  replace hl : lv_has ls 3 [(0, .ref r0), (1, .int p1), (2, .ref x2)] := hl
  have hiX3 : ∀ w ∈ wsX30, w ∈ wsX3_obey := by decide +kernel
  have hw0 := hts (.fieldLink RX3 12 "GlacierHut$Rehearsal" "hut" "LGlacierHut$Hut;") (by decide +kernel)
  have hw1 := hts (.fieldLink RX3 18 "GlacierHut$Rehearsal" "trial" "LGlacierHut$Hut;") (by decide +kernel)
  refine lv_iload_n hx hb dX3_obey_0 rfl (lv_at hl 1 rfl) ?_
  by_cases hk1 : p1 = (98 : Int32)
  · replace h := g_it hk1 h
    refine lv_lookup (tgt := 85) (off := 84) hx hb dX3_obey_1 (by decide) (by rw [hk1]; rfl) (by decide) ?_
    refine lv_aload_n hx hb dX3_obey_85 rfl (lv_at hl 0 rfl) ?_
    refine va_get (D := E.1) (cl := vwCl) (ci := 3) (v := .ref (ar 0)) (C := RX3) (T := TX3) (N := 6) hx hb hts hiX3 hown hK hP 0 rfl rfl 0 (by decide) hw0 (fun _ h9 => h9) rfl dX3_obey_86 ?_
    refine lv_aload_n hx hb dX3_obey_89 rfl (lv_at hl 2 rfl) ?_
    refine lv_iconst (v := (0 : Int32)) hx hb dX3_obey_90 (by decide) ?_
    obtain ⟨hg7, h⟩ := gd_s h
    refine va_iald (D := E.1) (cl := vwCl) (tys := gT E) hx hb hK hP 43 0 rfl rfl (inB_in hg7) dX3_obey_91 ?_
    refine lv_aload_n hx hb dX3_obey_92 rfl (lv_at hl 2 rfl) ?_
    refine lv_iconst (v := (1 : Int32)) hx hb dX3_obey_93 (by decide) ?_
    obtain ⟨hg8, h⟩ := gd_s h
    refine va_iald (D := E.1) (cl := vwCl) (tys := gT E) hx hb hK hP 43 0 rfl rfl (inB_in hg8) dX3_obey_94 ?_
    refine lv_aload_n hx hb dX3_obey_95 rfl (lv_at hl 2 rfl) ?_
    refine lv_iconst (v := (2 : Int32)) hx hb dX3_obey_96 (by decide) ?_
    obtain ⟨hg9, h⟩ := gd_s h
    refine va_iald (D := E.1) (cl := vwCl) (tys := gT E) hx hb hK hP 43 0 rfl rfl (inB_in hg9) dX3_obey_97 ?_
    refine lv_aload_n hx hb dX3_obey_98 rfl (lv_at hl 0 rfl) ?_
    refine va_get (D := E.1) (cl := vwCl) (ci := 3) (v := .ref (aw 0)) (C := RX3) (T := TX3) (N := 6) hx hb hts hiX3 hown hK hP 0 rfl rfl 1 (by decide) hw1 (fun _ h9 => h9) rfl dX3_obey_99 ?_
    obtain ⟨r10, xr_12, xw_14, hc15, h⟩ := bd3_s h
    refine g_callBi (As := [.int (nu ((0 : Int32)).toNatClampNeg), .int (nu ((1 : Int32)).toNatClampNeg), .int (nu ((2 : Int32)).toNatClampNeg), .ref (aw 0)]) (rest := []) (r := r10) (bs1 := [[(r0, .inr (3, [.ref (ar 0), .ref (aw 0), .int cmd, .int pos, .int rea, .int cau]))], wHuT E ar xr_12, wHuT E aw xw_14, wTx E x0 x1 x2 ch tl nu le nx]) ⟨hx, hb, hml, hown, hts⟩ (kgX1_takeBooking E l ar aw xr xw (nu ((0 : Int32)).toNatClampNeg) (nu ((1 : Int32)).toNatClampNeg) (nu ((2 : Int32)).toNatClampNeg) (r10, xr_12, xw_14) hc15) (cwV 4 hts gX3_obey_X1_takeBooking rfl rfl rfl (by decide +kernel) ⟨Nat.le_of_ble_eq_true rfl, Nat.le_of_ble_eq_true rfl⟩) hK hP hD hS hA hG hl [1, 2] 1 0 (by decide) rfl (ci := 1) rfl rfl rfl rfl rfl rfl rfl rfl rfl rfl (Nat.le_of_ble_eq_true rfl) dX3_obey_102 (Nat.zero_le _) (Nat.zero_le _) (fun H locs hP hD hS => ?_)
    exact hret (r10, xr_12, xw_14) _ _ _ _ _ (Option.some.inj h) hP hS rfl dX3_obey_105
  replace h := g_if hk1 h
  by_cases hk2 : p1 = (102 : Int32)
  · replace h := g_it hk2 h
    refine lv_lookup (tgt := 77) (off := 76) hx hb dX3_obey_1 (by decide) (by rw [hk2]; rfl) (by decide) ?_
    refine lv_aload_n hx hb dX3_obey_77 rfl (lv_at hl 0 rfl) ?_
    refine va_get (D := E.1) (cl := vwCl) (ci := 3) (v := .ref (ar 0)) (C := RX3) (T := TX3) (N := 6) hx hb hts hiX3 hown hK hP 0 rfl rfl 0 (by decide) hw0 (fun _ h9 => h9) rfl dX3_obey_78 ?_
    obtain ⟨r16, xr_18, hc19, h⟩ := bd2_s h
    refine g_callBi (As := []) (rest := []) (r := r16) (bs1 := [[(r0, .inr (3, [.ref (ar 0), .ref (aw 0), .int cmd, .int pos, .int rea, .int cau]))], wHuT E ar xr_18, wHuT E aw xw, wTx E x0 x1 x2 ch tl nu le nx]) ⟨hx, hb, hml, hown, hts⟩ (kgX1_bringPallet E l ar xr (r16, xr_18) hc19) (cwV 0 hts gX3_obey_X1_bringPallet rfl rfl rfl (by decide +kernel) ⟨Nat.le_of_ble_eq_true rfl, Nat.le_of_ble_eq_true rfl⟩) hK hP hD hS hA hG hl [1] 1 0 (by decide) rfl (ci := 1) rfl rfl rfl rfl rfl rfl rfl rfl rfl rfl (Nat.le_of_ble_eq_true rfl) dX3_obey_81 (Nat.zero_le _) (Nat.zero_le _) (fun H locs hP hD hS => ?_)
    exact hret (r16, xr_18, xw) _ _ _ _ _ (Option.some.inj h) hP hS rfl dX3_obey_84
  replace h := g_if hk2 h
  by_cases hk3 : p1 = (108 : Int32)
  · replace h := g_it hk3 h
    refine lv_lookup (tgt := 60) (off := 59) hx hb dX3_obey_1 (by decide) (by rw [hk3]; rfl) (by decide) ?_
    refine lv_aload_n hx hb dX3_obey_60 rfl (lv_at hl 0 rfl) ?_
    refine va_get (D := E.1) (cl := vwCl) (ci := 3) (v := .ref (ar 0)) (C := RX3) (T := TX3) (N := 6) hx hb hts hiX3 hown hK hP 0 rfl rfl 0 (by decide) hw0 (fun _ h9 => h9) rfl dX3_obey_61 ?_
    refine lv_aload_n hx hb dX3_obey_64 rfl (lv_at hl 2 rfl) ?_
    refine lv_iconst (v := (0 : Int32)) hx hb dX3_obey_65 (by decide) ?_
    obtain ⟨hg20, h⟩ := gd_s h
    refine va_iald (D := E.1) (cl := vwCl) (tys := gT E) hx hb hK hP 43 0 rfl rfl (inB_in hg20) dX3_obey_66 ?_
    refine lv_aload_n hx hb dX3_obey_67 rfl (lv_at hl 2 rfl) ?_
    refine lv_iconst (v := (1 : Int32)) hx hb dX3_obey_68 (by decide) ?_
    obtain ⟨hg21, h⟩ := gd_s h
    refine va_iald (D := E.1) (cl := vwCl) (tys := gT E) hx hb hK hP 43 0 rfl rfl (inB_in hg21) dX3_obey_69 ?_
    refine lv_aload_n hx hb dX3_obey_70 rfl (lv_at hl 2 rfl) ?_
    refine lv_iconst (v := (2 : Int32)) hx hb dX3_obey_71 (by decide) ?_
    obtain ⟨hg22, h⟩ := gd_s h
    refine va_iald (D := E.1) (cl := vwCl) (tys := gT E) hx hb hK hP 43 0 rfl rfl (inB_in hg22) dX3_obey_72 ?_
    obtain ⟨r23, xr_25, hc26, h⟩ := bd2_s h
    refine g_callBi (As := [.int (nu ((0 : Int32)).toNatClampNeg), .int (nu ((1 : Int32)).toNatClampNeg), .int (nu ((2 : Int32)).toNatClampNeg)]) (rest := []) (r := r23) (bs1 := [[(r0, .inr (3, [.ref (ar 0), .ref (aw 0), .int cmd, .int pos, .int rea, .int cau]))], wHuT E ar xr_25, wHuT E aw xw, wTx E x0 x1 x2 ch tl nu le nx]) ⟨hx, hb, hml, hown, hts⟩ (kgX1_putOnPallet E l ar xr (nu ((0 : Int32)).toNatClampNeg) (nu ((1 : Int32)).toNatClampNeg) (nu ((2 : Int32)).toNatClampNeg) (r23, xr_25) hc26) (cwV 3 hts gX3_obey_X1_putOnPallet rfl rfl rfl (by decide +kernel) ⟨Nat.le_of_ble_eq_true rfl, Nat.le_of_ble_eq_true rfl⟩) hK hP hD hS hA hG hl [1] 1 0 (by decide) rfl (ci := 1) rfl rfl rfl rfl rfl rfl rfl rfl rfl rfl (Nat.le_of_ble_eq_true rfl) dX3_obey_73 (Nat.zero_le _) (Nat.zero_le _) (fun H locs hP hD hS => ?_)
    exact hret (r23, xr_25, xw) _ _ _ _ _ (Option.some.inj h) hP hS rfl dX3_obey_76
  replace h := g_if hk3 h
  by_cases hk4 : p1 = (110 : Int32)
  · replace h := g_it hk4 h
    refine lv_lookup (tgt := 131) (off := 130) hx hb dX3_obey_1 (by decide) (by rw [hk4]; rfl) (by decide) ?_
    refine lv_aload_n hx hb dX3_obey_131 rfl (lv_at hl 0 rfl) ?_
    refine va_get (D := E.1) (cl := vwCl) (ci := 3) (v := .ref (ar 0)) (C := RX3) (T := TX3) (N := 6) hx hb hts hiX3 hown hK hP 0 rfl rfl 0 (by decide) hw0 (fun _ h9 => h9) rfl dX3_obey_132 ?_
    refine lv_aload_n hx hb dX3_obey_135 rfl (lv_at hl 2 rfl) ?_
    refine lv_iconst (v := (0 : Int32)) hx hb dX3_obey_136 (by decide) ?_
    obtain ⟨hg27, h⟩ := gd_s h
    refine va_iald (D := E.1) (cl := vwCl) (tys := gT E) hx hb hK hP 43 0 rfl rfl (inB_in hg27) dX3_obey_137 ?_
    obtain ⟨r28, xr_30, hc31, h⟩ := bd2_s h
    refine g_callBi (As := [.int (nu ((0 : Int32)).toNatClampNeg)]) (rest := []) (r := r28) (bs1 := [[(r0, .inr (3, [.ref (ar 0), .ref (aw 0), .int cmd, .int pos, .int rea, .int cau]))], wHuT E ar xr_30, wHuT E aw xw, wTx E x0 x1 x2 ch tl nu le nx]) ⟨hx, hb, hml, hown, hts⟩ (kgX1_passNights E l ar xr (nu ((0 : Int32)).toNatClampNeg) (r28, xr_30) hc31) (cwV 1 hts gX3_obey_X1_passNights rfl rfl rfl (by decide +kernel) ⟨Nat.le_of_ble_eq_true rfl, Nat.le_of_ble_eq_true rfl⟩) hK hP hD hS hA hG hl [1] 1 0 (by decide) rfl (ci := 1) rfl rfl rfl rfl rfl rfl rfl rfl rfl rfl (Nat.le_of_ble_eq_true rfl) dX3_obey_138 (Nat.zero_le _) (Nat.zero_le _) (fun H locs hP hD hS => ?_)
    exact hret (r28, xr_30, xw) _ _ _ _ _ (Option.some.inj h) hP hS rfl dX3_obey_141
  replace h := g_if hk4 h
  by_cases hk5 : p1 = (115 : Int32)
  · replace h := g_it hk5 h
    refine lv_lookup (tgt := 117) (off := 116) hx hb dX3_obey_1 (by decide) (by rw [hk5]; rfl) (by decide) ?_
    refine lv_aload_n hx hb dX3_obey_117 rfl (lv_at hl 0 rfl) ?_
    refine va_get (D := E.1) (cl := vwCl) (ci := 3) (v := .ref (ar 0)) (C := RX3) (T := TX3) (N := 6) hx hb hts hiX3 hown hK hP 0 rfl rfl 0 (by decide) hw0 (fun _ h9 => h9) rfl dX3_obey_118 ?_
    refine lv_aload_n hx hb dX3_obey_121 rfl (lv_at hl 2 rfl) ?_
    refine lv_iconst (v := (0 : Int32)) hx hb dX3_obey_122 (by decide) ?_
    obtain ⟨hg32, h⟩ := gd_s h
    refine va_iald (D := E.1) (cl := vwCl) (tys := gT E) hx hb hK hP 43 0 rfl rfl (inB_in hg32) dX3_obey_123 ?_
    refine lv_aload_n hx hb dX3_obey_124 rfl (lv_at hl 2 rfl) ?_
    refine lv_iconst (v := (1 : Int32)) hx hb dX3_obey_125 (by decide) ?_
    obtain ⟨hg33, h⟩ := gd_s h
    refine va_iald (D := E.1) (cl := vwCl) (tys := gT E) hx hb hK hP 43 0 rfl rfl (inB_in hg33) dX3_obey_126 ?_
    obtain ⟨r34, xr_36, hc37, h⟩ := bd2_s h
    refine g_callBi (As := [.int (nu ((0 : Int32)).toNatClampNeg), .int (nu ((1 : Int32)).toNatClampNeg)]) (rest := []) (r := r34) (bs1 := [[(r0, .inr (3, [.ref (ar 0), .ref (aw 0), .int cmd, .int pos, .int rea, .int cau]))], wHuT E ar xr_36, wHuT E aw xw, wTx E x0 x1 x2 ch tl nu le nx]) ⟨hx, hb, hml, hown, hts⟩ (kgX1_tellStorm E l ar xr (nu ((0 : Int32)).toNatClampNeg) (nu ((1 : Int32)).toNatClampNeg) (r34, xr_36) hc37) (cwV 2 hts gX3_obey_X1_tellStorm rfl rfl rfl (by decide +kernel) ⟨Nat.le_of_ble_eq_true rfl, Nat.le_of_ble_eq_true rfl⟩) hK hP hD hS hA hG hl [1] 1 0 (by decide) rfl (ci := 1) rfl rfl rfl rfl rfl rfl rfl rfl rfl rfl (Nat.le_of_ble_eq_true rfl) dX3_obey_127 (Nat.zero_le _) (Nat.zero_le _) (fun H locs hP hD hS => ?_)
    exact hret (r34, xr_36, xw) _ _ _ _ _ (Option.some.inj h) hP hS rfl dX3_obey_130
  replace h := g_if hk5 h
  by_cases hk6 : p1 = (120 : Int32)
  · replace h := g_it hk6 h
    refine lv_lookup (tgt := 106) (off := 105) hx hb dX3_obey_1 (by decide) (by rw [hk6]; rfl) (by decide) ?_
    refine lv_aload_n hx hb dX3_obey_106 rfl (lv_at hl 0 rfl) ?_
    refine va_get (D := E.1) (cl := vwCl) (ci := 3) (v := .ref (ar 0)) (C := RX3) (T := TX3) (N := 6) hx hb hts hiX3 hown hK hP 0 rfl rfl 0 (by decide) hw0 (fun _ h9 => h9) rfl dX3_obey_107 ?_
    refine lv_aload_n hx hb dX3_obey_110 rfl (lv_at hl 2 rfl) ?_
    refine lv_iconst (v := (0 : Int32)) hx hb dX3_obey_111 (by decide) ?_
    obtain ⟨hg38, h⟩ := gd_s h
    refine va_iald (D := E.1) (cl := vwCl) (tys := gT E) hx hb hK hP 43 0 rfl rfl (inB_in hg38) dX3_obey_112 ?_
    obtain ⟨r39, xr_41, hc42, h⟩ := bd2_s h
    refine g_callBi (As := [.int (nu ((0 : Int32)).toNatClampNeg)]) (rest := []) (r := r39) (bs1 := [[(r0, .inr (3, [.ref (ar 0), .ref (aw 0), .int cmd, .int pos, .int rea, .int cau]))], wHuT E ar xr_41, wHuT E aw xw, wTx E x0 x1 x2 ch tl nu le nx]) ⟨hx, hb, hml, hown, hts⟩ (kgX1_callOff E l ar xr (nu ((0 : Int32)).toNatClampNeg) (r39, xr_41) hc42) (cwV 1 hts gX3_obey_X1_callOff rfl rfl rfl (by decide +kernel) ⟨Nat.le_of_ble_eq_true rfl, Nat.le_of_ble_eq_true rfl⟩) hK hP hD hS hA hG hl [1] 1 0 (by decide) rfl (ci := 1) rfl rfl rfl rfl rfl rfl rfl rfl rfl rfl (Nat.le_of_ble_eq_true rfl) dX3_obey_113 (Nat.zero_le _) (Nat.zero_le _) (fun H locs hP hD hS => ?_)
    exact hret (r39, xr_41, xw) _ _ _ _ _ (Option.some.inj h) hP hS rfl dX3_obey_116
  replace h := g_if hk6 h
  refine lv_lookup (tgt := 142) (off := 141) hx hb dX3_obey_1 (by decide) (by show Op.lookupswitch.offset [(98, 84), (102, 76), (108, 59), (110, 130), (115, 116), (120, 105)] 141 _ = _; rw [lv_osw hk1 (by decide), lv_osw hk2 (by decide), lv_osw hk3 (by decide), lv_osw hk4 (by decide), lv_osw hk5 (by decide), lv_osw hk6 (by decide)]; rfl) (by decide) ?_
  refine lv_iconst (v := (-1 : Int32)) hx hb dX3_obey_142 (by decide) ?_
  exact hret ((-1 : Int32), xr, xw) _ _ _ _ _ (Option.some.inj h) hP hS rfl dX3_obey_143
set_option maxHeartbeats 4000000 in
set_option maxRecDepth 100000 in
theorem kX3_run (E : gE) (l : Launch) (x0 x1 x2 r0 : Nat) (an ar aw : Nat → Nat) (cmd : Int32) (pos : Int32) (rea : Int32) (cau : Int32) (xr : HutS) (xw : HutS) (ch : Nat → Int32) (tl : Int32) (nu : Nat → Int32) (le : Int32) (nx : Int32) (xn : HutS)  (res : Int32 × Int32 × Int32 × Int32 × HutS × HutS × (Nat → Int32) × Int32 × Int32) (h : fX3_run xr xw ch tl nu le nx xn  = some res) : gMV E l yX3_run wsX3_run ({ frames := 5, cells := 0, slots := 0, locals := 124 } : Room) [.ref r0, .ref x0, .ref (an 0)] (List.flatten [[(r0, .inr (3, [.ref (ar 0), .ref (aw 0), .int cmd, .int pos, .int rea, .int cau]))], wHuT E ar xr, wHuT E aw xw, wTx E x0 x1 x2 ch tl nu le nx, wHuT E an xn]) (fun res : Int32 × Int32 × Int32 × Int32 × HutS × HutS × (Nat → Int32) × Int32 × Int32 => (List.flatten [[(r0, .inr (3, [.ref (ar 0), .ref (aw 0), .int res.1, .int res.2.1, .int res.2.2.1, .int res.2.2.2.1]))], wHuT E ar res.2.2.2.2.1, wHuT E aw res.2.2.2.2.2.1, wTx E x0 x1 x2 ch tl res.2.2.2.2.2.2.1 res.2.2.2.2.2.2.2.1 res.2.2.2.2.2.2.2.2, wHuT E an xn])) res := by
  refine g_entV (cc := cX3_run) (maxL := 5) (by decide) rfl (Nat.le_of_ble_eq_true rfl) ?_
  intro p e s m args below meth c A Q ls hx hb hml hown hts hK hP hD hS hA hG hret hl
  unfold fX3_run at h
  replace hl : lv_has ls 5 [(0, .ref r0), (1, .ref x0), (2, .ref (an 0))] := hl
  have hiX3 : ∀ w ∈ wsX30, w ∈ wsX3_run := by decide +kernel
  have hiX5 : ∀ w ∈ wsX50, w ∈ wsX3_run := by decide +kernel
  have hw0 := hts (.fieldLink RX3 12 "GlacierHut$Rehearsal" "hut" "LGlacierHut$Hut;") (by decide +kernel)
  have hw1 := hts (.fieldLink RX3 25 "GlacierHut$Rehearsal" "commands" "I") (by decide +kernel)
  have hw2 := hts (.fieldLink RX3 29 "GlacierHut$Rehearsal" "position" "I") (by decide +kernel)
  have hw3 := hts (.fieldLink RX3 32 "GlacierHut$Rehearsal" "reason" "I") (by decide +kernel)
  have hw4 := hts (.fieldLink RX3 35 "GlacierHut$Rehearsal" "cause" "I") (by decide +kernel)
  have hw5 := hts (.fieldLink RX3 40 "GlacierHut$Text" "length" "I") (by decide +kernel)
  have hw6 := hts (.fieldLink RX3 47 "GlacierHut$Text" "letter" "C") (by decide +kernel)
  have hw7 := hts (.fieldLink RX3 51 "GlacierHut$Text" "numbers" "[I") (by decide +kernel)
  have hw8 := hts (.fieldLink RX3 59 "GlacierHut$Text" "next" "I") (by decide +kernel)
  refine lv_aload_n hx hb dX3_run_0 rfl (lv_at hl 0 rfl) ?_
  refine va_get (D := E.1) (cl := vwCl) (ci := 3) (v := .ref (ar 0)) (C := RX3) (T := TX3) (N := 6) hx hb hts hiX3 hown hK hP 0 rfl rfl 0 (by decide) hw0 (fun _ h9 => h9) rfl dX3_run_1 ?_
  refine lv_aload_n hx hb dX3_run_4 rfl (lv_at hl 2 rfl) ?_
  obtain ⟨xr_2, hc3, h⟩ := bd1_s h
  refine g_callBv (As := [.ref (an 0)]) (rest := []) (bs1 := [[(r0, .inr (3, [.ref (ar 0), .ref (aw 0), .int cmd, .int pos, .int rea, .int cau]))], wHuT E ar xr_2, wHuT E aw xw, wTx E x0 x1 x2 ch tl nu le nx, wHuT E an xn]) ⟨hx, hb, hml, hown, hts⟩ (kgX1_copyFrom E l ar an xr xn xr_2 hc3) (cwV 1 hts gX3_run_X1_copyFrom rfl rfl rfl (by decide +kernel) ⟨Nat.le_of_ble_eq_true rfl, Nat.le_of_ble_eq_true rfl⟩) hK hP hD hS hA hG hl [1, 4] 1 0 (by decide) rfl (ci := 1) rfl rfl rfl rfl rfl rfl rfl rfl rfl (Nat.le_of_ble_eq_true rfl) dX3_run_5 (Nat.zero_le _) (Nat.zero_le _) (fun H locs hP hD hS => ?_)
  refine lv_aload_n hx hb dX3_run_8 rfl (lv_at hl 0 rfl) ?_
  refine lv_iconst (v := (0 : Int32)) hx hb dX3_run_9 (by decide) ?_
  refine va_put (D := E.1) (cl := vwCl) (ci := 3) (v := .int (0 : Int32)) (ty := .int) (C := RX3) (T := TX3) (N := 6) hx hb hts hiX3 tyX3 tyX3_ok nmX3 hown hK hP hD hS 0 rfl rfl 2 (by decide) hw1 (fun _ h9 => h9) rfl (by decide +kernel) rfl rfl (Nat.le_of_ble_eq_true rfl) dX3_run_10 (fun H locs hP hD hS => ?_)
  replace hP : va_P E.1 vwCl (List.flatten [[(r0, .inr (3, [.ref (ar 0), .ref (aw 0), .int (0 : Int32), .int pos, .int rea, .int cau]))], wHuT E ar xr_2, wHuT E aw xw, wTx E x0 x1 x2 ch tl nu le nx, wHuT E an xn]) H := hP
  replace hD : va_D A (List.flatten [[(r0, .inr (3, [.ref (ar 0), .ref (aw 0), .int (0 : Int32), .int pos, .int rea, .int cau]))], wHuT E ar xr_2, wHuT E aw xw, wTx E x0 x1 x2 ch tl nu le nx, wHuT E an xn]) := hD
  refine lv_aload_n hx hb dX3_run_13 rfl (lv_at hl 0 rfl) ?_
  refine lv_iconst (v := (0 : Int32)) hx hb dX3_run_14 (by decide) ?_
  refine va_put (D := E.1) (cl := vwCl) (ci := 3) (v := .int (0 : Int32)) (ty := .int) (C := RX3) (T := TX3) (N := 6) hx hb hts hiX3 tyX3 tyX3_ok nmX3 hown hK hP hD hS 0 rfl rfl 3 (by decide) hw2 (fun _ h9 => h9) rfl (by decide +kernel) rfl rfl (Nat.le_of_ble_eq_true rfl) dX3_run_15 (fun H locs hP hD hS => ?_)
  replace hP : va_P E.1 vwCl (List.flatten [[(r0, .inr (3, [.ref (ar 0), .ref (aw 0), .int (0 : Int32), .int (0 : Int32), .int rea, .int cau]))], wHuT E ar xr_2, wHuT E aw xw, wTx E x0 x1 x2 ch tl nu le nx, wHuT E an xn]) H := hP
  replace hD : va_D A (List.flatten [[(r0, .inr (3, [.ref (ar 0), .ref (aw 0), .int (0 : Int32), .int (0 : Int32), .int rea, .int cau]))], wHuT E ar xr_2, wHuT E aw xw, wTx E x0 x1 x2 ch tl nu le nx, wHuT E an xn]) := hD
  refine lv_aload_n hx hb dX3_run_18 rfl (lv_at hl 0 rfl) ?_
  refine lv_iconst (v := (0 : Int32)) hx hb dX3_run_19 (by decide) ?_
  refine va_put (D := E.1) (cl := vwCl) (ci := 3) (v := .int (0 : Int32)) (ty := .int) (C := RX3) (T := TX3) (N := 6) hx hb hts hiX3 tyX3 tyX3_ok nmX3 hown hK hP hD hS 0 rfl rfl 4 (by decide) hw3 (fun _ h9 => h9) rfl (by decide +kernel) rfl rfl (Nat.le_of_ble_eq_true rfl) dX3_run_20 (fun H locs hP hD hS => ?_)
  replace hP : va_P E.1 vwCl (List.flatten [[(r0, .inr (3, [.ref (ar 0), .ref (aw 0), .int (0 : Int32), .int (0 : Int32), .int (0 : Int32), .int cau]))], wHuT E ar xr_2, wHuT E aw xw, wTx E x0 x1 x2 ch tl nu le nx, wHuT E an xn]) H := hP
  replace hD : va_D A (List.flatten [[(r0, .inr (3, [.ref (ar 0), .ref (aw 0), .int (0 : Int32), .int (0 : Int32), .int (0 : Int32), .int cau]))], wHuT E ar xr_2, wHuT E aw xw, wTx E x0 x1 x2 ch tl nu le nx, wHuT E an xn]) := hD
  refine lv_aload_n hx hb dX3_run_23 rfl (lv_at hl 0 rfl) ?_
  refine lv_iconst (v := (0 : Int32)) hx hb dX3_run_24 (by decide) ?_
  refine va_put (D := E.1) (cl := vwCl) (ci := 3) (v := .int (0 : Int32)) (ty := .int) (C := RX3) (T := TX3) (N := 6) hx hb hts hiX3 tyX3 tyX3_ok nmX3 hown hK hP hD hS 0 rfl rfl 5 (by decide) hw4 (fun _ h9 => h9) rfl (by decide +kernel) rfl rfl (Nat.le_of_ble_eq_true rfl) dX3_run_25 (fun H locs hP hD hS => ?_)
  replace hP : va_P E.1 vwCl (List.flatten [[(r0, .inr (3, [.ref (ar 0), .ref (aw 0), .int (0 : Int32), .int (0 : Int32), .int (0 : Int32), .int (0 : Int32)]))], wHuT E ar xr_2, wHuT E aw xw, wTx E x0 x1 x2 ch tl nu le nx, wHuT E an xn]) H := hP
  replace hD : va_D A (List.flatten [[(r0, .inr (3, [.ref (ar 0), .ref (aw 0), .int (0 : Int32), .int (0 : Int32), .int (0 : Int32), .int (0 : Int32)]))], wHuT E ar xr_2, wHuT E aw xw, wTx E x0 x1 x2 ch tl nu le nx, wHuT E an xn]) := hD
  refine lv_iconst (v := (0 : Int32)) hx hb dX3_run_28 (by decide) ?_
  refine lv_istore_n (lv' := [(3, .int (0 : Int32)), (0, .ref r0), (1, .ref x0), (2, .ref (an 0))]) hx hb dX3_run_29 rfl hl (by decide) rfl (fun ls hl => ?_)
  refine gl8_e h (fun S_rec4 hS_rec4 h => ?_)
  have hL_rec4 : ∀ (nF : Nat) (v5 : Int32) (cmd6 : Int32) (pos7 : Int32) (xr8 : HutS) (xw9 : HutS) (nu10 : Nat → Int32) (le11 : Int32) (nx12 : Int32) (H : Heap) (locs : List Loc) (ls : Array Slot), va_P E.1 vwCl (List.flatten [[(r0, .inr (3, [.ref (ar 0), .ref (aw 0), .int cmd6, .int pos7, .int (0 : Int32), .int (0 : Int32)]))], wHuT E ar xr8, wHuT E aw xw9, wTx E x0 x1 x2 ch tl nu10 le11 nx12, wHuT E an xn]) H → va_S A s.heap H locs → lv_has ls 5 [(3, .int v5), (0, .ref r0), (1, .ref x0)] → gl8 S_rec4 nF v5 cmd6 pos7 xr8 xw9 nu10 le11 nx12 = some res → W p l e ({ frames := 5, cells := 0, slots := 0, locals := 124 } : Room) s m args below meth c H locs 0 0 Q (F0 m 30 ls []) := by
    intro nF
    induction nF with
    | zero => intro v5 cmd6 pos7 xr8 xw9 nu10 le11 nx12 H locs ls hP hS hl h; exact gl8_z h
    | succ nF ih_rec4 =>
      intro v5 cmd6 pos7 xr8 xw9 nu10 le11 nx12 H locs ls hP hS hl h
      replace hD : va_D A (List.flatten [[(r0, .inr (3, [.ref (ar 0), .ref (aw 0), .int cmd6, .int pos7, .int (0 : Int32), .int (0 : Int32)]))], wHuT E ar xr8, wHuT E aw xw9, wTx E x0 x1 x2 ch tl nu10 le11 nx12, wHuT E an xn]) := gD_same hD rfl
      replace h : S_rec4 (gl8 S_rec4 nF) v5 cmd6 pos7 xr8 xw9 nu10 le11 nx12 = some res := h
      generalize gl8 S_rec4 nF = rec4 at h ih_rec4
      subst hS_rec4
      unfold sX3_run_rec4 at h
      refine lv_iload_n hx hb dX3_run_30 rfl (lv_at hl 0 rfl) ?_
      refine lv_bipush (v := (60 : Int32)) hx hb dX3_run_31 (by decide) ?_
      refine lv_icmp_ge (tgt := 119) hx hb dX3_run_33 (by decide) (fun hc13 => ?_) (fun hc13 => ?_)
      · replace h := g_it hc13 h
        exact hret (cmd6, pos7, (0 : Int32), (0 : Int32), xr8, xw9, nu10, le11, nx12) _ _ _ _ (Option.some.inj h) hP hS dX3_run_119
      · replace h := g_if hc13 h
        refine lv_aload_n hx hb dX3_run_36 rfl (lv_at hl 1 rfl) ?_
        refine va_get (D := E.1) (cl := vwCl) (ci := 3) (v := .int pos7) (C := RX3) (T := TX3) (N := 6) hx hb hts hiX3 hown hK hP 0 rfl rfl 3 (by decide) hw2 (fun _ h9 => h9) rfl dX3_run_37 ?_
        refine lv_aload_n hx hb dX3_run_40 rfl (lv_at hl 2 rfl) ?_
        refine va_get (D := E.1) (cl := vwCl) (ci := 5) (v := .int tl) (C := RX5) (T := TX5) (N := 5) hx hb hts hiX5 hown hK hP 41 rfl rfl 1 (by decide) hw5 (fun _ h9 => h9) rfl dX3_run_41 ?_
        refine lv_icmp_ge (tgt := 119) hx hb dX3_run_44 (by decide) (fun hc14 => ?_) (fun hc14 => ?_)
        · replace h := g_it hc14 h
          exact hret (cmd6, pos7, (0 : Int32), (0 : Int32), xr8, xw9, nu10, le11, nx12) _ _ _ _ (Option.some.inj h) hP hS dX3_run_119
        · replace h := g_if hc14 h
          refine lv_aload_n hx hb dX3_run_47 rfl (lv_at hl 2 rfl) ?_
          refine lv_aload_n hx hb dX3_run_48 rfl (lv_at hl 1 rfl) ?_
          refine va_get (D := E.1) (cl := vwCl) (ci := 3) (v := .int pos7) (C := RX3) (T := TX3) (N := 6) hx hb hts hiX3 hown hK hP 0 rfl rfl 3 (by decide) hw2 (fun _ h9 => h9) rfl dX3_run_49 ?_
          obtain ⟨r15, nu16, le17, nx18, hc19, h⟩ := bd4_s h
          refine g_call1i (As := [.int pos7]) (rest := []) (r := r15) (bs1 := [[(r0, .inr (3, [.ref (ar 0), .ref (aw 0), .int cmd6, .int pos7, .int (0 : Int32), .int (0 : Int32)]))], wHuT E ar xr8, wHuT E aw xw9, wTx E x0 x1 x2 ch tl nu16 le17 nx18, wHuT E an xn]) ⟨hx, hb, hml, hown, hts⟩ (kX5_readCommand E l x0 x1 x2 ch tl nu10 le11 nx12 pos7 (r15, nu16, le17, nx18) hc19) (cwV 1 hts gX3_run_X5_readCommand rfl rfl rfl (by decide +kernel) ⟨Nat.le_of_ble_eq_true rfl, Nat.le_of_ble_eq_true rfl⟩) hK hP hD hS hA hG hl 3 0 (ci := 5) rfl rfl rfl rfl rfl rfl rfl rfl rfl (Nat.le_of_ble_eq_true rfl) dX3_run_52 (Nat.zero_le _) (Nat.zero_le _) (fun H locs hP hD hS => ?_)
          refine lv_if_ne (tgt := 64) hx hb dX3_run_55 (by decide) (fun hc20 => ?_) (fun hc20 => ?_)
          · replace h := g_if hc20 h
            refine lv_aload_n hx hb dX3_run_64 rfl (lv_at hl 1 rfl) ?_
            refine lv_aload_n hx hb dX3_run_65 rfl (lv_at hl 2 rfl) ?_
            refine va_get (D := E.1) (cl := vwCl) (ci := 5) (v := .int le17) (C := RX5) (T := TX5) (N := 5) hx hb hts hiX5 hown hK hP 41 rfl rfl 3 (by decide) hw6 (fun _ h9 => h9) rfl dX3_run_66 ?_
            refine lv_aload_n hx hb dX3_run_69 rfl (lv_at hl 2 rfl) ?_
            refine va_get (D := E.1) (cl := vwCl) (ci := 5) (v := .ref x2) (C := RX5) (T := TX5) (N := 5) hx hb hts hiX5 hown hK hP 41 rfl rfl 2 (by decide) hw7 (fun _ h9 => h9) rfl dX3_run_70 ?_
            obtain ⟨r21, xr_23, xw_25, hc26, h⟩ := bd3_s h
            refine g_callBi (As := [.int le17, .ref x2]) (rest := []) (r := r21) (bs1 := [[(r0, .inr (3, [.ref (ar 0), .ref (aw 0), .int cmd6, .int pos7, .int (0 : Int32), .int (0 : Int32)]))], wHuT E ar xr_23, wHuT E aw xw_25, wTx E x0 x1 x2 ch tl nu16 le17 nx18, wHuT E an xn]) ⟨hx, hb, hml, hown, hts⟩ (kX3_obey E l x0 x1 x2 r0 ar aw cmd6 pos7 (0 : Int32) (0 : Int32) xr8 xw9 ch tl nu16 le17 nx18 le17 (r21, xr_23, xw_25) hc26) (cwV 2 hts gX3_run_X3_obey rfl rfl rfl (by decide +kernel) ⟨Nat.le_of_ble_eq_true rfl, Nat.le_of_ble_eq_true rfl⟩) hK hP hD hS hA hG hl [0, 1, 2, 3] 0 0 (by decide) rfl (ci := 3) rfl rfl rfl rfl rfl rfl rfl rfl rfl rfl (Nat.le_of_ble_eq_true rfl) dX3_run_73 (Nat.zero_le _) (Nat.zero_le _) (fun H locs hP hD hS => ?_)
            refine lv_istore (lv' := [(4, .int r21), (3, .int v5), (0, .ref r0), (1, .ref x0)]) hx hb dX3_run_76 hl (by decide) rfl (fun ls hl => ?_)
            refine lv_iload hx hb dX3_run_78 (lv_at hl 0 rfl) ?_
            refine lv_if_ge (tgt := 95) hx hb dX3_run_80 (by decide) (fun hc27 => ?_) (fun hc27 => ?_)
            · replace h := g_it hc27 h
              refine lv_aload_n hx hb dX3_run_95 rfl (lv_at hl 2 rfl) ?_
              refine lv_dup hx hb dX3_run_96 rfl ?_
              refine va_get (D := E.1) (cl := vwCl) (ci := 3) (v := .int cmd6) (C := RX3) (T := TX3) (N := 6) hx hb hts hiX3 hown hK hP 0 rfl rfl 2 (by decide) hw1 (fun _ h9 => h9) rfl dX3_run_97 ?_
              refine lv_iconst (v := (1 : Int32)) hx hb dX3_run_100 (by decide) ?_
              refine lv_iadd hx hb dX3_run_101 ?_
              refine lv_topi (fun v28 e_v28 => ?_)
              replace h := jl_s e_v28 h
              refine va_put (D := E.1) (cl := vwCl) (ci := 3) (v := .int v28) (ty := .int) (C := RX3) (T := TX3) (N := 6) hx hb hts hiX3 tyX3 tyX3_ok nmX3 hown hK hP hD hS 0 rfl rfl 2 (by decide) hw1 (fun _ h9 => h9) rfl (by decide +kernel) rfl rfl (Nat.le_of_ble_eq_true rfl) dX3_run_102 (fun H locs hP hD hS => ?_)
              replace hP : va_P E.1 vwCl (List.flatten [[(r0, .inr (3, [.ref (ar 0), .ref (aw 0), .int v28, .int pos7, .int (0 : Int32), .int (0 : Int32)]))], wHuT E ar xr_23, wHuT E aw xw_25, wTx E x0 x1 x2 ch tl nu16 le17 nx18, wHuT E an xn]) H := hP
              replace hD : va_D A (List.flatten [[(r0, .inr (3, [.ref (ar 0), .ref (aw 0), .int v28, .int pos7, .int (0 : Int32), .int (0 : Int32)]))], wHuT E ar xr_23, wHuT E aw xw_25, wTx E x0 x1 x2 ch tl nu16 le17 nx18, wHuT E an xn]) := hD
              refine lv_aload_n hx hb dX3_run_105 rfl (lv_at hl 2 rfl) ?_
              refine lv_aload_n hx hb dX3_run_106 rfl (lv_at hl 3 rfl) ?_
              refine va_get (D := E.1) (cl := vwCl) (ci := 5) (v := .int nx18) (C := RX5) (T := TX5) (N := 5) hx hb hts hiX5 hown hK hP 41 rfl rfl 4 (by decide) hw8 (fun _ h9 => h9) rfl dX3_run_107 ?_
              refine va_put (D := E.1) (cl := vwCl) (ci := 3) (v := .int nx18) (ty := .int) (C := RX3) (T := TX3) (N := 6) hx hb hts hiX3 tyX3 tyX3_ok nmX3 hown hK hP hD hS 0 rfl rfl 3 (by decide) hw2 (fun _ h9 => h9) rfl (by decide +kernel) rfl rfl (Nat.le_of_ble_eq_true rfl) dX3_run_110 (fun H locs hP hD hS => ?_)
              replace hP : va_P E.1 vwCl (List.flatten [[(r0, .inr (3, [.ref (ar 0), .ref (aw 0), .int v28, .int nx18, .int (0 : Int32), .int (0 : Int32)]))], wHuT E ar xr_23, wHuT E aw xw_25, wTx E x0 x1 x2 ch tl nu16 le17 nx18, wHuT E an xn]) H := hP
              replace hD : va_D A (List.flatten [[(r0, .inr (3, [.ref (ar 0), .ref (aw 0), .int v28, .int nx18, .int (0 : Int32), .int (0 : Int32)]))], wHuT E ar xr_23, wHuT E aw xw_25, wTx E x0 x1 x2 ch tl nu16 le17 nx18, wHuT E an xn]) := hD
              obtain ⟨v29, e_v29⟩ : ∃ y : Int32, y = (v5 + (1 : Int32)) := ⟨_, rfl⟩
              replace h := jl_s e_v29 h
              refine lv_iinc (v := v29) (lv' := [(3, .int v29), (4, .int r21), (0, .ref r0), (1, .ref x0)]) hx hb dX3_run_113 hl (k := 1) rfl (by rw [e_v29]; rfl) (by decide) rfl (fun ls hl => ?_)
              refine lv_goto (tgt := 30) hx hb dX3_run_116 (by decide) ?_
              exact ih_rec4 v29 v28 nx18 xr_23 xw_25 nu16 le17 nx18 _ _ _ hP hS (lv_sub hl [0, 2, 3] rfl) h
            · replace h := g_if hc27 h
              refine lv_aload_n hx hb dX3_run_83 rfl (lv_at hl 2 rfl) ?_
              refine lv_iconst (v := (2 : Int32)) hx hb dX3_run_84 (by decide) ?_
              refine va_put (D := E.1) (cl := vwCl) (ci := 3) (v := .int (2 : Int32)) (ty := .int) (C := RX3) (T := TX3) (N := 6) hx hb hts hiX3 tyX3 tyX3_ok nmX3 hown hK hP hD hS 0 rfl rfl 4 (by decide) hw3 (fun _ h9 => h9) rfl (by decide +kernel) rfl rfl (Nat.le_of_ble_eq_true rfl) dX3_run_85 (fun H locs hP hD hS => ?_)
              replace hP : va_P E.1 vwCl (List.flatten [[(r0, .inr (3, [.ref (ar 0), .ref (aw 0), .int cmd6, .int pos7, .int (2 : Int32), .int (0 : Int32)]))], wHuT E ar xr_23, wHuT E aw xw_25, wTx E x0 x1 x2 ch tl nu16 le17 nx18, wHuT E an xn]) H := hP
              replace hD : va_D A (List.flatten [[(r0, .inr (3, [.ref (ar 0), .ref (aw 0), .int cmd6, .int pos7, .int (2 : Int32), .int (0 : Int32)]))], wHuT E ar xr_23, wHuT E aw xw_25, wTx E x0 x1 x2 ch tl nu16 le17 nx18, wHuT E an xn]) := hD
              refine lv_aload_n hx hb dX3_run_88 rfl (lv_at hl 2 rfl) ?_
              refine lv_iload hx hb dX3_run_89 (lv_at hl 0 rfl) ?_
              refine va_put (D := E.1) (cl := vwCl) (ci := 3) (v := .int r21) (ty := .int) (C := RX3) (T := TX3) (N := 6) hx hb hts hiX3 tyX3 tyX3_ok nmX3 hown hK hP hD hS 0 rfl rfl 5 (by decide) hw4 (fun _ h9 => h9) rfl (by decide +kernel) rfl rfl (Nat.le_of_ble_eq_true rfl) dX3_run_91 (fun H locs hP hD hS => ?_)
              replace hP : va_P E.1 vwCl (List.flatten [[(r0, .inr (3, [.ref (ar 0), .ref (aw 0), .int cmd6, .int pos7, .int (2 : Int32), .int r21]))], wHuT E ar xr_23, wHuT E aw xw_25, wTx E x0 x1 x2 ch tl nu16 le17 nx18, wHuT E an xn]) H := hP
              replace hD : va_D A (List.flatten [[(r0, .inr (3, [.ref (ar 0), .ref (aw 0), .int cmd6, .int pos7, .int (2 : Int32), .int r21]))], wHuT E ar xr_23, wHuT E aw xw_25, wTx E x0 x1 x2 ch tl nu16 le17 nx18, wHuT E an xn]) := hD
              exact hret (cmd6, pos7, (2 : Int32), r21, xr_23, xw_25, nu16, le17, nx18) _ _ _ _ (Option.some.inj h) hP hS dX3_run_94
          · replace h := g_it hc20 h
            refine lv_aload_n hx hb dX3_run_58 rfl (lv_at hl 1 rfl) ?_
            refine lv_iconst (v := (1 : Int32)) hx hb dX3_run_59 (by decide) ?_
            refine va_put (D := E.1) (cl := vwCl) (ci := 3) (v := .int (1 : Int32)) (ty := .int) (C := RX3) (T := TX3) (N := 6) hx hb hts hiX3 tyX3 tyX3_ok nmX3 hown hK hP hD hS 0 rfl rfl 4 (by decide) hw3 (fun _ h9 => h9) rfl (by decide +kernel) rfl rfl (Nat.le_of_ble_eq_true rfl) dX3_run_60 (fun H locs hP hD hS => ?_)
            replace hP : va_P E.1 vwCl (List.flatten [[(r0, .inr (3, [.ref (ar 0), .ref (aw 0), .int cmd6, .int pos7, .int (1 : Int32), .int (0 : Int32)]))], wHuT E ar xr8, wHuT E aw xw9, wTx E x0 x1 x2 ch tl nu16 le17 nx18, wHuT E an xn]) H := hP
            replace hD : va_D A (List.flatten [[(r0, .inr (3, [.ref (ar 0), .ref (aw 0), .int cmd6, .int pos7, .int (1 : Int32), .int (0 : Int32)]))], wHuT E ar xr8, wHuT E aw xw9, wTx E x0 x1 x2 ch tl nu16 le17 nx18, wHuT E an xn]) := hD
            exact hret (cmd6, pos7, (1 : Int32), (0 : Int32), xr8, xw9, nu16, le17, nx18) _ _ _ _ (Option.some.inj h) hP hS dX3_run_63
  exact hL_rec4 gFU (0 : Int32) (0 : Int32) (0 : Int32) xr_2 xw nu le nx _ _ _ hP hS (lv_sub hl [0, 1, 2] rfl) h
set_option maxHeartbeats 4000000 in
set_option maxRecDepth 100000 in
theorem kX6_recorded (E : gE) (l : Launch) (g0 q0 q1 x0 r0 : Nat) (an au ap : Nat → Nat) (ba : Nat → Nat → Nat) (ke : Int32) (lnn : Int32) (pm : Nat → Nat) (h0 : HutS) (h1 : HutS) (h2 : HutS) (h3 : HutS) (h4 : HutS) (p1 : Int32) (res : Int32 × Int32 × (Nat → Nat)) (h : fX6_recorded lnn pm p1 = some res) : gMI E l yX6_recorded wsX6_recorded ({ frames := 1, cells := 0, slots := 0, locals := 22 } : Room) [.ref g0, .int p1] (List.flatten [[(g0, .inr (6, [.ref (an 0), .ref (au 0), .ref (ap 0), .ref q0, .ref x0, .ref r0, .int ke]))], [(q0, .inr (0, [.ref q1, .int lnn]))], wHa E q1 ba pm, wHuT E (ba 0) h0, wHuT E (ba 1) h1, wHuT E (ba 2) h2, wHuT E (ba 3) h3, wHuT E (ba 4) h4]) (fun res : Int32 × Int32 × (Nat → Nat) => (List.flatten [[(g0, .inr (6, [.ref (an 0), .ref (au 0), .ref (ap 0), .ref q0, .ref x0, .ref r0, .int ke]))], [(q0, .inr (0, [.ref q1, .int res.2.1]))], wHa E q1 ba res.2.2, wHuT E (ba 0) h0, wHuT E (ba 1) h1, wHuT E (ba 2) h2, wHuT E (ba 3) h3, wHuT E (ba 4) h4])) (fun res => res.1) res := by
  refine g_entI (cc := cX6_recorded) (maxL := 2) (by decide) rfl (Nat.le_of_ble_eq_true rfl) ?_
  intro p e s m args below meth c A Q ls hx hb hml hown hts hK hP hD hS hA hG hret hl
  unfold fX6_recorded at h
  replace hl : lv_has ls 2 [(0, .ref g0), (1, .int p1)] := hl
  have hiX6 : ∀ w ∈ wsX60, w ∈ wsX6_recorded := by decide +kernel
  have hw0 := hts (.fieldLink RX6 25 "GlacierHut" "history" "LGlacierHut$History;") (by decide +kernel)
  refine lv_iload_n hx hb dX6_recorded_0 rfl (lv_at hl 1 rfl) ?_
  refine lv_if_lt (tgt := 11) hx hb dX6_recorded_1 (by decide) (fun hc1 => ?_) (fun hc1 => ?_)
  · replace h := g_it hc1 h
    refine lv_iload_n hx hb dX6_recorded_11 rfl (lv_at hl 1 rfl) ?_
    exact hret (p1, lnn, pm) _ _ _ _ _ (Option.some.inj h) hP hS rfl dX6_recorded_12
  · replace h := g_if hc1 h
    refine lv_aload_n hx hb dX6_recorded_4 rfl (lv_at hl 0 rfl) ?_
    refine va_get (D := E.1) (cl := vwCl) (ci := 6) (v := .ref q0) (C := RX6) (T := TX6) (N := 7) hx hb hts hiX6 hown hK hP 0 rfl rfl 3 (by decide) hw0 (fun _ h9 => h9) rfl dX6_recorded_5 ?_
    obtain ⟨lnn_3, pm_5, hc6, h⟩ := bd2_s h
    refine g_callBv (As := []) (rest := []) (bs1 := [[(g0, .inr (6, [.ref (an 0), .ref (au 0), .ref (ap 0), .ref q0, .ref x0, .ref r0, .int ke]))], [(q0, .inr (0, [.ref q1, .int lnn_3]))], wHa E q1 ba pm_5, wHuT E (ba 0) h0, wHuT E (ba 1) h1, wHuT E (ba 2) h2, wHuT E (ba 3) h3, wHuT E (ba 4) h4]) ⟨hx, hb, hml, hown, hts⟩ (kX0_commit E l q0 q1 ba lnn pm h0 h1 h2 h3 h4 (lnn_3, pm_5) hc6) (cwV 0 hts gX6_recorded_X0_commit rfl rfl rfl (by decide +kernel) ⟨Nat.le_of_ble_eq_true rfl, Nat.le_of_ble_eq_true rfl⟩) hK hP hD hS hA hG hl [1, 2, 3, 4, 5, 6, 7] 1 0 (by decide) rfl (ci := 0) rfl rfl rfl rfl rfl rfl rfl rfl rfl (Nat.le_of_ble_eq_true rfl) dX6_recorded_8 (Nat.zero_le _) (Nat.zero_le _) (fun H locs hP hD hS => ?_)
    refine lv_iload_n hx hb dX6_recorded_11 rfl (lv_at hl 1 rfl) ?_
    exact hret (p1, lnn_3, pm_5) _ _ _ _ _ (Option.some.inj h) hP hS rfl dX6_recorded_12
set_option maxHeartbeats 4000000 in
set_option maxRecDepth 100000 in
theorem kX6_book (E : gE) (l : Launch) (g0 q0 q1 x0 x1 x2 r0 : Nat) (an au ap ar aw : Nat → Nat) (ba : Nat → Nat → Nat) (ke : Int32) (lnn : Int32) (pm : Nat → Nat) (ch : Nat → Int32) (tl : Int32) (nu : Nat → Int32) (le : Int32) (nx : Int32) (cmd : Int32) (pos : Int32) (rea : Int32) (cau : Int32) (xn : HutS) (xt : HutS) (xp : HutS) (xr : HutS) (xw : HutS) (h0 : HutS) (h1 : HutS) (h2 : HutS) (h3 : HutS) (h4 : HutS) (p1 : Int32) (p2 : Int32) (p3 : Int32) (res : Int32 × Int32 × (Nat → Nat) × HutS × HutS × HutS × HutS × HutS × HutS × HutS) (h : fX6_book lnn pm xn xt h0 h1 h2 h3 h4 p1 p2 p3 = some res) : gMI E l yX6_book wsX6_book ({ frames := 4, cells := 0, slots := 0, locals := 102 } : Room) [.ref g0, .int p1, .int p2, .int p3] (List.flatten [[(g0, .inr (6, [.ref (an 0), .ref (au 0), .ref (ap 0), .ref q0, .ref x0, .ref r0, .int ke]))], [(q0, .inr (0, [.ref q1, .int lnn]))], wHa E q1 ba pm, wTx E x0 x1 x2 ch tl nu le nx, [(r0, .inr (3, [.ref (ar 0), .ref (aw 0), .int cmd, .int pos, .int rea, .int cau]))], wHuT E an xn, wHuT E au xt, wHuT E ap xp, wHuT E ar xr, wHuT E aw xw, wHuT E (ba 0) h0, wHuT E (ba 1) h1, wHuT E (ba 2) h2, wHuT E (ba 3) h3, wHuT E (ba 4) h4]) (fun res : Int32 × Int32 × (Nat → Nat) × HutS × HutS × HutS × HutS × HutS × HutS × HutS => (List.flatten [[(g0, .inr (6, [.ref (an 0), .ref (au 0), .ref (ap 0), .ref q0, .ref x0, .ref r0, .int ke]))], [(q0, .inr (0, [.ref q1, .int res.2.1]))], wHa E q1 ba res.2.2.1, wTx E x0 x1 x2 ch tl nu le nx, [(r0, .inr (3, [.ref (ar 0), .ref (aw 0), .int cmd, .int pos, .int rea, .int cau]))], wHuT E an res.2.2.2.1, wHuT E au res.2.2.2.2.1, wHuT E ap xp, wHuT E ar xr, wHuT E aw xw, wHuT E (ba 0) res.2.2.2.2.2.1, wHuT E (ba 1) res.2.2.2.2.2.2.1, wHuT E (ba 2) res.2.2.2.2.2.2.2.1, wHuT E (ba 3) res.2.2.2.2.2.2.2.2.1, wHuT E (ba 4) res.2.2.2.2.2.2.2.2.2])) (fun res => res.1) res := by
  refine g_entI (cc := cX6_book) (maxL := 4) (by decide) rfl (Nat.le_of_ble_eq_true rfl) ?_
  intro p e s m args below meth c A Q ls hx hb hml hown hts hK hP hD hS hA hG hret hl
  unfold fX6_book at h
  replace hl : lv_has ls 4 [(0, .ref g0), (1, .int p1), (2, .int p2), (3, .int p3)] := hl
  have hiX6 : ∀ w ∈ wsX60, w ∈ wsX6_book := by decide +kernel
  have hw0 := hts (.fieldLink RX6 25 "GlacierHut" "history" "LGlacierHut$History;") (by decide +kernel)
  have hw1 := hts (.fieldLink RX6 10 "GlacierHut" "now" "LGlacierHut$Hut;") (by decide +kernel)
  have hw2 := hts (.fieldLink RX6 16 "GlacierHut" "trial" "LGlacierHut$Hut;") (by decide +kernel)
  refine lv_aload_n hx hb dX6_book_0 rfl (lv_at hl 0 rfl) ?_
  refine va_get (D := E.1) (cl := vwCl) (ci := 6) (v := .ref q0) (C := RX6) (T := TX6) (N := 7) hx hb hts hiX6 hown hK hP 0 rfl rfl 3 (by decide) hw0 (fun _ h9 => h9) rfl dX6_book_1 ?_
  refine lv_aload_n hx hb dX6_book_4 rfl (lv_at hl 0 rfl) ?_
  refine va_get (D := E.1) (cl := vwCl) (ci := 6) (v := .ref (an 0)) (C := RX6) (T := TX6) (N := 7) hx hb hts hiX6 hown hK hP 0 rfl rfl 0 (by decide) hw1 (fun _ h9 => h9) rfl dX6_book_5 ?_
  obtain ⟨h0_2, h1_4, h2_6, h3_8, h4_10, hc11, h⟩ := bd5_s h
  refine g_callBv (As := [.ref (an 0)]) (rest := []) (bs1 := [[(g0, .inr (6, [.ref (an 0), .ref (au 0), .ref (ap 0), .ref q0, .ref x0, .ref r0, .int ke]))], [(q0, .inr (0, [.ref q1, .int lnn]))], wHa E q1 ba pm, wTx E x0 x1 x2 ch tl nu le nx, [(r0, .inr (3, [.ref (ar 0), .ref (aw 0), .int cmd, .int pos, .int rea, .int cau]))], wHuT E an xn, wHuT E au xt, wHuT E ap xp, wHuT E ar xr, wHuT E aw xw, wHuT E (ba 0) h0_2, wHuT E (ba 1) h1_4, wHuT E (ba 2) h2_6, wHuT E (ba 3) h3_8, wHuT E (ba 4) h4_10]) ⟨hx, hb, hml, hown, hts⟩ (kX0_prepare E l q0 q1 an ba lnn pm h0 h1 h2 h3 h4 xn (h0_2, h1_4, h2_6, h3_8, h4_10) hc11) (cwV 1 hts gX6_book_X0_prepare rfl rfl rfl (by decide +kernel) ⟨Nat.le_of_ble_eq_true rfl, Nat.le_of_ble_eq_true rfl⟩) hK hP hD hS hA hG hl [1, 2, 10, 11, 12, 13, 14, 5] 1 0 (by decide) rfl (ci := 0) rfl rfl rfl rfl rfl rfl rfl rfl rfl (Nat.le_of_ble_eq_true rfl) dX6_book_8 (Nat.zero_le _) (Nat.zero_le _) (fun H locs hP hD hS => ?_)
  refine lv_aload_n hx hb dX6_book_11 rfl (lv_at hl 0 rfl) ?_
  refine lv_aload_n hx hb dX6_book_12 rfl (lv_at hl 0 rfl) ?_
  refine va_get (D := E.1) (cl := vwCl) (ci := 6) (v := .ref (an 0)) (C := RX6) (T := TX6) (N := 7) hx hb hts hiX6 hown hK hP 0 rfl rfl 0 (by decide) hw1 (fun _ h9 => h9) rfl dX6_book_13 ?_
  refine lv_iload_n hx hb dX6_book_16 rfl (lv_at hl 1 rfl) ?_
  refine lv_iload_n hx hb dX6_book_17 rfl (lv_at hl 2 rfl) ?_
  refine lv_iload_n hx hb dX6_book_18 rfl (lv_at hl 3 rfl) ?_
  refine lv_aload_n hx hb dX6_book_19 rfl (lv_at hl 0 rfl) ?_
  refine va_get (D := E.1) (cl := vwCl) (ci := 6) (v := .ref (au 0)) (C := RX6) (T := TX6) (N := 7) hx hb hts hiX6 hown hK hP 0 rfl rfl 1 (by decide) hw2 (fun _ h9 => h9) rfl dX6_book_20 ?_
  obtain ⟨r12, xn_14, xt_16, hc17, h⟩ := bd3_s h
  refine g_callBi (As := [.int p1, .int p2, .int p3, .ref (au 0)]) (rest := [.ref g0]) (r := r12) (bs1 := [[(g0, .inr (6, [.ref (an 0), .ref (au 0), .ref (ap 0), .ref q0, .ref x0, .ref r0, .int ke]))], [(q0, .inr (0, [.ref q1, .int lnn]))], wHa E q1 ba pm, wTx E x0 x1 x2 ch tl nu le nx, [(r0, .inr (3, [.ref (ar 0), .ref (aw 0), .int cmd, .int pos, .int rea, .int cau]))], wHuT E an xn_14, wHuT E au xt_16, wHuT E ap xp, wHuT E ar xr, wHuT E aw xw, wHuT E (ba 0) h0_2, wHuT E (ba 1) h1_4, wHuT E (ba 2) h2_6, wHuT E (ba 3) h3_8, wHuT E (ba 4) h4_10]) ⟨hx, hb, hml, hown, hts⟩ (kgX1_takeBooking E l an au xn xt p1 p2 p3 (r12, xn_14, xt_16) hc17) (cwV 4 hts gX6_book_X1_takeBooking rfl rfl rfl (by decide +kernel) ⟨Nat.le_of_ble_eq_true rfl, Nat.le_of_ble_eq_true rfl⟩) hK hP hD hS hA hG hl [5, 6] 5 0 (by decide) rfl (ci := 1) rfl rfl rfl rfl rfl rfl rfl rfl rfl rfl (Nat.le_of_ble_eq_true rfl) dX6_book_23 (Nat.zero_le _) (Nat.zero_le _) (fun H locs hP hD hS => ?_)
  obtain ⟨r18, lnn_20, pm_22, hc23, h⟩ := bd3_s h
  refine g_callBi (As := [.int r12]) (rest := []) (r := r18) (bs1 := [[(g0, .inr (6, [.ref (an 0), .ref (au 0), .ref (ap 0), .ref q0, .ref x0, .ref r0, .int ke]))], [(q0, .inr (0, [.ref q1, .int lnn_20]))], wHa E q1 ba pm_22, wTx E x0 x1 x2 ch tl nu le nx, [(r0, .inr (3, [.ref (ar 0), .ref (aw 0), .int cmd, .int pos, .int rea, .int cau]))], wHuT E an xn_14, wHuT E au xt_16, wHuT E ap xp, wHuT E ar xr, wHuT E aw xw, wHuT E (ba 0) h0_2, wHuT E (ba 1) h1_4, wHuT E (ba 2) h2_6, wHuT E (ba 3) h3_8, wHuT E (ba 4) h4_10]) ⟨hx, hb, hml, hown, hts⟩ (kX6_recorded E l g0 q0 q1 x0 r0 an au ap ba ke lnn pm h0_2 h1_4 h2_6 h3_8 h4_10 r12 (r18, lnn_20, pm_22) hc23) (cwV 1 hts gX6_book_X6_recorded rfl rfl rfl (by decide +kernel) ⟨Nat.le_of_ble_eq_true rfl, Nat.le_of_ble_eq_true rfl⟩) hK hP hD hS hA hG hl [0, 1, 2, 10, 11, 12, 13, 14] 0 0 (by decide) rfl (ci := 6) rfl rfl rfl rfl rfl rfl rfl rfl rfl rfl (Nat.le_of_ble_eq_true rfl) dX6_book_26 (Nat.zero_le _) (Nat.zero_le _) (fun H locs hP hD hS => ?_)
  exact hret (r18, lnn_20, pm_22, xn_14, xt_16, h0_2, h1_4, h2_6, h3_8, h4_10) _ _ _ _ _ (Option.some.inj h) hP hS rfl dX6_book_29
set_option maxHeartbeats 4000000 in
set_option maxRecDepth 100000 in
theorem kX6_cancel (E : gE) (l : Launch) (g0 q0 q1 x0 x1 x2 r0 : Nat) (an au ap ar aw : Nat → Nat) (ba : Nat → Nat → Nat) (ke : Int32) (lnn : Int32) (pm : Nat → Nat) (ch : Nat → Int32) (tl : Int32) (nu : Nat → Int32) (le : Int32) (nx : Int32) (cmd : Int32) (pos : Int32) (rea : Int32) (cau : Int32) (xn : HutS) (xt : HutS) (xp : HutS) (xr : HutS) (xw : HutS) (h0 : HutS) (h1 : HutS) (h2 : HutS) (h3 : HutS) (h4 : HutS) (p1 : Int32) (res : Int32 × Int32 × (Nat → Nat) × HutS × HutS × HutS × HutS × HutS × HutS) (h : fX6_cancel lnn pm xn h0 h1 h2 h3 h4 p1 = some res) : gMI E l yX6_cancel wsX6_cancel ({ frames := 4, cells := 0, slots := 0, locals := 82 } : Room) [.ref g0, .int p1] (List.flatten [[(g0, .inr (6, [.ref (an 0), .ref (au 0), .ref (ap 0), .ref q0, .ref x0, .ref r0, .int ke]))], [(q0, .inr (0, [.ref q1, .int lnn]))], wHa E q1 ba pm, wTx E x0 x1 x2 ch tl nu le nx, [(r0, .inr (3, [.ref (ar 0), .ref (aw 0), .int cmd, .int pos, .int rea, .int cau]))], wHuT E an xn, wHuT E au xt, wHuT E ap xp, wHuT E ar xr, wHuT E aw xw, wHuT E (ba 0) h0, wHuT E (ba 1) h1, wHuT E (ba 2) h2, wHuT E (ba 3) h3, wHuT E (ba 4) h4]) (fun res : Int32 × Int32 × (Nat → Nat) × HutS × HutS × HutS × HutS × HutS × HutS => (List.flatten [[(g0, .inr (6, [.ref (an 0), .ref (au 0), .ref (ap 0), .ref q0, .ref x0, .ref r0, .int ke]))], [(q0, .inr (0, [.ref q1, .int res.2.1]))], wHa E q1 ba res.2.2.1, wTx E x0 x1 x2 ch tl nu le nx, [(r0, .inr (3, [.ref (ar 0), .ref (aw 0), .int cmd, .int pos, .int rea, .int cau]))], wHuT E an res.2.2.2.1, wHuT E au xt, wHuT E ap xp, wHuT E ar xr, wHuT E aw xw, wHuT E (ba 0) res.2.2.2.2.1, wHuT E (ba 1) res.2.2.2.2.2.1, wHuT E (ba 2) res.2.2.2.2.2.2.1, wHuT E (ba 3) res.2.2.2.2.2.2.2.1, wHuT E (ba 4) res.2.2.2.2.2.2.2.2])) (fun res => res.1) res := by
  refine g_entI (cc := cX6_cancel) (maxL := 2) (by decide) rfl (Nat.le_of_ble_eq_true rfl) ?_
  intro p e s m args below meth c A Q ls hx hb hml hown hts hK hP hD hS hA hG hret hl
  unfold fX6_cancel at h
  replace hl : lv_has ls 2 [(0, .ref g0), (1, .int p1)] := hl
  have hiX6 : ∀ w ∈ wsX60, w ∈ wsX6_cancel := by decide +kernel
  have hw0 := hts (.fieldLink RX6 25 "GlacierHut" "history" "LGlacierHut$History;") (by decide +kernel)
  have hw1 := hts (.fieldLink RX6 10 "GlacierHut" "now" "LGlacierHut$Hut;") (by decide +kernel)
  refine lv_aload_n hx hb dX6_cancel_0 rfl (lv_at hl 0 rfl) ?_
  refine va_get (D := E.1) (cl := vwCl) (ci := 6) (v := .ref q0) (C := RX6) (T := TX6) (N := 7) hx hb hts hiX6 hown hK hP 0 rfl rfl 3 (by decide) hw0 (fun _ h9 => h9) rfl dX6_cancel_1 ?_
  refine lv_aload_n hx hb dX6_cancel_4 rfl (lv_at hl 0 rfl) ?_
  refine va_get (D := E.1) (cl := vwCl) (ci := 6) (v := .ref (an 0)) (C := RX6) (T := TX6) (N := 7) hx hb hts hiX6 hown hK hP 0 rfl rfl 0 (by decide) hw1 (fun _ h9 => h9) rfl dX6_cancel_5 ?_
  obtain ⟨h0_2, h1_4, h2_6, h3_8, h4_10, hc11, h⟩ := bd5_s h
  refine g_callBv (As := [.ref (an 0)]) (rest := []) (bs1 := [[(g0, .inr (6, [.ref (an 0), .ref (au 0), .ref (ap 0), .ref q0, .ref x0, .ref r0, .int ke]))], [(q0, .inr (0, [.ref q1, .int lnn]))], wHa E q1 ba pm, wTx E x0 x1 x2 ch tl nu le nx, [(r0, .inr (3, [.ref (ar 0), .ref (aw 0), .int cmd, .int pos, .int rea, .int cau]))], wHuT E an xn, wHuT E au xt, wHuT E ap xp, wHuT E ar xr, wHuT E aw xw, wHuT E (ba 0) h0_2, wHuT E (ba 1) h1_4, wHuT E (ba 2) h2_6, wHuT E (ba 3) h3_8, wHuT E (ba 4) h4_10]) ⟨hx, hb, hml, hown, hts⟩ (kX0_prepare E l q0 q1 an ba lnn pm h0 h1 h2 h3 h4 xn (h0_2, h1_4, h2_6, h3_8, h4_10) hc11) (cwV 1 hts gX6_cancel_X0_prepare rfl rfl rfl (by decide +kernel) ⟨Nat.le_of_ble_eq_true rfl, Nat.le_of_ble_eq_true rfl⟩) hK hP hD hS hA hG hl [1, 2, 10, 11, 12, 13, 14, 5] 1 0 (by decide) rfl (ci := 0) rfl rfl rfl rfl rfl rfl rfl rfl rfl (Nat.le_of_ble_eq_true rfl) dX6_cancel_8 (Nat.zero_le _) (Nat.zero_le _) (fun H locs hP hD hS => ?_)
  refine lv_aload_n hx hb dX6_cancel_11 rfl (lv_at hl 0 rfl) ?_
  refine lv_aload_n hx hb dX6_cancel_12 rfl (lv_at hl 0 rfl) ?_
  refine va_get (D := E.1) (cl := vwCl) (ci := 6) (v := .ref (an 0)) (C := RX6) (T := TX6) (N := 7) hx hb hts hiX6 hown hK hP 0 rfl rfl 0 (by decide) hw1 (fun _ h9 => h9) rfl dX6_cancel_13 ?_
  refine lv_iload_n hx hb dX6_cancel_16 rfl (lv_at hl 1 rfl) ?_
  obtain ⟨r12, xn_14, hc15, h⟩ := bd2_s h
  refine g_callBi (As := [.int p1]) (rest := [.ref g0]) (r := r12) (bs1 := [[(g0, .inr (6, [.ref (an 0), .ref (au 0), .ref (ap 0), .ref q0, .ref x0, .ref r0, .int ke]))], [(q0, .inr (0, [.ref q1, .int lnn]))], wHa E q1 ba pm, wTx E x0 x1 x2 ch tl nu le nx, [(r0, .inr (3, [.ref (ar 0), .ref (aw 0), .int cmd, .int pos, .int rea, .int cau]))], wHuT E an xn_14, wHuT E au xt, wHuT E ap xp, wHuT E ar xr, wHuT E aw xw, wHuT E (ba 0) h0_2, wHuT E (ba 1) h1_4, wHuT E (ba 2) h2_6, wHuT E (ba 3) h3_8, wHuT E (ba 4) h4_10]) ⟨hx, hb, hml, hown, hts⟩ (kgX1_callOff E l an xn p1 (r12, xn_14) hc15) (cwV 1 hts gX6_cancel_X1_callOff rfl rfl rfl (by decide +kernel) ⟨Nat.le_of_ble_eq_true rfl, Nat.le_of_ble_eq_true rfl⟩) hK hP hD hS hA hG hl [5] 5 0 (by decide) rfl (ci := 1) rfl rfl rfl rfl rfl rfl rfl rfl rfl rfl (Nat.le_of_ble_eq_true rfl) dX6_cancel_17 (Nat.zero_le _) (Nat.zero_le _) (fun H locs hP hD hS => ?_)
  obtain ⟨r16, lnn_18, pm_20, hc21, h⟩ := bd3_s h
  refine g_callBi (As := [.int r12]) (rest := []) (r := r16) (bs1 := [[(g0, .inr (6, [.ref (an 0), .ref (au 0), .ref (ap 0), .ref q0, .ref x0, .ref r0, .int ke]))], [(q0, .inr (0, [.ref q1, .int lnn_18]))], wHa E q1 ba pm_20, wTx E x0 x1 x2 ch tl nu le nx, [(r0, .inr (3, [.ref (ar 0), .ref (aw 0), .int cmd, .int pos, .int rea, .int cau]))], wHuT E an xn_14, wHuT E au xt, wHuT E ap xp, wHuT E ar xr, wHuT E aw xw, wHuT E (ba 0) h0_2, wHuT E (ba 1) h1_4, wHuT E (ba 2) h2_6, wHuT E (ba 3) h3_8, wHuT E (ba 4) h4_10]) ⟨hx, hb, hml, hown, hts⟩ (kX6_recorded E l g0 q0 q1 x0 r0 an au ap ba ke lnn pm h0_2 h1_4 h2_6 h3_8 h4_10 r12 (r16, lnn_18, pm_20) hc21) (cwV 1 hts gX6_cancel_X6_recorded rfl rfl rfl (by decide +kernel) ⟨Nat.le_of_ble_eq_true rfl, Nat.le_of_ble_eq_true rfl⟩) hK hP hD hS hA hG hl [0, 1, 2, 10, 11, 12, 13, 14] 0 0 (by decide) rfl (ci := 6) rfl rfl rfl rfl rfl rfl rfl rfl rfl rfl (Nat.le_of_ble_eq_true rfl) dX6_cancel_20 (Nat.zero_le _) (Nat.zero_le _) (fun H locs hP hD hS => ?_)
  exact hret (r16, lnn_18, pm_20, xn_14, h0_2, h1_4, h2_6, h3_8, h4_10) _ _ _ _ _ (Option.some.inj h) hP hS rfl dX6_cancel_23
