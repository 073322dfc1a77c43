set_option maxHeartbeats 4000000 in
set_option maxRecDepth 100000 in
theorem kX2_add (E : gE) (l : Launch) (a0 a1 a2 a3 a4 a5 a6 : Nat) (zs : Nat → Int32) (zd : Nat → Int32) (zn : Nat → Int32) (zt : Nat → Int32) (zl : Nat → Int32) (zc : Nat → Int32) (nm : Int32) (p1 : Int32) (p2 : Int32) (p3 : Int32) (res : (Nat → Int32) × (Nat → Int32) × (Nat → Int32) × (Nat → Int32) × (Nat → Int32) × (Nat → Int32) × Int32) (h : fX2_add zs zd zn zt zl zc nm p1 p2 p3 = some res) : gMV E l yX2_add wsX2_add ({ frames := 0, cells := 0, slots := 0, locals := 0 } : Room) [.ref a0, .int p1, .int p2, .int p3] (wPa E a0 a1 a2 a3 a4 a5 a6 zs zd zn zt zl zc nm) (fun res : (Nat → Int32) × (Nat → Int32) × (Nat → Int32) × (Nat → Int32) × (Nat → Int32) × (Nat → Int32) × Int32 => (wPa E a0 a1 a2 a3 a4 a5 a6 res.1 res.2.1 res.2.2.1 res.2.2.2.1 res.2.2.2.2.1 res.2.2.2.2.2.1 res.2.2.2.2.2.2)) res := by
  refine g_entV (cc := cX2_add) (maxL := 4) (by decide) rfl (Nat.le_of_ble_eq_true rfl) ?_
  intro p e s m args below meth c A Q ls hx hb hml hown hts hK hP hD hS hA hG hret hl
  unfold fX2_add at h
  replace hl : lv_has ls 4 [(0, .ref a0), (1, .int p1), (2, .int p2), (3, .int p3)] := hl
  have hiX2 : ∀ w ∈ wsX20, w ∈ wsX2_add := by decide +kernel
  have hw0 := hts (.fieldLink RX2 34 "GlacierHut$Parties" "number" "I") (by decide +kernel)
  have hw1 := hts (.fieldLink RX2 9 "GlacierHut$Parties" "size" "[I") (by decide +kernel)
  have hw2 := hts (.fieldLink RX2 13 "GlacierHut$Parties" "day" "[I") (by decide +kernel)
  have hw3 := hts (.fieldLink RX2 16 "GlacierHut$Parties" "nights" "[I") (by decide +kernel)
  have hw4 := hts (.fieldLink RX2 19 "GlacierHut$Parties" "status" "[I") (by decide +kernel)
  have hw5 := hts (.fieldLink RX2 22 "GlacierHut$Parties" "slept" "[I") (by decide +kernel)
  have hw6 := hts (.fieldLink RX2 25 "GlacierHut$Parties" "came" "[I") (by decide +kernel)
  refine lv_aload_n hx hb dX2_add_0 rfl (lv_at hl 0 rfl) ?_
  refine va_get (D := E.1) (cl := vwCl) (ci := 2) (v := .int nm) (C := RX2) (T := TX2) (N := 7) hx hb hts hiX2 hown hK hP 0 rfl rfl 6 (by decide) hw0 (fun _ h9 => h9) rfl dX2_add_1 ?_
  refine lv_bipush (v := (17 : Int32)) hx hb dX2_add_4 (by decide) ?_
  refine lv_icmp_lt (tgt := 10) hx hb dX2_add_6 (by decide) (fun hc1 => ?_) (fun hc1 => ?_)
  · replace h := g_it hc1 h
    refine lv_aload_n hx hb dX2_add_10 rfl (lv_at hl 0 rfl) ?_
    refine va_get (D := E.1) (cl := vwCl) (ci := 2) (v := .ref a1) (C := RX2) (T := TX2) (N := 7) hx hb hts hiX2 hown hK hP 0 rfl rfl 0 (by decide) hw1 (fun _ h9 => h9) rfl dX2_add_11 ?_
    refine lv_aload_n hx hb dX2_add_14 rfl (lv_at hl 0 rfl) ?_
    refine va_get (D := E.1) (cl := vwCl) (ci := 2) (v := .int nm) (C := RX2) (T := TX2) (N := 7) hx hb hts hiX2 hown hK hP 0 rfl rfl 6 (by decide) hw0 (fun _ h9 => h9) rfl dX2_add_15 ?_
    refine lv_iload_n hx hb dX2_add_18 rfl (lv_at hl 1 rfl) ?_
    obtain ⟨hg2, h⟩ := gd_s h
    refine va_iast (D := E.1) (cl := vwCl) (tys := gT E) hx hb hK hP hD hS 1 0 rfl rfl (inB_in hg2) dX2_add_19 (fun H locs hP hD hS => ?_)
    obtain ⟨zs3, e_zs3⟩ : ∃ y : Nat → Int32, y = (upd zs (nm).toNatClampNeg p1) := ⟨_, rfl⟩
    replace h := jl_s e_zs3 h
    replace hP : va_P E.1 vwCl (wPa E a0 a1 a2 a3 a4 a5 a6 zs3 zd zn zt zl zc nm) H := (by rw [e_zs3]; exact hP)
    replace hD : va_D A (wPa E a0 a1 a2 a3 a4 a5 a6 zs3 zd zn zt zl zc nm) := gD_same hD rfl
    refine lv_aload_n hx hb dX2_add_20 rfl (lv_at hl 0 rfl) ?_
    refine va_get (D := E.1) (cl := vwCl) (ci := 2) (v := .ref a2) (C := RX2) (T := TX2) (N := 7) hx hb hts hiX2 hown hK hP 0 rfl rfl 1 (by decide) hw2 (fun _ h9 => h9) rfl dX2_add_21 ?_
    refine lv_aload_n hx hb dX2_add_24 rfl (lv_at hl 0 rfl) ?_
    refine va_get (D := E.1) (cl := vwCl) (ci := 2) (v := .int nm) (C := RX2) (T := TX2) (N := 7) hx hb hts hiX2 hown hK hP 0 rfl rfl 6 (by decide) hw0 (fun _ h9 => h9) rfl dX2_add_25 ?_
    refine lv_iload_n hx hb dX2_add_28 rfl (lv_at hl 2 rfl) ?_
    refine va_iast (D := E.1) (cl := vwCl) (tys := gT E) hx hb hK hP hD hS 2 0 rfl rfl (inB_in hg2) dX2_add_29 (fun H locs hP hD hS => ?_)
    obtain ⟨zd4, e_zd4⟩ : ∃ y : Nat → Int32, y = (upd zd (nm).toNatClampNeg p2) := ⟨_, rfl⟩
    replace h := jl_s e_zd4 h
    replace hP : va_P E.1 vwCl (wPa E a0 a1 a2 a3 a4 a5 a6 zs3 zd4 zn zt zl zc nm) H := (by rw [e_zd4]; exact hP)
    replace hD : va_D A (wPa E a0 a1 a2 a3 a4 a5 a6 zs3 zd4 zn zt zl zc nm) := gD_same hD rfl
    refine lv_aload_n hx hb dX2_add_30 rfl (lv_at hl 0 rfl) ?_
    refine va_get (D := E.1) (cl := vwCl) (ci := 2) (v := .ref a3) (C := RX2) (T := TX2) (N := 7) hx hb hts hiX2 hown hK hP 0 rfl rfl 2 (by decide) hw3 (fun _ h9 => h9) rfl dX2_add_31 ?_
    refine lv_aload_n hx hb dX2_add_34 rfl (lv_at hl 0 rfl) ?_
    refine va_get (D := E.1) (cl := vwCl) (ci := 2) (v := .int nm) (C := RX2) (T := TX2) (N := 7) hx hb hts hiX2 hown hK hP 0 rfl rfl 6 (by decide) hw0 (fun _ h9 => h9) rfl dX2_add_35 ?_
    refine lv_iload_n hx hb dX2_add_38 rfl (lv_at hl 3 rfl) ?_
    refine va_iast (D := E.1) (cl := vwCl) (tys := gT E) hx hb hK hP hD hS 3 0 rfl rfl (inB_in hg2) dX2_add_39 (fun H locs hP hD hS => ?_)
    obtain ⟨zn5, e_zn5⟩ : ∃ y : Nat → Int32, y = (upd zn (nm).toNatClampNeg p3) := ⟨_, rfl⟩
    replace h := jl_s e_zn5 h
    replace hP : va_P E.1 vwCl (wPa E a0 a1 a2 a3 a4 a5 a6 zs3 zd4 zn5 zt zl zc nm) H := (by rw [e_zn5]; exact hP)
    replace hD : va_D A (wPa E a0 a1 a2 a3 a4 a5 a6 zs3 zd4 zn5 zt zl zc nm) := gD_same hD rfl
    refine lv_aload_n hx hb dX2_add_40 rfl (lv_at hl 0 rfl) ?_
    refine va_get (D := E.1) (cl := vwCl) (ci := 2) (v := .ref a4) (C := RX2) (T := TX2) (N := 7) hx hb hts hiX2 hown hK hP 0 rfl rfl 3 (by decide) hw4 (fun _ h9 => h9) rfl dX2_add_41 ?_
    refine lv_aload_n hx hb dX2_add_44 rfl (lv_at hl 0 rfl) ?_
    refine va_get (D := E.1) (cl := vwCl) (ci := 2) (v := .int nm) (C := RX2) (T := TX2) (N := 7) hx hb hts hiX2 hown hK hP 0 rfl rfl 6 (by decide) hw0 (fun _ h9 => h9) rfl dX2_add_45 ?_
    refine lv_iconst (v := (0 : Int32)) hx hb dX2_add_48 (by decide) ?_
    refine va_iast (D := E.1) (cl := vwCl) (tys := gT E) hx hb hK hP hD hS 4 0 rfl rfl (inB_in hg2) dX2_add_49 (fun H locs hP hD hS => ?_)
    obtain ⟨zt6, e_zt6⟩ : ∃ y : Nat → Int32, y = (upd zt (nm).toNatClampNeg (0 : Int32)) := ⟨_, rfl⟩
    replace h := jl_s e_zt6 h
    replace hP : va_P E.1 vwCl (wPa E a0 a1 a2 a3 a4 a5 a6 zs3 zd4 zn5 zt6 zl zc nm) H := (by rw [e_zt6]; exact hP)
    replace hD : va_D A (wPa E a0 a1 a2 a3 a4 a5 a6 zs3 zd4 zn5 zt6 zl zc nm) := gD_same hD rfl
    refine lv_aload_n hx hb dX2_add_50 rfl (lv_at hl 0 rfl) ?_
    refine va_get (D := E.1) (cl := vwCl) (ci := 2) (v := .ref a5) (C := RX2) (T := TX2) (N := 7) hx hb hts hiX2 hown hK hP 0 rfl rfl 4 (by decide) hw5 (fun _ h9 => h9) rfl dX2_add_51 ?_
    refine lv_aload_n hx hb dX2_add_54 rfl (lv_at hl 0 rfl) ?_
    refine va_get (D := E.1) (cl := vwCl) (ci := 2) (v := .int nm) (C := RX2) (T := TX2) (N := 7) hx hb hts hiX2 hown hK hP 0 rfl rfl 6 (by decide) hw0 (fun _ h9 => h9) rfl dX2_add_55 ?_
    refine lv_iconst (v := (0 : Int32)) hx hb dX2_add_58 (by decide) ?_
    refine va_iast (D := E.1) (cl := vwCl) (tys := gT E) hx hb hK hP hD hS 5 0 rfl rfl (inB_in hg2) dX2_add_59 (fun H locs hP hD hS => ?_)
    obtain ⟨zl7, e_zl7⟩ : ∃ y : Nat → Int32, y = (upd zl (nm).toNatClampNeg (0 : Int32)) := ⟨_, rfl⟩
    replace h := jl_s e_zl7 h
    replace hP : va_P E.1 vwCl (wPa E a0 a1 a2 a3 a4 a5 a6 zs3 zd4 zn5 zt6 zl7 zc nm) H := (by rw [e_zl7]; exact hP)
    replace hD : va_D A (wPa E a0 a1 a2 a3 a4 a5 a6 zs3 zd4 zn5 zt6 zl7 zc nm) := gD_same hD rfl
    refine lv_aload_n hx hb dX2_add_60 rfl (lv_at hl 0 rfl) ?_
    refine va_get (D := E.1) (cl := vwCl) (ci := 2) (v := .ref a6) (C := RX2) (T := TX2) (N := 7) hx hb hts hiX2 hown hK hP 0 rfl rfl 5 (by decide) hw6 (fun _ h9 => h9) rfl dX2_add_61 ?_
    refine lv_aload_n hx hb dX2_add_64 rfl (lv_at hl 0 rfl) ?_
    refine va_get (D := E.1) (cl := vwCl) (ci := 2) (v := .int nm) (C := RX2) (T := TX2) (N := 7) hx hb hts hiX2 hown hK hP 0 rfl rfl 6 (by decide) hw0 (fun _ h9 => h9) rfl dX2_add_65 ?_
    refine lv_iconst (v := (-1 : Int32)) hx hb dX2_add_68 (by decide) ?_
    refine va_iast (D := E.1) (cl := vwCl) (tys := gT E) hx hb hK hP hD hS 6 0 rfl rfl (inB_in hg2) dX2_add_69 (fun H locs hP hD hS => ?_)
    obtain ⟨zc8, e_zc8⟩ : ∃ y : Nat → Int32, y = (upd zc (nm).toNatClampNeg (-1 : Int32)) := ⟨_, rfl⟩
    replace h := jl_s e_zc8 h
    replace hP : va_P E.1 vwCl (wPa E a0 a1 a2 a3 a4 a5 a6 zs3 zd4 zn5 zt6 zl7 zc8 nm) H := (by rw [e_zc8]; exact hP)
    replace hD : va_D A (wPa E a0 a1 a2 a3 a4 a5 a6 zs3 zd4 zn5 zt6 zl7 zc8 nm) := gD_same hD rfl
    refine lv_aload_n hx hb dX2_add_70 rfl (lv_at hl 0 rfl) ?_
    refine lv_dup hx hb dX2_add_71 rfl ?_
    refine va_get (D := E.1) (cl := vwCl) (ci := 2) (v := .int nm) (C := RX2) (T := TX2) (N := 7) hx hb hts hiX2 hown hK hP 0 rfl rfl 6 (by decide) hw0 (fun _ h9 => h9) rfl dX2_add_72 ?_
    refine lv_iconst (v := (1 : Int32)) hx hb dX2_add_75 (by decide) ?_
    refine lv_iadd hx hb dX2_add_76 ?_
    refine lv_topi (fun v9 e_v9 => ?_)
    replace h := jl_s e_v9 h
    refine va_put (D := E.1) (cl := vwCl) (ci := 2) (v := .int v9) (ty := .int) (C := RX2) (T := TX2) (N := 7) hx hb hts hiX2 tyX2 tyX2_ok nmX2 hown hK hP hD hS 0 rfl rfl 6 (by decide) hw0 (fun _ h9 => h9) rfl (by decide +kernel) rfl rfl (Nat.le_of_ble_eq_true rfl) dX2_add_77 (fun H locs hP hD hS => ?_)
    replace hP : va_P E.1 vwCl (wPa E a0 a1 a2 a3 a4 a5 a6 zs3 zd4 zn5 zt6 zl7 zc8 v9) H := hP
    replace hD : va_D A (wPa E a0 a1 a2 a3 a4 a5 a6 zs3 zd4 zn5 zt6 zl7 zc8 v9) := hD
    exact hret (zs3, zd4, zn5, zt6, zl7, zc8, v9) _ _ _ _ (Option.some.inj h) hP hS dX2_add_80
  · replace h := g_if hc1 h
    exact hret (zs, zd, zn, zt, zl, zc, nm) _ _ _ _ (Option.some.inj h) hP hS dX2_add_9
set_option maxHeartbeats 4000000 in
set_option maxRecDepth 100000 in
theorem kX2_anyAwaited (E : gE) (l : Launch) (a0 a1 a2 a3 a4 a5 a6 : Nat) (zs : Nat → Int32) (zd : Nat → Int32) (zn : Nat → Int32) (zt : Nat → Int32) (zl : Nat → Int32) (zc : Nat → Int32) (nm : Int32)  (res : Int32) (h : fX2_anyAwaited zt nm  = some res) : gMI E l yX2_anyAwaited wsX2_anyAwaited ({ frames := 0, cells := 0, slots := 0, locals := 0 } : Room) [.ref a0] (wPa E a0 a1 a2 a3 a4 a5 a6 zs zd zn zt zl zc nm) (fun res : Int32 => (wPa E a0 a1 a2 a3 a4 a5 a6 zs zd zn zt zl zc nm)) (fun res => res) res := by
  refine g_entZ (cc := cX2_anyAwaited) (maxL := 2) (by decide) rfl (Nat.le_of_ble_eq_true rfl) ?_
  intro p e s m args below meth c A Q ls hx hb hml hown hts hK hP hD hS hA hG hret hl
  unfold fX2_anyAwaited at h
  replace hl : lv_has ls 2 [(0, .ref a0)] := hl
  have hiX2 : ∀ w ∈ wsX20, w ∈ wsX2_anyAwaited := by decide +kernel
  have hw0 := hts (.fieldLink RX2 34 "GlacierHut$Parties" "number" "I") (by decide +kernel)
  have hw1 := hts (.fieldLink RX2 19 "GlacierHut$Parties" "status" "[I") (by decide +kernel)
  refine lv_iconst (v := (0 : Int32)) hx hb dX2_anyAwaited_0 (by decide) ?_
  refine lv_istore_n (lv' := [(1, .int (0 : Int32)), (0, .ref a0)]) hx hb dX2_anyAwaited_1 rfl hl (by decide) rfl (fun ls hl => ?_)
  refine gl1_e h (fun S_rec1 hS_rec1 h => ?_)
  have hL_rec1 : ∀ (nF : Nat) (v2 : Int32) (H : Heap) (locs : List Loc) (ls : Array Slot), va_P E.1 vwCl (wPa E a0 a1 a2 a3 a4 a5 a6 zs zd zn zt zl zc nm) H → va_S A s.heap H locs → lv_has ls 2 [(1, .int v2), (0, .ref a0)] → gl1 S_rec1 nF v2 = some res → W p l e ({ frames := 0, cells := 0, slots := 0, locals := 0 } : Room) s m args below meth c H locs 0 0 Q (F0 m 2 ls []) := by
    intro nF
    induction nF with
    | zero => intro v2 H locs ls hP hS hl h; exact gl1_z h
    | succ nF ih_rec1 =>
      intro v2 H locs ls hP hS hl h
      replace hD : va_D A (wPa E a0 a1 a2 a3 a4 a5 a6 zs zd zn zt zl zc nm) := gD_same hD rfl
      replace h : S_rec1 (gl1 S_rec1 nF) v2 = some res := h
      generalize gl1 S_rec1 nF = rec1 at h ih_rec1
      subst hS_rec1
      unfold sX2_anyAwaited_rec1 at h
      refine lv_iload_n hx hb dX2_anyAwaited_2 rfl (lv_at hl 0 rfl) ?_
      refine lv_aload_n hx hb dX2_anyAwaited_3 rfl (lv_at hl 1 rfl) ?_
      refine va_get (D := E.1) (cl := vwCl) (ci := 2) (v := .int nm) (C := RX2) (T := TX2) (N := 7) hx hb hts hiX2 hown hK hP 0 rfl rfl 6 (by decide) hw0 (fun _ h9 => h9) rfl dX2_anyAwaited_4 ?_
      refine lv_icmp_ge (tgt := 37) hx hb dX2_anyAwaited_7 (by decide) (fun hc3 => ?_) (fun hc3 => ?_)
      · replace h := g_it hc3 h
        refine lv_iconst (v := (0 : Int32)) hx hb dX2_anyAwaited_37 (by decide) ?_
        exact hret (0 : Int32) _ _ _ _ _ (Option.some.inj h) hP hS rfl rfl dX2_anyAwaited_38
      · replace h := g_if hc3 h
        refine lv_aload_n hx hb dX2_anyAwaited_10 rfl (lv_at hl 1 rfl) ?_
        refine va_get (D := E.1) (cl := vwCl) (ci := 2) (v := .ref a4) (C := RX2) (T := TX2) (N := 7) hx hb hts hiX2 hown hK hP 0 rfl rfl 3 (by decide) hw1 (fun _ h9 => h9) rfl dX2_anyAwaited_11 ?_
        refine lv_iload_n hx hb dX2_anyAwaited_14 rfl (lv_at hl 0 rfl) ?_
        obtain ⟨hg4, h⟩ := gd_s h
        refine va_iald (D := E.1) (cl := vwCl) (tys := gT E) hx hb hK hP 4 0 rfl rfl (inB_in hg4) dX2_anyAwaited_15 ?_
        refine lv_if_eq (tgt := 29) hx hb dX2_anyAwaited_16 (by decide) (fun hc5 => ?_) (fun hc5 => ?_)
        · replace h := g_it hc5 h
          refine lv_iconst (v := (1 : Int32)) hx hb dX2_anyAwaited_29 (by decide) ?_
          exact hret (1 : Int32) _ _ _ _ _ (Option.some.inj h) hP hS rfl rfl dX2_anyAwaited_30
        · replace h := g_if hc5 h
          refine lv_aload_n hx hb dX2_anyAwaited_19 rfl (lv_at hl 1 rfl) ?_
          refine va_get (D := E.1) (cl := vwCl) (ci := 2) (v := .ref a4) (C := RX2) (T := TX2) (N := 7) hx hb hts hiX2 hown hK hP 0 rfl rfl 3 (by decide) hw1 (fun _ h9 => h9) rfl dX2_anyAwaited_20 ?_
          refine lv_iload_n hx hb dX2_anyAwaited_23 rfl (lv_at hl 0 rfl) ?_
          refine va_iald (D := E.1) (cl := vwCl) (tys := gT E) hx hb hK hP 4 0 rfl rfl (inB_in hg4) dX2_anyAwaited_24 ?_
          refine lv_iconst (v := (1 : Int32)) hx hb dX2_anyAwaited_25 (by decide) ?_
          refine lv_icmp_ne (tgt := 31) hx hb dX2_anyAwaited_26 (by decide) (fun hc6 => ?_) (fun hc6 => ?_)
          · replace h := g_if hc6 h
            obtain ⟨v7, e_v7⟩ : ∃ y : Int32, y = (v2 + (1 : Int32)) := ⟨_, rfl⟩
            replace h := jl_s e_v7 h
            refine lv_iinc (v := v7) (lv' := [(1, .int v7), (0, .ref a0)]) hx hb dX2_anyAwaited_31 hl (k := 0) rfl (by rw [e_v7]; rfl) (by decide) rfl (fun ls hl => ?_)
            refine lv_goto (tgt := 2) hx hb dX2_anyAwaited_34 (by decide) ?_
            exact ih_rec1 v7 _ _ _ hP hS (lv_sub hl [0, 1] rfl) h
          · replace h := g_it hc6 h
            refine lv_iconst (v := (1 : Int32)) hx hb dX2_anyAwaited_29 (by decide) ?_
            exact hret (1 : Int32) _ _ _ _ _ (Option.some.inj h) hP hS rfl rfl dX2_anyAwaited_30
  exact hL_rec1 gFU (0 : Int32) _ _ _ hP hS (lv_sub hl [0, 1] rfl) h
set_option maxHeartbeats 4000000 in
set_option maxRecDepth 100000 in
theorem kX2_arrive (E : gE) (l : Launch) (a0 a1 a2 a3 a4 a5 a6 : Nat) (zs : Nat → Int32) (zd : Nat → Int32) (zn : Nat → Int32) (zt : Nat → Int32) (zl : Nat → Int32) (zc : Nat → Int32) (nm : Int32) (p1 : Int32) (p2 : Int32) (p3 : Int32) (res : Int32 × (Nat → Int32) × (Nat → Int32)) (h : fX2_arrive zs zd zn zt zc nm p1 p2 p3 = some res) : gMI E l yX2_arrive wsX2_arrive ({ frames := 0, cells := 0, slots := 0, locals := 0 } : Room) [.ref a0, .int p1, .int p2, .int p3] (wPa E a0 a1 a2 a3 a4 a5 a6 zs zd zn zt zl zc nm) (fun res : Int32 × (Nat → Int32) × (Nat → Int32) => (wPa E a0 a1 a2 a3 a4 a5 a6 zs zd zn res.2.1 zl res.2.2 nm)) (fun res => res.1) res := by
  refine g_entZ (cc := cX2_arrive) (maxL := 7) (by decide) rfl (Nat.le_of_ble_eq_true rfl) ?_
  intro p e s m args below meth c A Q ls hx hb hml hown hts hK hP hD hS hA hG hret hl
  unfold fX2_arrive at h
  replace hl : lv_has ls 7 [(0, .ref a0), (1, .int p1), (2, .int p2), (3, .int p3)] := hl
  have hiX2 : ∀ w ∈ wsX20, w ∈ wsX2_arrive := by decide +kernel
  have hw0 := hts (.fieldLink RX2 34 "GlacierHut$Parties" "number" "I") (by decide +kernel)
  have hw1 := hts (.fieldLink RX2 19 "GlacierHut$Parties" "status" "[I") (by decide +kernel)
  have hw2 := hts (.fieldLink RX2 13 "GlacierHut$Parties" "day" "[I") (by decide +kernel)
  have hw3 := hts (.fieldLink RX2 16 "GlacierHut$Parties" "nights" "[I") (by decide +kernel)
  have hw4 := hts (.fieldLink RX2 9 "GlacierHut$Parties" "size" "[I") (by decide +kernel)
  have hw5 := hts (.fieldLink RX2 25 "GlacierHut$Parties" "came" "[I") (by decide +kernel)
  refine lv_iconst (v := (1 : Int32)) hx hb dX2_arrive_0 (by decide) ?_
  refine lv_istore (lv' := [(4, .int (1 : Int32)), (0, .ref a0), (1, .int p1), (2, .int p2), (3, .int p3)]) hx hb dX2_arrive_1 hl (by decide) rfl (fun ls hl => ?_)
  refine lv_iload_n hx hb dX2_arrive_3 rfl (lv_at hl 4 rfl) ?_
  refine lv_istore (lv' := [(5, .int p3), (4, .int (1 : Int32)), (0, .ref a0), (1, .int p1), (2, .int p2), (3, .int p3)]) hx hb dX2_arrive_4 hl (by decide) rfl (fun ls hl => ?_)
  refine lv_iconst (v := (0 : Int32)) hx hb dX2_arrive_6 (by decide) ?_
  refine lv_istore (lv' := [(6, .int (0 : Int32)), (5, .int p3), (4, .int (1 : Int32)), (0, .ref a0), (1, .int p1), (2, .int p2), (3, .int p3)]) hx hb dX2_arrive_7 hl (by decide) rfl (fun ls hl => ?_)
  refine gl5_e h (fun S_rec1 hS_rec1 h => ?_)
  have hL_rec1 : ∀ (nF : Nat) (v2 : Int32) (v3 : Int32) (v4 : Int32) (zt5 : Nat → Int32) (zc6 : Nat → Int32) (H : Heap) (locs : List Loc) (ls : Array Slot), va_P E.1 vwCl (wPa E a0 a1 a2 a3 a4 a5 a6 zs zd zn zt5 zl zc6 nm) H → va_S A s.heap H locs → lv_has ls 7 [(6, .int v2), (5, .int v3), (4, .int v4), (0, .ref a0), (1, .int p1), (2, .int p2)] → gl5 S_rec1 nF v2 v3 v4 zt5 zc6 = some res → W p l e ({ frames := 0, cells := 0, slots := 0, locals := 0 } : Room) s m args below meth c H locs 0 0 Q (F0 m 9 ls []) := by
    intro nF
    induction nF with
    | zero => intro v2 v3 v4 zt5 zc6 H locs ls hP hS hl h; exact gl5_z h
    | succ nF ih_rec1 =>
      intro v2 v3 v4 zt5 zc6 H locs ls hP hS hl h
      replace hD : va_D A (wPa E a0 a1 a2 a3 a4 a5 a6 zs zd zn zt5 zl zc6 nm) := gD_same hD rfl
      replace h : S_rec1 (gl5 S_rec1 nF) v2 v3 v4 zt5 zc6 = some res := h
      generalize gl5 S_rec1 nF = rec1 at h ih_rec1
      subst hS_rec1
      unfold sX2_arrive_rec1 at h
      refine lv_iload hx hb dX2_arrive_9 (lv_at hl 0 rfl) ?_
      refine lv_aload_n hx hb dX2_arrive_11 rfl (lv_at hl 3 rfl) ?_
      refine va_get (D := E.1) (cl := vwCl) (ci := 2) (v := .int nm) (C := RX2) (T := TX2) (N := 7) hx hb hts hiX2 hown hK hP 0 rfl rfl 6 (by decide) hw0 (fun _ h9 => h9) rfl dX2_arrive_12 ?_
      refine lv_icmp_ge (tgt := 140) hx hb dX2_arrive_15 (by decide) (fun hc7 => ?_) (fun hc7 => ?_)
      · replace h := g_it hc7 h
        refine lv_iload hx hb dX2_arrive_140 (lv_at hl 2 rfl) ?_
        obtain ⟨hg8, h⟩ := gd_s h
        exact hret (v4, zt5, zc6) _ _ _ _ _ (Option.some.inj h) hP hS rfl (nzB_nar hg8) dX2_arrive_142
      · replace h := g_if hc7 h
        refine lv_aload_n hx hb dX2_arrive_18 rfl (lv_at hl 3 rfl) ?_
        refine va_get (D := E.1) (cl := vwCl) (ci := 2) (v := .ref a4) (C := RX2) (T := TX2) (N := 7) hx hb hts hiX2 hown hK hP 0 rfl rfl 3 (by decide) hw1 (fun _ h9 => h9) rfl dX2_arrive_19 ?_
        refine lv_iload hx hb dX2_arrive_22 (lv_at hl 0 rfl) ?_
        obtain ⟨hg9, h⟩ := gd_s h
        refine va_iald (D := E.1) (cl := vwCl) (tys := gT E) hx hb hK hP 4 0 rfl rfl (inB_in hg9) dX2_arrive_24 ?_
        refine lv_if_ne (tgt := 134) hx hb dX2_arrive_25 (by decide) (fun hc10 => ?_) (fun hc10 => ?_)
        · replace h := g_if hc10 h
          obtain ⟨v11, e_v11⟩ : ∃ y : Int32, y = (v2 + (1 : Int32)) := ⟨_, rfl⟩
          replace h := jl_s e_v11 h
          refine lv_iinc (v := v11) (lv' := [(6, .int v11), (5, .int v3), (4, .int v4), (0, .ref a0), (1, .int p1), (2, .int p2)]) hx hb dX2_arrive_134 hl (k := 0) rfl (by rw [e_v11]; rfl) (by decide) rfl (fun ls hl => ?_)
          refine lv_goto (tgt := 9) hx hb dX2_arrive_137 (by decide) ?_
          exact ih_rec1 v11 v3 v4 zt5 zc6 _ _ _ hP hS (lv_sub hl [0, 1, 2, 3, 4, 5] rfl) h
        · replace h := g_it hc10 h
          refine lv_aload_n hx hb dX2_arrive_28 rfl (lv_at hl 3 rfl) ?_
          refine va_get (D := E.1) (cl := vwCl) (ci := 2) (v := .ref a2) (C := RX2) (T := TX2) (N := 7) hx hb hts hiX2 hown hK hP 0 rfl rfl 1 (by decide) hw2 (fun _ h9 => h9) rfl dX2_arrive_29 ?_
          refine lv_iload hx hb dX2_arrive_32 (lv_at hl 0 rfl) ?_
          refine va_iald (D := E.1) (cl := vwCl) (tys := gT E) hx hb hK hP 2 0 rfl rfl (inB_in hg9) dX2_arrive_34 ?_
          refine lv_iload_n hx hb dX2_arrive_35 rfl (lv_at hl 4 rfl) ?_
          refine lv_icmp_le (tgt := 42) hx hb dX2_arrive_36 (by decide) (fun hc12 => ?_) (fun hc12 => ?_)
          · replace h := g_it hc12 h
            refine lv_aload_n hx hb dX2_arrive_42 rfl (lv_at hl 3 rfl) ?_
            refine va_get (D := E.1) (cl := vwCl) (ci := 2) (v := .ref a2) (C := RX2) (T := TX2) (N := 7) hx hb hts hiX2 hown hK hP 0 rfl rfl 1 (by decide) hw2 (fun _ h9 => h9) rfl dX2_arrive_43 ?_
            refine lv_iload hx hb dX2_arrive_46 (lv_at hl 0 rfl) ?_
            refine va_iald (D := E.1) (cl := vwCl) (tys := gT E) hx hb hK hP 2 0 rfl rfl (inB_in hg9) dX2_arrive_48 ?_
            refine lv_aload_n hx hb dX2_arrive_49 rfl (lv_at hl 3 rfl) ?_
            refine va_get (D := E.1) (cl := vwCl) (ci := 2) (v := .ref a3) (C := RX2) (T := TX2) (N := 7) hx hb hts hiX2 hown hK hP 0 rfl rfl 2 (by decide) hw3 (fun _ h9 => h9) rfl dX2_arrive_50 ?_
            refine lv_iload hx hb dX2_arrive_53 (lv_at hl 0 rfl) ?_
            refine va_iald (D := E.1) (cl := vwCl) (tys := gT E) hx hb hK hP 3 0 rfl rfl (inB_in hg9) dX2_arrive_55 ?_
            refine lv_iadd hx hb dX2_arrive_56 ?_
            refine lv_iload_n hx hb dX2_arrive_57 rfl (lv_at hl 4 rfl) ?_
            refine lv_icmp_gt (tgt := 72) hx hb dX2_arrive_58 (by decide) (fun hc13 => ?_) (fun hc13 => ?_)
            · replace h := g_it hc13 h
              refine lv_iload_n hx hb dX2_arrive_72 rfl (lv_at hl 5 rfl) ?_
              refine mrg_e h (fun J15 hK_J15 h => ?_)
              have hJ_J15 : ∀ (_ : Unit) (H : Heap) (locs : List Loc) (ls : Array Slot), va_P E.1 vwCl (wPa E a0 a1 a2 a3 a4 a5 a6 zs zd zn zt5 zl zc6 nm) H → va_S A s.heap H locs → lv_has ls 7 [(6, .int v2), (5, .int v3), (4, .int v4), (0, .ref a0), (1, .int p1), (2, .int p2)] → J15 () = some res → W p l e ({ frames := 0, cells := 0, slots := 0, locals := 0 } : Room) s m args below meth c H locs 0 0 Q (F0 m 119 ls []) := by
                intro _ H locs ls hP hS hl h
                replace hD : va_D A (wPa E a0 a1 a2 a3 a4 a5 a6 zs zd zn zt5 zl zc6 nm) := gD_same hD rfl
                subst hK_J15
                refine lv_iload_n hx hb dX2_arrive_119 rfl (lv_at hl 5 rfl) ?_
                refine lv_if_ne (tgt := 134) hx hb dX2_arrive_120 (by decide) (fun hc21 => ?_) (fun hc21 => ?_)
                · replace h := g_if hc21 h
                  obtain ⟨v22, e_v22⟩ : ∃ y : Int32, y = (v2 + (1 : Int32)) := ⟨_, rfl⟩
                  replace h := jl_s e_v22 h
                  refine lv_iinc (v := v22) (lv' := [(6, .int v22), (5, .int v3), (4, .int v4), (0, .ref a0), (1, .int p1), (2, .int p2)]) hx hb dX2_arrive_134 hl (k := 0) rfl (by rw [e_v22]; rfl) (by decide) rfl (fun ls hl => ?_)
                  refine lv_goto (tgt := 9) hx hb dX2_arrive_137 (by decide) ?_
                  exact ih_rec1 v22 v3 v4 zt5 zc6 _ _ _ hP hS (lv_sub hl [0, 1, 2, 3, 4, 5] rfl) h
                · replace h := g_it hc21 h
                  refine lv_aload_n hx hb dX2_arrive_123 rfl (lv_at hl 3 rfl) ?_
                  refine va_get (D := E.1) (cl := vwCl) (ci := 2) (v := .ref a4) (C := RX2) (T := TX2) (N := 7) hx hb hts hiX2 hown hK hP 0 rfl rfl 3 (by decide) hw1 (fun _ h9 => h9) rfl dX2_arrive_124 ?_
                  refine lv_iload hx hb dX2_arrive_127 (lv_at hl 0 rfl) ?_
                  refine lv_iconst (v := (3 : Int32)) hx hb dX2_arrive_129 (by decide) ?_
                  refine va_iast (D := E.1) (cl := vwCl) (tys := gT E) hx hb hK hP hD hS 4 0 rfl rfl (inB_in hg9) dX2_arrive_130 (fun H locs hP hD hS => ?_)
                  obtain ⟨zt23, e_zt23⟩ : ∃ y : Nat → Int32, y = (upd zt5 (v2).toNatClampNeg (3 : Int32)) := ⟨_, rfl⟩
                  replace h := jl_s e_zt23 h
                  replace hP : va_P E.1 vwCl (wPa E a0 a1 a2 a3 a4 a5 a6 zs zd zn zt23 zl zc6 nm) H := (by rw [e_zt23]; exact hP)
                  replace hD : va_D A (wPa E a0 a1 a2 a3 a4 a5 a6 zs zd zn zt23 zl zc6 nm) := gD_same hD rfl
                  refine lv_iconst (v := (0 : Int32)) hx hb dX2_arrive_131 (by decide) ?_
                  refine lv_istore (lv' := [(4, .int (0 : Int32)), (6, .int v2), (5, .int v3), (0, .ref a0), (1, .int p1), (2, .int p2)]) hx hb dX2_arrive_132 hl (by decide) rfl (fun ls hl => ?_)
                  obtain ⟨v24, e_v24⟩ : ∃ y : Int32, y = (v2 + (1 : Int32)) := ⟨_, rfl⟩
                  replace h := jl_s e_v24 h
                  refine lv_iinc (v := v24) (lv' := [(6, .int v24), (4, .int (0 : Int32)), (5, .int v3), (0, .ref a0), (1, .int p1), (2, .int p2)]) hx hb dX2_arrive_134 hl (k := 1) rfl (by rw [e_v24]; rfl) (by decide) rfl (fun ls hl => ?_)
                  refine lv_goto (tgt := 9) hx hb dX2_arrive_137 (by decide) ?_
                  exact ih_rec1 v24 v3 (0 : Int32) zt23 zc6 _ _ _ hP hS (lv_sub hl [0, 2, 1, 3, 4, 5] rfl) h
              refine lv_if_ne (tgt := 119) hx hb dX2_arrive_73 (by decide) (fun hc14 => ?_) (fun hc14 => ?_)
              · replace h := g_if hc14 h
                exact hJ_J15 () _ _ _ hP hS (lv_sub hl [0, 1, 2, 3, 4, 5] rfl) h
              · replace h := g_it hc14 h
                refine lv_aload_n hx hb dX2_arrive_76 rfl (lv_at hl 3 rfl) ?_
                refine va_get (D := E.1) (cl := vwCl) (ci := 2) (v := .ref a1) (C := RX2) (T := TX2) (N := 7) hx hb hts hiX2 hown hK hP 0 rfl rfl 0 (by decide) hw4 (fun _ h9 => h9) rfl dX2_arrive_77 ?_
                refine lv_iload hx hb dX2_arrive_80 (lv_at hl 0 rfl) ?_
                refine va_iald (D := E.1) (cl := vwCl) (tys := gT E) hx hb hK hP 1 0 rfl rfl (inB_in hg9) dX2_arrive_82 ?_
                refine lv_iload hx hb dX2_arrive_83 (lv_at hl 1 rfl) ?_
                refine lv_icmp_gt (tgt := 119) hx hb dX2_arrive_85 (by decide) (fun hc16 => ?_) (fun hc16 => ?_)
                · replace h := g_it hc16 h
                  exact hJ_J15 () _ _ _ hP hS (lv_sub hl [0, 1, 2, 3, 4, 5] rfl) h
                · replace h := g_if hc16 h
                  refine lv_aload_n hx hb dX2_arrive_88 rfl (lv_at hl 3 rfl) ?_
                  refine va_get (D := E.1) (cl := vwCl) (ci := 2) (v := .ref a4) (C := RX2) (T := TX2) (N := 7) hx hb hts hiX2 hown hK hP 0 rfl rfl 3 (by decide) hw1 (fun _ h9 => h9) rfl dX2_arrive_89 ?_
                  refine lv_iload hx hb dX2_arrive_92 (lv_at hl 0 rfl) ?_
                  refine lv_iconst (v := (1 : Int32)) hx hb dX2_arrive_94 (by decide) ?_
                  refine va_iast (D := E.1) (cl := vwCl) (tys := gT E) hx hb hK hP hD hS 4 0 rfl rfl (inB_in hg9) dX2_arrive_95 (fun H locs hP hD hS => ?_)
                  obtain ⟨zt17, e_zt17⟩ : ∃ y : Nat → Int32, y = (upd zt5 (v2).toNatClampNeg (1 : Int32)) := ⟨_, rfl⟩
                  replace h := jl_s e_zt17 h
                  replace hP : va_P E.1 vwCl (wPa E a0 a1 a2 a3 a4 a5 a6 zs zd zn zt17 zl zc6 nm) H := (by rw [e_zt17]; exact hP)
                  replace hD : va_D A (wPa E a0 a1 a2 a3 a4 a5 a6 zs zd zn zt17 zl zc6 nm) := gD_same hD rfl
                  refine lv_aload_n hx hb dX2_arrive_96 rfl (lv_at hl 3 rfl) ?_
                  refine va_get (D := E.1) (cl := vwCl) (ci := 2) (v := .ref a6) (C := RX2) (T := TX2) (N := 7) hx hb hts hiX2 hown hK hP 0 rfl rfl 5 (by decide) hw5 (fun _ h9 => h9) rfl dX2_arrive_97 ?_
                  refine lv_iload hx hb dX2_arrive_100 (lv_at hl 0 rfl) ?_
                  refine lv_iload_n hx hb dX2_arrive_102 rfl (lv_at hl 4 rfl) ?_
                  refine va_iast (D := E.1) (cl := vwCl) (tys := gT E) hx hb hK hP hD hS 6 0 rfl rfl (inB_in hg9) dX2_arrive_103 (fun H locs hP hD hS => ?_)
                  obtain ⟨zc18, e_zc18⟩ : ∃ y : Nat → Int32, y = (upd zc6 (v2).toNatClampNeg p1) := ⟨_, rfl⟩
                  replace h := jl_s e_zc18 h
                  replace hP : va_P E.1 vwCl (wPa E a0 a1 a2 a3 a4 a5 a6 zs zd zn zt17 zl zc18 nm) H := (by rw [e_zc18]; exact hP)
                  replace hD : va_D A (wPa E a0 a1 a2 a3 a4 a5 a6 zs zd zn zt17 zl zc18 nm) := gD_same hD rfl
                  refine lv_iload hx hb dX2_arrive_104 (lv_at hl 1 rfl) ?_
                  refine lv_aload_n hx hb dX2_arrive_106 rfl (lv_at hl 3 rfl) ?_
                  refine va_get (D := E.1) (cl := vwCl) (ci := 2) (v := .ref a1) (C := RX2) (T := TX2) (N := 7) hx hb hts hiX2 hown hK hP 0 rfl rfl 0 (by decide) hw4 (fun _ h9 => h9) rfl dX2_arrive_107 ?_
                  refine lv_iload hx hb dX2_arrive_110 (lv_at hl 0 rfl) ?_
                  refine va_iald (D := E.1) (cl := vwCl) (tys := gT E) hx hb hK hP 1 0 rfl rfl (inB_in hg9) dX2_arrive_112 ?_
                  refine lv_isub hx hb dX2_arrive_113 ?_
                  refine lv_topi (fun v19 e_v19 => ?_)
                  replace h := jl_s e_v19 h
                  refine lv_istore (lv' := [(5, .int v19), (6, .int v2), (4, .int v4), (0, .ref a0), (1, .int p1), (2, .int p2)]) hx hb dX2_arrive_114 hl (by decide) rfl (fun ls hl => ?_)
                  refine lv_goto (tgt := 134) hx hb dX2_arrive_116 (by decide) ?_
                  obtain ⟨v20, e_v20⟩ : ∃ y : Int32, y = (v2 + (1 : Int32)) := ⟨_, rfl⟩
                  replace h := jl_s e_v20 h
                  refine lv_iinc (v := v20) (lv' := [(6, .int v20), (5, .int v19), (4, .int v4), (0, .ref a0), (1, .int p1), (2, .int p2)]) hx hb dX2_arrive_134 hl (k := 1) rfl (by rw [e_v20]; rfl) (by decide) rfl (fun ls hl => ?_)
                  refine lv_goto (tgt := 9) hx hb dX2_arrive_137 (by decide) ?_
                  exact ih_rec1 v20 v19 v4 zt17 zc18 _ _ _ hP hS (lv_sub hl [0, 1, 2, 3, 4, 5] rfl) h
            · replace h := g_if hc13 h
              refine lv_aload_n hx hb dX2_arrive_61 rfl (lv_at hl 3 rfl) ?_
              refine va_get (D := E.1) (cl := vwCl) (ci := 2) (v := .ref a4) (C := RX2) (T := TX2) (N := 7) hx hb hts hiX2 hown hK hP 0 rfl rfl 3 (by decide) hw1 (fun _ h9 => h9) rfl dX2_arrive_62 ?_
              refine lv_iload hx hb dX2_arrive_65 (lv_at hl 0 rfl) ?_
              refine lv_iconst (v := (3 : Int32)) hx hb dX2_arrive_67 (by decide) ?_
              refine va_iast (D := E.1) (cl := vwCl) (tys := gT E) hx hb hK hP hD hS 4 0 rfl rfl (inB_in hg9) dX2_arrive_68 (fun H locs hP hD hS => ?_)
              obtain ⟨zt25, e_zt25⟩ : ∃ y : Nat → Int32, y = (upd zt5 (v2).toNatClampNeg (3 : Int32)) := ⟨_, rfl⟩
              replace h := jl_s e_zt25 h
              replace hP : va_P E.1 vwCl (wPa E a0 a1 a2 a3 a4 a5 a6 zs zd zn zt25 zl zc6 nm) H := (by rw [e_zt25]; exact hP)
              replace hD : va_D A (wPa E a0 a1 a2 a3 a4 a5 a6 zs zd zn zt25 zl zc6 nm) := gD_same hD rfl
              refine lv_goto (tgt := 134) hx hb dX2_arrive_69 (by decide) ?_
              obtain ⟨v26, e_v26⟩ : ∃ y : Int32, y = (v2 + (1 : Int32)) := ⟨_, rfl⟩
              replace h := jl_s e_v26 h
              refine lv_iinc (v := v26) (lv' := [(6, .int v26), (5, .int v3), (4, .int v4), (0, .ref a0), (1, .int p1), (2, .int p2)]) hx hb dX2_arrive_134 hl (k := 0) rfl (by rw [e_v26]; rfl) (by decide) rfl (fun ls hl => ?_)
              refine lv_goto (tgt := 9) hx hb dX2_arrive_137 (by decide) ?_
              exact ih_rec1 v26 v3 v4 zt25 zc6 _ _ _ hP hS (lv_sub hl [0, 1, 2, 3, 4, 5] rfl) h
          · replace h := g_if hc12 h
            refine lv_goto (tgt := 134) hx hb dX2_arrive_39 (by decide) ?_
            obtain ⟨v27, e_v27⟩ : ∃ y : Int32, y = (v2 + (1 : Int32)) := ⟨_, rfl⟩
            replace h := jl_s e_v27 h
            refine lv_iinc (v := v27) (lv' := [(6, .int v27), (5, .int v3), (4, .int v4), (0, .ref a0), (1, .int p1), (2, .int p2)]) hx hb dX2_arrive_134 hl (k := 0) rfl (by rw [e_v27]; rfl) (by decide) rfl (fun ls hl => ?_)
            refine lv_goto (tgt := 9) hx hb dX2_arrive_137 (by decide) ?_
            exact ih_rec1 v27 v3 v4 zt5 zc6 _ _ _ hP hS (lv_sub hl [0, 1, 2, 3, 4, 5] rfl) h
  exact hL_rec1 gFU (0 : Int32) p3 (1 : Int32) zt zc _ _ _ hP hS (lv_sub hl [0, 1, 2, 3, 4, 5] rfl) h
set_option maxHeartbeats 4000000 in
set_option maxRecDepth 100000 in
theorem kX2_copyFrom (E : gE) (l : Launch) (a0 a1 a2 a3 a4 a5 a6 b0 b1 b2 b3 b4 b5 b6 : Nat) (zs : Nat → Int32) (zd : Nat → Int32) (zn : Nat → Int32) (zt : Nat → Int32) (zl : Nat → Int32) (zc : Nat → Int32) (nm : Int32) (o0_zs : Nat → Int32) (o0_zd : Nat → Int32) (o0_zn : Nat → Int32) (o0_zt : Nat → Int32) (o0_zl : Nat → Int32) (o0_zc : Nat → Int32) (o0_nm : Int32)  (res : (Nat → Int32) × (Nat → Int32) × (Nat → Int32) × (Nat → Int32) × (Nat → Int32) × (Nat → Int32) × Int32) (h : fX2_copyFrom o0_zs o0_zd o0_zn o0_zt o0_zl o0_zc o0_nm  = some res) : gMV E l yX2_copyFrom wsX2_copyFrom ({ frames := 1, cells := 0, slots := 0, locals := 18 } : Room) [.ref a0, .ref b0] (List.flatten [wPa E a0 a1 a2 a3 a4 a5 a6 zs zd zn zt zl zc nm, wPa E b0 b1 b2 b3 b4 b5 b6 o0_zs o0_zd o0_zn o0_zt o0_zl o0_zc o0_nm]) (fun res : (Nat → Int32) × (Nat → Int32) × (Nat → Int32) × (Nat → Int32) × (Nat → Int32) × (Nat → Int32) × Int32 => (List.flatten [wPa E a0 a1 a2 a3 a4 a5 a6 res.1 res.2.1 res.2.2.1 res.2.2.2.1 res.2.2.2.2.1 res.2.2.2.2.2.1 res.2.2.2.2.2.2, wPa E b0 b1 b2 b3 b4 b5 b6 o0_zs o0_zd o0_zn o0_zt o0_zl o0_zc o0_nm])) res := by
  refine g_entV (cc := cX2_copyFrom) (maxL := 2) (by decide) rfl (Nat.le_of_ble_eq_true rfl) ?_
  intro p e s m args below meth c A Q ls hx hb hml hown hts hK hP hD hS hA hG hret hl
  unfold fX2_copyFrom at h
  replace hl : lv_has ls 2 [(0, .ref a0), (1, .ref b0)] := hl
  have hiX2 : ∀ w ∈ wsX20, w ∈ wsX2_copyFrom := by decide +kernel
  have hw0 := hts (.fieldLink RX2 9 "GlacierHut$Parties" "size" "[I") (by decide +kernel)
  have hw1 := hts (.methodLink RX2 28 arraycopyName) (by decide +kernel)
  have hw2 := hts (.native arraycopyName) (by decide +kernel)
  have hw3 := hts (.static arraycopyName) (by decide +kernel)
  have hw4 := hts (.initialized "java/lang/System") (by decide +kernel)
  have hw5 := hts (.fieldLink RX2 13 "GlacierHut$Parties" "day" "[I") (by decide +kernel)
  have hw6 := hts (.fieldLink RX2 16 "GlacierHut$Parties" "nights" "[I") (by decide +kernel)
  have hw7 := hts (.fieldLink RX2 19 "GlacierHut$Parties" "status" "[I") (by decide +kernel)
  have hw8 := hts (.fieldLink RX2 22 "GlacierHut$Parties" "slept" "[I") (by decide +kernel)
  have hw9 := hts (.fieldLink RX2 25 "GlacierHut$Parties" "came" "[I") (by decide +kernel)
  have hw10 := hts (.fieldLink RX2 34 "GlacierHut$Parties" "number" "I") (by decide +kernel)
  refine lv_aload_n hx hb dX2_copyFrom_0 rfl (lv_at hl 1 rfl) ?_
  refine va_get (D := E.1) (cl := vwCl) (ci := 2) (v := .ref b1) (C := RX2) (T := TX2) (N := 7) hx hb hts hiX2 hown hK hP 7 rfl rfl 0 (by decide) hw0 (fun _ h9 => h9) rfl dX2_copyFrom_1 ?_
  refine lv_iconst (v := (0 : Int32)) hx hb dX2_copyFrom_4 (by decide) ?_
  refine lv_aload_n hx hb dX2_copyFrom_5 rfl (lv_at hl 0 rfl) ?_
  refine va_get (D := E.1) (cl := vwCl) (ci := 2) (v := .ref a1) (C := RX2) (T := TX2) (N := 7) hx hb hts hiX2 hown hK hP 0 rfl rfl 0 (by decide) hw0 (fun _ h9 => h9) rfl dX2_copyFrom_6 ?_
  refine lv_iconst (v := (0 : Int32)) hx hb dX2_copyFrom_9 (by decide) ?_
  refine lv_bipush (v := (17 : Int32)) hx hb dX2_copyFrom_10 (by decide) ?_
  refine g_copyi (ty := .int) (N := 17) hx hb (hml.trans hl.1.symm) hown hw1 hw2 hw3 hw4 hK hP hD hS 8 1 0 rfl rfl rfl rfl (by decide) (by decide) (fun _ _ => rfl) (Nat.le_of_ble_eq_true rfl) (Nat.le_of_ble_eq_true rfl) dX2_copyFrom_12 (fun H locs hP hD hS => ?_)
  replace hP : va_P E.1 vwCl (List.flatten [wPa E a0 a1 a2 a3 a4 a5 a6 o0_zs zd zn zt zl zc nm, wPa E b0 b1 b2 b3 b4 b5 b6 o0_zs o0_zd o0_zn o0_zt o0_zl o0_zc o0_nm]) H := hP
  replace hD : va_D A (List.flatten [wPa E a0 a1 a2 a3 a4 a5 a6 o0_zs zd zn zt zl zc nm, wPa E b0 b1 b2 b3 b4 b5 b6 o0_zs o0_zd o0_zn o0_zt o0_zl o0_zc o0_nm]) := hD
  refine lv_aload_n hx hb dX2_copyFrom_15 rfl (lv_at hl 1 rfl) ?_
  refine va_get (D := E.1) (cl := vwCl) (ci := 2) (v := .ref b2) (C := RX2) (T := TX2) (N := 7) hx hb hts hiX2 hown hK hP 7 rfl rfl 1 (by decide) hw5 (fun _ h9 => h9) rfl dX2_copyFrom_16 ?_
  refine lv_iconst (v := (0 : Int32)) hx hb dX2_copyFrom_19 (by decide) ?_
  refine lv_aload_n hx hb dX2_copyFrom_20 rfl (lv_at hl 0 rfl) ?_
  refine va_get (D := E.1) (cl := vwCl) (ci := 2) (v := .ref a2) (C := RX2) (T := TX2) (N := 7) hx hb hts hiX2 hown hK hP 0 rfl rfl 1 (by decide) hw5 (fun _ h9 => h9) rfl dX2_copyFrom_21 ?_
  refine lv_iconst (v := (0 : Int32)) hx hb dX2_copyFrom_24 (by decide) ?_
  refine lv_bipush (v := (17 : Int32)) hx hb dX2_copyFrom_25 (by decide) ?_
  refine g_copyi (ty := .int) (N := 17) hx hb (hml.trans hl.1.symm) hown hw1 hw2 hw3 hw4 hK hP hD hS 9 2 0 rfl rfl rfl rfl (by decide) (by decide) (fun _ _ => rfl) (Nat.le_of_ble_eq_true rfl) (Nat.le_of_ble_eq_true rfl) dX2_copyFrom_27 (fun H locs hP hD hS => ?_)
  replace hP : va_P E.1 vwCl (List.flatten [wPa E a0 a1 a2 a3 a4 a5 a6 o0_zs o0_zd zn zt zl zc nm, wPa E b0 b1 b2 b3 b4 b5 b6 o0_zs o0_zd o0_zn o0_zt o0_zl o0_zc o0_nm]) H := hP
  replace hD : va_D A (List.flatten [wPa E a0 a1 a2 a3 a4 a5 a6 o0_zs o0_zd zn zt zl zc nm, wPa E b0 b1 b2 b3 b4 b5 b6 o0_zs o0_zd o0_zn o0_zt o0_zl o0_zc o0_nm]) := hD
  refine lv_aload_n hx hb dX2_copyFrom_30 rfl (lv_at hl 1 rfl) ?_
  refine va_get (D := E.1) (cl := vwCl) (ci := 2) (v := .ref b3) (C := RX2) (T := TX2) (N := 7) hx hb hts hiX2 hown hK hP 7 rfl rfl 2 (by decide) hw6 (fun _ h9 => h9) rfl dX2_copyFrom_31 ?_
  refine lv_iconst (v := (0 : Int32)) hx hb dX2_copyFrom_34 (by decide) ?_
  refine lv_aload_n hx hb dX2_copyFrom_35 rfl (lv_at hl 0 rfl) ?_
  refine va_get (D := E.1) (cl := vwCl) (ci := 2) (v := .ref a3) (C := RX2) (T := TX2) (N := 7) hx hb hts hiX2 hown hK hP 0 rfl rfl 2 (by decide) hw6 (fun _ h9 => h9) rfl dX2_copyFrom_36 ?_
  refine lv_iconst (v := (0 : Int32)) hx hb dX2_copyFrom_39 (by decide) ?_
  refine lv_bipush (v := (17 : Int32)) hx hb dX2_copyFrom_40 (by decide) ?_
  refine g_copyi (ty := .int) (N := 17) hx hb (hml.trans hl.1.symm) hown hw1 hw2 hw3 hw4 hK hP hD hS 10 3 0 rfl rfl rfl rfl (by decide) (by decide) (fun _ _ => rfl) (Nat.le_of_ble_eq_true rfl) (Nat.le_of_ble_eq_true rfl) dX2_copyFrom_42 (fun H locs hP hD hS => ?_)
  replace hP : va_P E.1 vwCl (List.flatten [wPa E a0 a1 a2 a3 a4 a5 a6 o0_zs o0_zd o0_zn zt zl zc nm, wPa E b0 b1 b2 b3 b4 b5 b6 o0_zs o0_zd o0_zn o0_zt o0_zl o0_zc o0_nm]) H := hP
  replace hD : va_D A (List.flatten [wPa E a0 a1 a2 a3 a4 a5 a6 o0_zs o0_zd o0_zn zt zl zc nm, wPa E b0 b1 b2 b3 b4 b5 b6 o0_zs o0_zd o0_zn o0_zt o0_zl o0_zc o0_nm]) := hD
  refine lv_aload_n hx hb dX2_copyFrom_45 rfl (lv_at hl 1 rfl) ?_
  refine va_get (D := E.1) (cl := vwCl) (ci := 2) (v := .ref b4) (C := RX2) (T := TX2) (N := 7) hx hb hts hiX2 hown hK hP 7 rfl rfl 3 (by decide) hw7 (fun _ h9 => h9) rfl dX2_copyFrom_46 ?_
  refine lv_iconst (v := (0 : Int32)) hx hb dX2_copyFrom_49 (by decide) ?_
  refine lv_aload_n hx hb dX2_copyFrom_50 rfl (lv_at hl 0 rfl) ?_
  refine va_get (D := E.1) (cl := vwCl) (ci := 2) (v := .ref a4) (C := RX2) (T := TX2) (N := 7) hx hb hts hiX2 hown hK hP 0 rfl rfl 3 (by decide) hw7 (fun _ h9 => h9) rfl dX2_copyFrom_51 ?_
  refine lv_iconst (v := (0 : Int32)) hx hb dX2_copyFrom_54 (by decide) ?_
  refine lv_bipush (v := (17 : Int32)) hx hb dX2_copyFrom_55 (by decide) ?_
  refine g_copyi (ty := .int) (N := 17) hx hb (hml.trans hl.1.symm) hown hw1 hw2 hw3 hw4 hK hP hD hS 11 4 0 rfl rfl rfl rfl (by decide) (by decide) (fun _ _ => rfl) (Nat.le_of_ble_eq_true rfl) (Nat.le_of_ble_eq_true rfl) dX2_copyFrom_57 (fun H locs hP hD hS => ?_)
  replace hP : va_P E.1 vwCl (List.flatten [wPa E a0 a1 a2 a3 a4 a5 a6 o0_zs o0_zd o0_zn o0_zt zl zc nm, wPa E b0 b1 b2 b3 b4 b5 b6 o0_zs o0_zd o0_zn o0_zt o0_zl o0_zc o0_nm]) H := hP
  replace hD : va_D A (List.flatten [wPa E a0 a1 a2 a3 a4 a5 a6 o0_zs o0_zd o0_zn o0_zt zl zc nm, wPa E b0 b1 b2 b3 b4 b5 b6 o0_zs o0_zd o0_zn o0_zt o0_zl o0_zc o0_nm]) := hD
  refine lv_aload_n hx hb dX2_copyFrom_60 rfl (lv_at hl 1 rfl) ?_
  refine va_get (D := E.1) (cl := vwCl) (ci := 2) (v := .ref b5) (C := RX2) (T := TX2) (N := 7) hx hb hts hiX2 hown hK hP 7 rfl rfl 4 (by decide) hw8 (fun _ h9 => h9) rfl dX2_copyFrom_61 ?_
  refine lv_iconst (v := (0 : Int32)) hx hb dX2_copyFrom_64 (by decide) ?_
  refine lv_aload_n hx hb dX2_copyFrom_65 rfl (lv_at hl 0 rfl) ?_
  refine va_get (D := E.1) (cl := vwCl) (ci := 2) (v := .ref a5) (C := RX2) (T := TX2) (N := 7) hx hb hts hiX2 hown hK hP 0 rfl rfl 4 (by decide) hw8 (fun _ h9 => h9) rfl dX2_copyFrom_66 ?_
  refine lv_iconst (v := (0 : Int32)) hx hb dX2_copyFrom_69 (by decide) ?_
  refine lv_bipush (v := (17 : Int32)) hx hb dX2_copyFrom_70 (by decide) ?_
  refine g_copyi (ty := .int) (N := 17) hx hb (hml.trans hl.1.symm) hown hw1 hw2 hw3 hw4 hK hP hD hS 12 5 0 rfl rfl rfl rfl (by decide) (by decide) (fun _ _ => rfl) (Nat.le_of_ble_eq_true rfl) (Nat.le_of_ble_eq_true rfl) dX2_copyFrom_72 (fun H locs hP hD hS => ?_)
  replace hP : va_P E.1 vwCl (List.flatten [wPa E a0 a1 a2 a3 a4 a5 a6 o0_zs o0_zd o0_zn o0_zt o0_zl zc nm, wPa E b0 b1 b2 b3 b4 b5 b6 o0_zs o0_zd o0_zn o0_zt o0_zl o0_zc o0_nm]) H := hP
  replace hD : va_D A (List.flatten [wPa E a0 a1 a2 a3 a4 a5 a6 o0_zs o0_zd o0_zn o0_zt o0_zl zc nm, wPa E b0 b1 b2 b3 b4 b5 b6 o0_zs o0_zd o0_zn o0_zt o0_zl o0_zc o0_nm]) := hD
  refine lv_aload_n hx hb dX2_copyFrom_75 rfl (lv_at hl 1 rfl) ?_
  refine va_get (D := E.1) (cl := vwCl) (ci := 2) (v := .ref b6) (C := RX2) (T := TX2) (N := 7) hx hb hts hiX2 hown hK hP 7 rfl rfl 5 (by decide) hw9 (fun _ h9 => h9) rfl dX2_copyFrom_76 ?_
  refine lv_iconst (v := (0 : Int32)) hx hb dX2_copyFrom_79 (by decide) ?_
  refine lv_aload_n hx hb dX2_copyFrom_80 rfl (lv_at hl 0 rfl) ?_
  refine va_get (D := E.1) (cl := vwCl) (ci := 2) (v := .ref a6) (C := RX2) (T := TX2) (N := 7) hx hb hts hiX2 hown hK hP 0 rfl rfl 5 (by decide) hw9 (fun _ h9 => h9) rfl dX2_copyFrom_81 ?_
  refine lv_iconst (v := (0 : Int32)) hx hb dX2_copyFrom_84 (by decide) ?_
  refine lv_bipush (v := (17 : Int32)) hx hb dX2_copyFrom_85 (by decide) ?_
  refine g_copyi (ty := .int) (N := 17) hx hb (hml.trans hl.1.symm) hown hw1 hw2 hw3 hw4 hK hP hD hS 13 6 0 rfl rfl rfl rfl (by decide) (by decide) (fun _ _ => rfl) (Nat.le_of_ble_eq_true rfl) (Nat.le_of_ble_eq_true rfl) dX2_copyFrom_87 (fun H locs hP hD hS => ?_)
  replace hP : va_P E.1 vwCl (List.flatten [wPa E a0 a1 a2 a3 a4 a5 a6 o0_zs o0_zd o0_zn o0_zt o0_zl o0_zc nm, wPa E b0 b1 b2 b3 b4 b5 b6 o0_zs o0_zd o0_zn o0_zt o0_zl o0_zc o0_nm]) H := hP
  replace hD : va_D A (List.flatten [wPa E a0 a1 a2 a3 a4 a5 a6 o0_zs o0_zd o0_zn o0_zt o0_zl o0_zc nm, wPa E b0 b1 b2 b3 b4 b5 b6 o0_zs o0_zd o0_zn o0_zt o0_zl o0_zc o0_nm]) := hD
  refine lv_aload_n hx hb dX2_copyFrom_90 rfl (lv_at hl 0 rfl) ?_
  refine lv_aload_n hx hb dX2_copyFrom_91 rfl (lv_at hl 1 rfl) ?_
  refine va_get (D := E.1) (cl := vwCl) (ci := 2) (v := .int o0_nm) (C := RX2) (T := TX2) (N := 7) hx hb hts hiX2 hown hK hP 7 rfl rfl 6 (by decide) hw10 (fun _ h9 => h9) rfl dX2_copyFrom_92 ?_
  refine va_put (D := E.1) (cl := vwCl) (ci := 2) (v := .int o0_nm) (ty := .int) (C := RX2) (T := TX2) (N := 7) hx hb hts hiX2 tyX2 tyX2_ok nmX2 hown hK hP hD hS 0 rfl rfl 6 (by decide) hw10 (fun _ h9 => h9) rfl (by decide +kernel) rfl rfl (Nat.le_of_ble_eq_true rfl) dX2_copyFrom_95 (fun H locs hP hD hS => ?_)
  replace hP : va_P E.1 vwCl (List.flatten [wPa E a0 a1 a2 a3 a4 a5 a6 o0_zs o0_zd o0_zn o0_zt o0_zl o0_zc o0_nm, wPa E b0 b1 b2 b3 b4 b5 b6 o0_zs o0_zd o0_zn o0_zt o0_zl o0_zc o0_nm]) H := hP
  replace hD : va_D A (List.flatten [wPa E a0 a1 a2 a3 a4 a5 a6 o0_zs o0_zd o0_zn o0_zt o0_zl o0_zc o0_nm, wPa E b0 b1 b2 b3 b4 b5 b6 o0_zs o0_zd o0_zn o0_zt o0_zl o0_zc o0_nm]) := hD
  exact hret (o0_zs, o0_zd, o0_zn, o0_zt, o0_zl, o0_zc, o0_nm) _ _ _ _ (Option.some.inj h) hP hS dX2_copyFrom_98
set_option maxHeartbeats 4000000 in
set_option maxRecDepth 100000 in
theorem kX2_guests (E : gE) (l : Launch) (a0 a1 a2 a3 a4 a5 a6 : Nat) (zs : Nat → Int32) (zd : Nat → Int32) (zn : Nat → Int32) (zt : Nat → Int32) (zl : Nat → Int32) (zc : Nat → Int32) (nm : Int32)  (res : Int32) (h : fX2_guests zs zt nm  = some res) : gMI E l yX2_guests wsX2_guests ({ frames := 0, cells := 0, slots := 0, locals := 0 } : Room) [.ref a0] (wPa E a0 a1 a2 a3 a4 a5 a6 zs zd zn zt zl zc nm) (fun res : Int32 => (wPa E a0 a1 a2 a3 a4 a5 a6 zs zd zn zt zl zc nm)) (fun res => res) res := by
  refine g_entI (cc := cX2_guests) (maxL := 3) (by decide) rfl (Nat.le_of_ble_eq_true rfl) ?_
  intro p e s m args below meth c A Q ls hx hb hml hown hts hK hP hD hS hA hG hret hl
  unfold fX2_guests at h
  replace hl : lv_has ls 3 [(0, .ref a0)] := hl
  have hiX2 : ∀ w ∈ wsX20, w ∈ wsX2_guests := by decide +kernel
  have hw0 := hts (.fieldLink RX2 34 "GlacierHut$Parties" "number" "I") (by decide +kernel)
  have hw1 := hts (.fieldLink RX2 19 "GlacierHut$Parties" "status" "[I") (by decide +kernel)
  have hw2 := hts (.fieldLink RX2 9 "GlacierHut$Parties" "size" "[I") (by decide +kernel)
  refine lv_iconst (v := (0 : Int32)) hx hb dX2_guests_0 (by decide) ?_
  refine lv_istore_n (lv' := [(1, .int (0 : Int32)), (0, .ref a0)]) hx hb dX2_guests_1 rfl hl (by decide) rfl (fun ls hl => ?_)
  refine lv_iconst (v := (0 : Int32)) hx hb dX2_guests_2 (by decide) ?_
  refine lv_istore_n (lv' := [(2, .int (0 : Int32)), (1, .int (0 : Int32)), (0, .ref a0)]) hx hb dX2_guests_3 rfl hl (by decide) rfl (fun ls hl => ?_)
  refine gl2_e h (fun S_rec1 hS_rec1 h => ?_)
  have hL_rec1 : ∀ (nF : Nat) (v2 : Int32) (v3 : Int32) (H : Heap) (locs : List Loc) (ls : Array Slot), va_P E.1 vwCl (wPa E a0 a1 a2 a3 a4 a5 a6 zs zd zn zt zl zc nm) H → va_S A s.heap H locs → lv_has ls 3 [(2, .int v2), (1, .int v3), (0, .ref a0)] → gl2 S_rec1 nF v2 v3 = some res → W p l e ({ frames := 0, cells := 0, slots := 0, locals := 0 } : Room) s m args below meth c H locs 0 0 Q (F0 m 4 ls []) := by
    intro nF
    induction nF with
    | zero => intro v2 v3 H locs ls hP hS hl h; exact gl2_z h
    | succ nF ih_rec1 =>
      intro v2 v3 H locs ls hP hS hl h
      replace hD : va_D A (wPa E a0 a1 a2 a3 a4 a5 a6 zs zd zn zt zl zc nm) := gD_same hD rfl
      replace h : S_rec1 (gl2 S_rec1 nF) v2 v3 = some res := h
      generalize gl2 S_rec1 nF = rec1 at h ih_rec1
      subst hS_rec1
      unfold sX2_guests_rec1 at h
      refine lv_iload_n hx hb dX2_guests_4 rfl (lv_at hl 0 rfl) ?_
      refine lv_aload_n hx hb dX2_guests_5 rfl (lv_at hl 2 rfl) ?_
      refine va_get (D := E.1) (cl := vwCl) (ci := 2) (v := .int nm) (C := RX2) (T := TX2) (N := 7) hx hb hts hiX2 hown hK hP 0 rfl rfl 6 (by decide) hw0 (fun _ h9 => h9) rfl dX2_guests_6 ?_
      refine lv_icmp_ge (tgt := 37) hx hb dX2_guests_9 (by decide) (fun hc4 => ?_) (fun hc4 => ?_)
      · replace h := g_it hc4 h
        refine lv_iload_n hx hb dX2_guests_37 rfl (lv_at hl 1 rfl) ?_
        exact hret v3 _ _ _ _ _ (Option.some.inj h) hP hS rfl dX2_guests_38
      · replace h := g_if hc4 h
        refine lv_aload_n hx hb dX2_guests_12 rfl (lv_at hl 2 rfl) ?_
        refine va_get (D := E.1) (cl := vwCl) (ci := 2) (v := .ref a4) (C := RX2) (T := TX2) (N := 7) hx hb hts hiX2 hown hK hP 0 rfl rfl 3 (by decide) hw1 (fun _ h9 => h9) rfl dX2_guests_13 ?_
        refine lv_iload_n hx hb dX2_guests_16 rfl (lv_at hl 0 rfl) ?_
        obtain ⟨hg5, h⟩ := gd_s h
        refine va_iald (D := E.1) (cl := vwCl) (tys := gT E) hx hb hK hP 4 0 rfl rfl (inB_in hg5) dX2_guests_17 ?_
        refine lv_iconst (v := (1 : Int32)) hx hb dX2_guests_18 (by decide) ?_
        refine lv_icmp_ne (tgt := 31) hx hb dX2_guests_19 (by decide) (fun hc6 => ?_) (fun hc6 => ?_)
        · replace h := g_if hc6 h
          obtain ⟨v7, e_v7⟩ : ∃ y : Int32, y = (v2 + (1 : Int32)) := ⟨_, rfl⟩
          replace h := jl_s e_v7 h
          refine lv_iinc (v := v7) (lv' := [(2, .int v7), (1, .int v3), (0, .ref a0)]) hx hb dX2_guests_31 hl (k := 0) rfl (by rw [e_v7]; rfl) (by decide) rfl (fun ls hl => ?_)
          refine lv_goto (tgt := 4) hx hb dX2_guests_34 (by decide) ?_
          exact ih_rec1 v7 v3 _ _ _ hP hS (lv_sub hl [0, 1, 2] rfl) h
        · replace h := g_it hc6 h
          refine lv_iload_n hx hb dX2_guests_22 rfl (lv_at hl 1 rfl) ?_
          refine lv_aload_n hx hb dX2_guests_23 rfl (lv_at hl 2 rfl) ?_
          refine va_get (D := E.1) (cl := vwCl) (ci := 2) (v := .ref a1) (C := RX2) (T := TX2) (N := 7) hx hb hts hiX2 hown hK hP 0 rfl rfl 0 (by decide) hw2 (fun _ h9 => h9) rfl dX2_guests_24 ?_
          refine lv_iload_n hx hb dX2_guests_27 rfl (lv_at hl 0 rfl) ?_
          refine va_iald (D := E.1) (cl := vwCl) (tys := gT E) hx hb hK hP 1 0 rfl rfl (inB_in hg5) dX2_guests_28 ?_
          refine lv_iadd hx hb dX2_guests_29 ?_
          refine lv_topi (fun v8 e_v8 => ?_)
          replace h := jl_s e_v8 h
          refine lv_istore_n (lv' := [(1, .int v8), (2, .int v2), (0, .ref a0)]) hx hb dX2_guests_30 rfl hl (by decide) rfl (fun ls hl => ?_)
          obtain ⟨v9, e_v9⟩ : ∃ y : Int32, y = (v2 + (1 : Int32)) := ⟨_, rfl⟩
          replace h := jl_s e_v9 h
          refine lv_iinc (v := v9) (lv' := [(2, .int v9), (1, .int v8), (0, .ref a0)]) hx hb dX2_guests_31 hl (k := 1) rfl (by rw [e_v9]; rfl) (by decide) rfl (fun ls hl => ?_)
          refine lv_goto (tgt := 4) hx hb dX2_guests_34 (by decide) ?_
          exact ih_rec1 v9 v8 _ _ _ hP hS (lv_sub hl [0, 1, 2] rfl) h
  exact hL_rec1 gFU (0 : Int32) (0 : Int32) _ _ _ hP hS (lv_sub hl [0, 1, 2] rfl) h
set_option maxHeartbeats 4000000 in
set_option maxRecDepth 100000 in
theorem kX2_has (E : gE) (l : Launch) (a0 a1 a2 a3 a4 a5 a6 : Nat) (zs : Nat → Int32) (zd : Nat → Int32) (zn : Nat → Int32) (zt : Nat → Int32) (zl : Nat → Int32) (zc : Nat → Int32) (nm : Int32) (p1 : Int32) (res : Int32) (h : fX2_has nm p1 = some res) : gMI E l yX2_has wsX2_has ({ frames := 0, cells := 0, slots := 0, locals := 0 } : Room) [.ref a0, .int p1] (wPa E a0 a1 a2 a3 a4 a5 a6 zs zd zn zt zl zc nm) (fun res : Int32 => (wPa E a0 a1 a2 a3 a4 a5 a6 zs zd zn zt zl zc nm)) (fun res => res) res := by
  refine g_entZ (cc := cX2_has) (maxL := 2) (by decide) rfl (Nat.le_of_ble_eq_true rfl) ?_
  intro p e s m args below meth c A Q ls hx hb hml hown hts hK hP hD hS hA hG hret hl
  unfold fX2_has at h
  replace hl : lv_has ls 2 [(0, .ref a0), (1, .int p1)] := hl
  have hiX2 : ∀ w ∈ wsX20, w ∈ wsX2_has := by decide +kernel
  have hw0 := hts (.fieldLink RX2 34 "GlacierHut$Parties" "number" "I") (by decide +kernel)
  refine lv_iload_n hx hb dX2_has_0 rfl (lv_at hl 1 rfl) ?_
  refine lv_if_lt (tgt := 16) hx hb dX2_has_1 (by decide) (fun hc1 => ?_) (fun hc1 => ?_)
  · replace h := g_it hc1 h
    refine lv_iconst (v := (0 : Int32)) hx hb dX2_has_16 (by decide) ?_
    exact hret (0 : Int32) _ _ _ _ _ (Option.some.inj h) hP hS rfl rfl dX2_has_17
  · replace h := g_if hc1 h
    refine lv_iload_n hx hb dX2_has_4 rfl (lv_at hl 1 rfl) ?_
    refine lv_aload_n hx hb dX2_has_5 rfl (lv_at hl 0 rfl) ?_
    refine va_get (D := E.1) (cl := vwCl) (ci := 2) (v := .int nm) (C := RX2) (T := TX2) (N := 7) hx hb hts hiX2 hown hK hP 0 rfl rfl 6 (by decide) hw0 (fun _ h9 => h9) rfl dX2_has_6 ?_
    refine lv_icmp_ge (tgt := 16) hx hb dX2_has_9 (by decide) (fun hc2 => ?_) (fun hc2 => ?_)
    · replace h := g_it hc2 h
      refine lv_iconst (v := (0 : Int32)) hx hb dX2_has_16 (by decide) ?_
      exact hret (0 : Int32) _ _ _ _ _ (Option.some.inj h) hP hS rfl rfl dX2_has_17
    · replace h := g_if hc2 h
      refine lv_iconst (v := (1 : Int32)) hx hb dX2_has_12 (by decide) ?_
      refine lv_goto (tgt := 17) hx hb dX2_has_13 (by decide) ?_
      exact hret (1 : Int32) _ _ _ _ _ (Option.some.inj h) hP hS rfl rfl dX2_has_17
set_option maxHeartbeats 4000000 in
set_option maxRecDepth 100000 in
theorem kX2_hasStatus (E : gE) (l : Launch) (a0 a1 a2 a3 a4 a5 a6 : Nat) (zs : Nat → Int32) (zd : Nat → Int32) (zn : Nat → Int32) (zt : Nat → Int32) (zl : Nat → Int32) (zc : Nat → Int32) (nm : Int32) (p1 : Int32) (p2 : Int32) (res : Int32) (h : fX2_hasStatus zt nm p1 p2 = some res) : gMI E l yX2_hasStatus wsX2_hasStatus ({ frames := 1, cells := 0, slots := 0, locals := 21 } : Room) [.ref a0, .int p1, .int p2] (wPa E a0 a1 a2 a3 a4 a5 a6 zs zd zn zt zl zc nm) (fun res : Int32 => (wPa E a0 a1 a2 a3 a4 a5 a6 zs zd zn zt zl zc nm)) (fun res => res) res := by
  refine g_entZ (cc := cX2_hasStatus) (maxL := 3) (by decide) rfl (Nat.le_of_ble_eq_true rfl) ?_
  intro p e s m args below meth c A Q ls hx hb hml hown hts hK hP hD hS hA hG hret hl
  unfold fX2_hasStatus at h
  replace hl : lv_has ls 3 [(0, .ref a0), (1, .int p1), (2, .int p2)] := hl
  have hiX2 : ∀ w ∈ wsX20, w ∈ wsX2_hasStatus := by decide +kernel
  have hw0 := hts (.fieldLink RX2 19 "GlacierHut$Parties" "status" "[I") (by decide +kernel)
  refine lv_aload_n hx hb dX2_hasStatus_0 rfl (lv_at hl 0 rfl) ?_
  refine lv_iload_n hx hb dX2_hasStatus_1 rfl (lv_at hl 1 rfl) ?_
  obtain ⟨r1, hc2, h⟩ := bd1_s h
  refine g_callRi (As := [.int p1]) (rest := []) (r := r1) ⟨hx, hb, hml, hown, hts⟩ (kX2_has E l a0 a1 a2 a3 a4 a5 a6 zs zd zn zt zl zc nm p1 r1 hc2) (cwV 1 hts gX2_hasStatus_X2_has rfl rfl rfl (by decide +kernel) ⟨Nat.le_of_ble_eq_true rfl, Nat.le_of_ble_eq_true rfl⟩) hK hP hD hS hA hG hl [0, 1, 2, 3, 4, 5, 6] 0 (by decide) rfl (ci := 2) rfl rfl rfl rfl rfl rfl rfl (Nat.le_of_ble_eq_true rfl) dX2_hasStatus_2 (Nat.zero_le _) (Nat.zero_le _) (fun H locs hP hD hS => ?_)
  refine lv_if_eq (tgt := 22) hx hb dX2_hasStatus_5 (by decide) (fun hc3 => ?_) (fun hc3 => ?_)
  · replace h := g_it hc3 h
    refine lv_iconst (v := (0 : Int32)) hx hb dX2_hasStatus_22 (by decide) ?_
    exact hret (0 : Int32) _ _ _ _ _ (Option.some.inj h) hP hS rfl rfl dX2_hasStatus_23
  · replace h := g_if hc3 h
    refine lv_aload_n hx hb dX2_hasStatus_8 rfl (lv_at hl 0 rfl) ?_
    refine va_get (D := E.1) (cl := vwCl) (ci := 2) (v := .ref a4) (C := RX2) (T := TX2) (N := 7) hx hb hts hiX2 hown hK hP 0 rfl rfl 3 (by decide) hw0 (fun _ h9 => h9) rfl dX2_hasStatus_9 ?_
    refine lv_iload_n hx hb dX2_hasStatus_12 rfl (lv_at hl 1 rfl) ?_
    obtain ⟨hg4, h⟩ := gd_s h
    refine va_iald (D := E.1) (cl := vwCl) (tys := gT E) hx hb hK hP 4 0 rfl rfl (inB_in hg4) dX2_hasStatus_13 ?_
    refine lv_iload_n hx hb dX2_hasStatus_14 rfl (lv_at hl 2 rfl) ?_
    refine lv_icmp_ne (tgt := 22) hx hb dX2_hasStatus_15 (by decide) (fun hc5 => ?_) (fun hc5 => ?_)
    · replace h := g_if hc5 h
      refine lv_iconst (v := (0 : Int32)) hx hb dX2_hasStatus_22 (by decide) ?_
      exact hret (0 : Int32) _ _ _ _ _ (Option.some.inj h) hP hS rfl rfl dX2_hasStatus_23
    · replace h := g_it hc5 h
      refine lv_iconst (v := (1 : Int32)) hx hb dX2_hasStatus_18 (by decide) ?_
      refine lv_goto (tgt := 23) hx hb dX2_hasStatus_19 (by decide) ?_
      exact hret (1 : Int32) _ _ _ _ _ (Option.some.inj h) hP hS rfl rfl dX2_hasStatus_23
set_option maxHeartbeats 4000000 in
set_option maxRecDepth 100000 in
theorem kX2_isAwaited (E : gE) (l : Launch) (a0 a1 a2 a3 a4 a5 a6 : Nat) (zs : Nat → Int32) (zd : Nat → Int32) (zn : Nat → Int32) (zt : Nat → Int32) (zl : Nat → Int32) (zc : Nat → Int32) (nm : Int32) (p1 : Int32) (res : Int32) (h : fX2_isAwaited zt nm p1 = some res) : gMI E l yX2_isAwaited wsX2_isAwaited ({ frames := 1, cells := 0, slots := 0, locals := 21 } : Room) [.ref a0, .int p1] (wPa E a0 a1 a2 a3 a4 a5 a6 zs zd zn zt zl zc nm) (fun res : Int32 => (wPa E a0 a1 a2 a3 a4 a5 a6 zs zd zn zt zl zc nm)) (fun res => res) res := by
  refine g_entZ (cc := cX2_isAwaited) (maxL := 2) (by decide) rfl (Nat.le_of_ble_eq_true rfl) ?_
  intro p e s m args below meth c A Q ls hx hb hml hown hts hK hP hD hS hA hG hret hl
  unfold fX2_isAwaited at h
  replace hl : lv_has ls 2 [(0, .ref a0), (1, .int p1)] := hl
  have hiX2 : ∀ w ∈ wsX20, w ∈ wsX2_isAwaited := by decide +kernel
  have hw0 := hts (.fieldLink RX2 19 "GlacierHut$Parties" "status" "[I") (by decide +kernel)
  refine lv_aload_n hx hb dX2_isAwaited_0 rfl (lv_at hl 0 rfl) ?_
  refine lv_iload_n hx hb dX2_isAwaited_1 rfl (lv_at hl 1 rfl) ?_
  obtain ⟨r1, hc2, h⟩ := bd1_s h
  refine g_callRi (As := [.int p1]) (rest := []) (r := r1) ⟨hx, hb, hml, hown, hts⟩ (kX2_has E l a0 a1 a2 a3 a4 a5 a6 zs zd zn zt zl zc nm p1 r1 hc2) (cwV 1 hts gX2_isAwaited_X2_has rfl rfl rfl (by decide +kernel) ⟨Nat.le_of_ble_eq_true rfl, Nat.le_of_ble_eq_true rfl⟩) hK hP hD hS hA hG hl [0, 1, 2, 3, 4, 5, 6] 0 (by decide) rfl (ci := 2) rfl rfl rfl rfl rfl rfl rfl (Nat.le_of_ble_eq_true rfl) dX2_isAwaited_2 (Nat.zero_le _) (Nat.zero_le _) (fun H locs hP hD hS => ?_)
  refine lv_if_eq (tgt := 31) hx hb dX2_isAwaited_5 (by decide) (fun hc3 => ?_) (fun hc3 => ?_)
  · replace h := g_it hc3 h
    refine lv_iconst (v := (0 : Int32)) hx hb dX2_isAwaited_31 (by decide) ?_
    exact hret (0 : Int32) _ _ _ _ _ (Option.some.inj h) hP hS rfl rfl dX2_isAwaited_32
  · replace h := g_if hc3 h
    refine lv_aload_n hx hb dX2_isAwaited_8 rfl (lv_at hl 0 rfl) ?_
    refine va_get (D := E.1) (cl := vwCl) (ci := 2) (v := .ref a4) (C := RX2) (T := TX2) (N := 7) hx hb hts hiX2 hown hK hP 0 rfl rfl 3 (by decide) hw0 (fun _ h9 => h9) rfl dX2_isAwaited_9 ?_
    refine lv_iload_n hx hb dX2_isAwaited_12 rfl (lv_at hl 1 rfl) ?_
    obtain ⟨hg4, h⟩ := gd_s h
    refine va_iald (D := E.1) (cl := vwCl) (tys := gT E) hx hb hK hP 4 0 rfl rfl (inB_in hg4) dX2_isAwaited_13 ?_
    refine lv_if_eq (tgt := 27) hx hb dX2_isAwaited_14 (by decide) (fun hc5 => ?_) (fun hc5 => ?_)
    · replace h := g_it hc5 h
      refine lv_iconst (v := (1 : Int32)) hx hb dX2_isAwaited_27 (by decide) ?_
      refine lv_goto (tgt := 32) hx hb dX2_isAwaited_28 (by decide) ?_
      exact hret (1 : Int32) _ _ _ _ _ (Option.some.inj h) hP hS rfl rfl dX2_isAwaited_32
    · replace h := g_if hc5 h
      refine lv_aload_n hx hb dX2_isAwaited_17 rfl (lv_at hl 0 rfl) ?_
      refine va_get (D := E.1) (cl := vwCl) (ci := 2) (v := .ref a4) (C := RX2) (T := TX2) (N := 7) hx hb hts hiX2 hown hK hP 0 rfl rfl 3 (by decide) hw0 (fun _ h9 => h9) rfl dX2_isAwaited_18 ?_
      refine lv_iload_n hx hb dX2_isAwaited_21 rfl (lv_at hl 1 rfl) ?_
      refine va_iald (D := E.1) (cl := vwCl) (tys := gT E) hx hb hK hP 4 0 rfl rfl (inB_in hg4) dX2_isAwaited_22 ?_
      refine lv_iconst (v := (1 : Int32)) hx hb dX2_isAwaited_23 (by decide) ?_
      refine lv_icmp_ne (tgt := 31) hx hb dX2_isAwaited_24 (by decide) (fun hc6 => ?_) (fun hc6 => ?_)
      · replace h := g_if hc6 h
        refine lv_iconst (v := (0 : Int32)) hx hb dX2_isAwaited_31 (by decide) ?_
        exact hret (0 : Int32) _ _ _ _ _ (Option.some.inj h) hP hS rfl rfl dX2_isAwaited_32
      · replace h := g_it hc6 h
        refine lv_iconst (v := (1 : Int32)) hx hb dX2_isAwaited_27 (by decide) ?_
        refine lv_goto (tgt := 32) hx hb dX2_isAwaited_28 (by decide) ?_
        exact hret (1 : Int32) _ _ _ _ _ (Option.some.inj h) hP hS rfl rfl dX2_isAwaited_32
set_option maxHeartbeats 4000000 in
set_option maxRecDepth 100000 in
theorem kX2_leave (E : gE) (l : Launch) (a0 a1 a2 a3 a4 a5 a6 : Nat) (zs : Nat → Int32) (zd : Nat → Int32) (zn : Nat → Int32) (zt : Nat → Int32) (zl : Nat → Int32) (zc : Nat → Int32) (nm : Int32)  (res : (Nat → Int32)) (h : fX2_leave zn zt zl nm  = some res) : gMV E l yX2_leave wsX2_leave ({ frames := 0, cells := 0, slots := 0, locals := 0 } : Room) [.ref a0] (wPa E a0 a1 a2 a3 a4 a5 a6 zs zd zn zt zl zc nm) (fun res : (Nat → Int32) => (wPa E a0 a1 a2 a3 a4 a5 a6 zs zd zn res zl zc nm)) res := by
  refine g_entV (cc := cX2_leave) (maxL := 2) (by decide) rfl (Nat.le_of_ble_eq_true rfl) ?_
  intro p e s m args below meth c A Q ls hx hb hml hown hts hK hP hD hS hA hG hret hl
  unfold fX2_leave at h
  replace hl : lv_has ls 2 [(0, .ref a0)] := hl
  have hiX2 : ∀ w ∈ wsX20, w ∈ wsX2_leave := by decide +kernel
  have hw0 := hts (.fieldLink RX2 34 "GlacierHut$Parties" "number" "I") (by decide +kernel)
  have hw1 := hts (.fieldLink RX2 19 "GlacierHut$Parties" "status" "[I") (by decide +kernel)
  have hw2 := hts (.fieldLink RX2 22 "GlacierHut$Parties" "slept" "[I") (by decide +kernel)
  have hw3 := hts (.fieldLink RX2 16 "GlacierHut$Parties" "nights" "[I") (by decide +kernel)
  refine lv_iconst (v := (0 : Int32)) hx hb dX2_leave_0 (by decide) ?_
  refine lv_istore_n (lv' := [(1, .int (0 : Int32)), (0, .ref a0)]) hx hb dX2_leave_1 rfl hl (by decide) rfl (fun ls hl => ?_)
  refine gl2_e h (fun S_rec1 hS_rec1 h => ?_)
  have hL_rec1 : ∀ (nF : Nat) (v2 : Int32) (zt3 : Nat → Int32) (H : Heap) (locs : List Loc) (ls : Array Slot), va_P E.1 vwCl (wPa E a0 a1 a2 a3 a4 a5 a6 zs zd zn zt3 zl zc nm) H → va_S A s.heap H locs → lv_has ls 2 [(1, .int v2), (0, .ref a0)] → gl2 S_rec1 nF v2 zt3 = some res → W p l e ({ frames := 0, cells := 0, slots := 0, locals := 0 } : Room) s m args below meth c H locs 0 0 Q (F0 m 2 ls []) := by
    intro nF
    induction nF with
    | zero => intro v2 zt3 H locs ls hP hS hl h; exact gl2_z h
    | succ nF ih_rec1 =>
      intro v2 zt3 H locs ls hP hS hl h
      replace hD : va_D A (wPa E a0 a1 a2 a3 a4 a5 a6 zs zd zn zt3 zl zc nm) := gD_same hD rfl
      replace h : S_rec1 (gl2 S_rec1 nF) v2 zt3 = some res := h
      generalize gl2 S_rec1 nF = rec1 at h ih_rec1
      subst hS_rec1
      unfold sX2_leave_rec1 at h
      refine lv_iload_n hx hb dX2_leave_2 rfl (lv_at hl 0 rfl) ?_
      refine lv_aload_n hx hb dX2_leave_3 rfl (lv_at hl 1 rfl) ?_
      refine va_get (D := E.1) (cl := vwCl) (ci := 2) (v := .int nm) (C := RX2) (T := TX2) (N := 7) hx hb hts hiX2 hown hK hP 0 rfl rfl 6 (by decide) hw0 (fun _ h9 => h9) rfl dX2_leave_4 ?_
      refine lv_icmp_ge (tgt := 48) hx hb dX2_leave_7 (by decide) (fun hc4 => ?_) (fun hc4 => ?_)
      · replace h := g_it hc4 h
        exact hret zt3 _ _ _ _ (Option.some.inj h) hP hS dX2_leave_48
      · replace h := g_if hc4 h
        refine lv_aload_n hx hb dX2_leave_10 rfl (lv_at hl 1 rfl) ?_
        refine va_get (D := E.1) (cl := vwCl) (ci := 2) (v := .ref a4) (C := RX2) (T := TX2) (N := 7) hx hb hts hiX2 hown hK hP 0 rfl rfl 3 (by decide) hw1 (fun _ h9 => h9) rfl dX2_leave_11 ?_
        refine lv_iload_n hx hb dX2_leave_14 rfl (lv_at hl 0 rfl) ?_
        obtain ⟨hg5, h⟩ := gd_s h
        refine va_iald (D := E.1) (cl := vwCl) (tys := gT E) hx hb hK hP 4 0 rfl rfl (inB_in hg5) dX2_leave_15 ?_
        refine lv_iconst (v := (1 : Int32)) hx hb dX2_leave_16 (by decide) ?_
        refine lv_icmp_ne (tgt := 42) hx hb dX2_leave_17 (by decide) (fun hc6 => ?_) (fun hc6 => ?_)
        · replace h := g_if hc6 h
          obtain ⟨v7, e_v7⟩ : ∃ y : Int32, y = (v2 + (1 : Int32)) := ⟨_, rfl⟩
          replace h := jl_s e_v7 h
          refine lv_iinc (v := v7) (lv' := [(1, .int v7), (0, .ref a0)]) hx hb dX2_leave_42 hl (k := 0) rfl (by rw [e_v7]; rfl) (by decide) rfl (fun ls hl => ?_)
          refine lv_goto (tgt := 2) hx hb dX2_leave_45 (by decide) ?_
          exact ih_rec1 v7 zt3 _ _ _ hP hS (lv_sub hl [0, 1] rfl) h
        · replace h := g_it hc6 h
          refine lv_aload_n hx hb dX2_leave_20 rfl (lv_at hl 1 rfl) ?_
          refine va_get (D := E.1) (cl := vwCl) (ci := 2) (v := .ref a5) (C := RX2) (T := TX2) (N := 7) hx hb hts hiX2 hown hK hP 0 rfl rfl 4 (by decide) hw2 (fun _ h9 => h9) rfl dX2_leave_21 ?_
          refine lv_iload_n hx hb dX2_leave_24 rfl (lv_at hl 0 rfl) ?_
          refine va_iald (D := E.1) (cl := vwCl) (tys := gT E) hx hb hK hP 5 0 rfl rfl (inB_in hg5) dX2_leave_25 ?_
          refine lv_aload_n hx hb dX2_leave_26 rfl (lv_at hl 1 rfl) ?_
          refine va_get (D := E.1) (cl := vwCl) (ci := 2) (v := .ref a3) (C := RX2) (T := TX2) (N := 7) hx hb hts hiX2 hown hK hP 0 rfl rfl 2 (by decide) hw3 (fun _ h9 => h9) rfl dX2_leave_27 ?_
          refine lv_iload_n hx hb dX2_leave_30 rfl (lv_at hl 0 rfl) ?_
          refine va_iald (D := E.1) (cl := vwCl) (tys := gT E) hx hb hK hP 3 0 rfl rfl (inB_in hg5) dX2_leave_31 ?_
          refine lv_icmp_lt (tgt := 42) hx hb dX2_leave_32 (by decide) (fun hc8 => ?_) (fun hc8 => ?_)
          · replace h := g_it hc8 h
            obtain ⟨v9, e_v9⟩ : ∃ y : Int32, y = (v2 + (1 : Int32)) := ⟨_, rfl⟩
            replace h := jl_s e_v9 h
            refine lv_iinc (v := v9) (lv' := [(1, .int v9), (0, .ref a0)]) hx hb dX2_leave_42 hl (k := 0) rfl (by rw [e_v9]; rfl) (by decide) rfl (fun ls hl => ?_)
            refine lv_goto (tgt := 2) hx hb dX2_leave_45 (by decide) ?_
            exact ih_rec1 v9 zt3 _ _ _ hP hS (lv_sub hl [0, 1] rfl) h
          · replace h := g_if hc8 h
            refine lv_aload_n hx hb dX2_leave_35 rfl (lv_at hl 1 rfl) ?_
            refine va_get (D := E.1) (cl := vwCl) (ci := 2) (v := .ref a4) (C := RX2) (T := TX2) (N := 7) hx hb hts hiX2 hown hK hP 0 rfl rfl 3 (by decide) hw1 (fun _ h9 => h9) rfl dX2_leave_36 ?_
            refine lv_iload_n hx hb dX2_leave_39 rfl (lv_at hl 0 rfl) ?_
            refine lv_iconst (v := (2 : Int32)) hx hb dX2_leave_40 (by decide) ?_
            refine va_iast (D := E.1) (cl := vwCl) (tys := gT E) hx hb hK hP hD hS 4 0 rfl rfl (inB_in hg5) dX2_leave_41 (fun H locs hP hD hS => ?_)
            obtain ⟨zt10, e_zt10⟩ : ∃ y : Nat → Int32, y = (upd zt3 (v2).toNatClampNeg (2 : Int32)) := ⟨_, rfl⟩
            replace h := jl_s e_zt10 h
            replace hP : va_P E.1 vwCl (wPa E a0 a1 a2 a3 a4 a5 a6 zs zd zn zt10 zl zc nm) H := (by rw [e_zt10]; exact hP)
            replace hD : va_D A (wPa E a0 a1 a2 a3 a4 a5 a6 zs zd zn zt10 zl zc nm) := gD_same hD rfl
            obtain ⟨v11, e_v11⟩ : ∃ y : Int32, y = (v2 + (1 : Int32)) := ⟨_, rfl⟩
            replace h := jl_s e_v11 h
            refine lv_iinc (v := v11) (lv' := [(1, .int v11), (0, .ref a0)]) hx hb dX2_leave_42 hl (k := 0) rfl (by rw [e_v11]; rfl) (by decide) rfl (fun ls hl => ?_)
            refine lv_goto (tgt := 2) hx hb dX2_leave_45 (by decide) ?_
            exact ih_rec1 v11 zt10 _ _ _ hP hS (lv_sub hl [0, 1] rfl) h
  exact hL_rec1 gFU (0 : Int32) zt _ _ _ hP hS (lv_sub hl [0, 1] rfl) h
set_option maxHeartbeats 4000000 in
set_option maxRecDepth 100000 in
theorem kX2_sleepOnce (E : gE) (l : Launch) (a0 a1 a2 a3 a4 a5 a6 : Nat) (zs : Nat → Int32) (zd : Nat → Int32) (zn : Nat → Int32) (zt : Nat → Int32) (zl : Nat → Int32) (zc : Nat → Int32) (nm : Int32)  (res : (Nat → Int32)) (h : fX2_sleepOnce zt zl nm  = some res) : gMV E l yX2_sleepOnce wsX2_sleepOnce ({ frames := 0, cells := 0, slots := 0, locals := 0 } : Room) [.ref a0] (wPa E a0 a1 a2 a3 a4 a5 a6 zs zd zn zt zl zc nm) (fun res : (Nat → Int32) => (wPa E a0 a1 a2 a3 a4 a5 a6 zs zd zn zt res zc nm)) res := by
  refine g_entV (cc := cX2_sleepOnce) (maxL := 2) (by decide) rfl (Nat.le_of_ble_eq_true rfl) ?_
  intro p e s m args below meth c A Q ls hx hb hml hown hts hK hP hD hS hA hG hret hl
  unfold fX2_sleepOnce at h
  replace hl : lv_has ls 2 [(0, .ref a0)] := hl
  have hiX2 : ∀ w ∈ wsX20, w ∈ wsX2_sleepOnce := by decide +kernel
  have hw0 := hts (.fieldLink RX2 34 "GlacierHut$Parties" "number" "I") (by decide +kernel)
  have hw1 := hts (.fieldLink RX2 19 "GlacierHut$Parties" "status" "[I") (by decide +kernel)
  have hw2 := hts (.fieldLink RX2 22 "GlacierHut$Parties" "slept" "[I") (by decide +kernel)
  refine lv_iconst (v := (0 : Int32)) hx hb dX2_sleepOnce_0 (by decide) ?_
  refine lv_istore_n (lv' := [(1, .int (0 : Int32)), (0, .ref a0)]) hx hb dX2_sleepOnce_1 rfl hl (by decide) rfl (fun ls hl => ?_)
  refine gl2_e h (fun S_rec1 hS_rec1 h => ?_)
  have hL_rec1 : ∀ (nF : Nat) (v2 : Int32) (zl3 : Nat → Int32) (H : Heap) (locs : List Loc) (ls : Array Slot), va_P E.1 vwCl (wPa E a0 a1 a2 a3 a4 a5 a6 zs zd zn zt zl3 zc nm) H → va_S A s.heap H locs → lv_has ls 2 [(1, .int v2), (0, .ref a0)] → gl2 S_rec1 nF v2 zl3 = some res → W p l e ({ frames := 0, cells := 0, slots := 0, locals := 0 } : Room) s m args below meth c H locs 0 0 Q (F0 m 2 ls []) := by
    intro nF
    induction nF with
    | zero => intro v2 zl3 H locs ls hP hS hl h; exact gl2_z h
    | succ nF ih_rec1 =>
      intro v2 zl3 H locs ls hP hS hl h
      replace hD : va_D A (wPa E a0 a1 a2 a3 a4 a5 a6 zs zd zn zt zl3 zc nm) := gD_same hD rfl
      replace h : S_rec1 (gl2 S_rec1 nF) v2 zl3 = some res := h
      generalize gl2 S_rec1 nF = rec1 at h ih_rec1
      subst hS_rec1
      unfold sX2_sleepOnce_rec1 at h
      refine lv_iload_n hx hb dX2_sleepOnce_2 rfl (lv_at hl 0 rfl) ?_
      refine lv_aload_n hx hb dX2_sleepOnce_3 rfl (lv_at hl 1 rfl) ?_
      refine va_get (D := E.1) (cl := vwCl) (ci := 2) (v := .int nm) (C := RX2) (T := TX2) (N := 7) hx hb hts hiX2 hown hK hP 0 rfl rfl 6 (by decide) hw0 (fun _ h9 => h9) rfl dX2_sleepOnce_4 ?_
      refine lv_icmp_ge (tgt := 36) hx hb dX2_sleepOnce_7 (by decide) (fun hc4 => ?_) (fun hc4 => ?_)
      · replace h := g_it hc4 h
        exact hret zl3 _ _ _ _ (Option.some.inj h) hP hS dX2_sleepOnce_36
      · replace h := g_if hc4 h
        refine lv_aload_n hx hb dX2_sleepOnce_10 rfl (lv_at hl 1 rfl) ?_
        refine va_get (D := E.1) (cl := vwCl) (ci := 2) (v := .ref a4) (C := RX2) (T := TX2) (N := 7) hx hb hts hiX2 hown hK hP 0 rfl rfl 3 (by decide) hw1 (fun _ h9 => h9) rfl dX2_sleepOnce_11 ?_
        refine lv_iload_n hx hb dX2_sleepOnce_14 rfl (lv_at hl 0 rfl) ?_
        obtain ⟨hg5, h⟩ := gd_s h
        refine va_iald (D := E.1) (cl := vwCl) (tys := gT E) hx hb hK hP 4 0 rfl rfl (inB_in hg5) dX2_sleepOnce_15 ?_
        refine lv_iconst (v := (1 : Int32)) hx hb dX2_sleepOnce_16 (by decide) ?_
        refine lv_icmp_ne (tgt := 30) hx hb dX2_sleepOnce_17 (by decide) (fun hc6 => ?_) (fun hc6 => ?_)
        · replace h := g_if hc6 h
          obtain ⟨v7, e_v7⟩ : ∃ y : Int32, y = (v2 + (1 : Int32)) := ⟨_, rfl⟩
          replace h := jl_s e_v7 h
          refine lv_iinc (v := v7) (lv' := [(1, .int v7), (0, .ref a0)]) hx hb dX2_sleepOnce_30 hl (k := 0) rfl (by rw [e_v7]; rfl) (by decide) rfl (fun ls hl => ?_)
          refine lv_goto (tgt := 2) hx hb dX2_sleepOnce_33 (by decide) ?_
          exact ih_rec1 v7 zl3 _ _ _ hP hS (lv_sub hl [0, 1] rfl) h
        · replace h := g_it hc6 h
          refine lv_aload_n hx hb dX2_sleepOnce_20 rfl (lv_at hl 1 rfl) ?_
          refine va_get (D := E.1) (cl := vwCl) (ci := 2) (v := .ref a5) (C := RX2) (T := TX2) (N := 7) hx hb hts hiX2 hown hK hP 0 rfl rfl 4 (by decide) hw2 (fun _ h9 => h9) rfl dX2_sleepOnce_21 ?_
          refine lv_iload_n hx hb dX2_sleepOnce_24 rfl (lv_at hl 0 rfl) ?_
          refine lv_dup2_11 hx hb dX2_sleepOnce_25 rfl rfl ?_
          refine va_iald (D := E.1) (cl := vwCl) (tys := gT E) hx hb hK hP 5 0 rfl rfl (inB_in hg5) dX2_sleepOnce_26 ?_
          refine lv_iconst (v := (1 : Int32)) hx hb dX2_sleepOnce_27 (by decide) ?_
          refine lv_iadd hx hb dX2_sleepOnce_28 ?_
          refine va_iast (D := E.1) (cl := vwCl) (tys := gT E) hx hb hK hP hD hS 5 0 rfl rfl (inB_in hg5) dX2_sleepOnce_29 (fun H locs hP hD hS => ?_)
          obtain ⟨zl8, e_zl8⟩ : ∃ y : Nat → Int32, y = (upd zl3 (v2).toNatClampNeg ((zl3 (v2).toNatClampNeg) + (1 : Int32))) := ⟨_, rfl⟩
          replace h := jl_s e_zl8 h
          replace hP : va_P E.1 vwCl (wPa E a0 a1 a2 a3 a4 a5 a6 zs zd zn zt zl8 zc nm) H := (by rw [e_zl8]; exact hP)
          replace hD : va_D A (wPa E a0 a1 a2 a3 a4 a5 a6 zs zd zn zt zl8 zc nm) := gD_same hD rfl
          obtain ⟨v9, e_v9⟩ : ∃ y : Int32, y = (v2 + (1 : Int32)) := ⟨_, rfl⟩
          replace h := jl_s e_v9 h
          refine lv_iinc (v := v9) (lv' := [(1, .int v9), (0, .ref a0)]) hx hb dX2_sleepOnce_30 hl (k := 0) rfl (by rw [e_v9]; rfl) (by decide) rfl (fun ls hl => ?_)
          refine lv_goto (tgt := 2) hx hb dX2_sleepOnce_33 (by decide) ?_
          exact ih_rec1 v9 zl8 _ _ _ hP hS (lv_sub hl [0, 1] rfl) h
  exact hL_rec1 gFU (0 : Int32) zl _ _ _ hP hS (lv_sub hl [0, 1] rfl) h
set_option maxHeartbeats 4000000 in
set_option maxRecDepth 100000 in
theorem kX2_withStatus (E : gE) (l : Launch) (a0 a1 a2 a3 a4 a5 a6 : Nat) (zs : Nat → Int32) (zd : Nat → Int32) (zn : Nat → Int32) (zt : Nat → Int32) (zl : Nat → Int32) (zc : Nat → Int32) (nm : Int32) (p1 : Int32) (res : Int32) (h : fX2_withStatus zt nm p1 = some res) : gMI E l yX2_withStatus wsX2_withStatus ({ frames := 0, cells := 0, slots := 0, locals := 0 } : Room) [.ref a0, .int p1] (wPa E a0 a1 a2 a3 a4 a5 a6 zs zd zn zt zl zc nm) (fun res : Int32 => (wPa E a0 a1 a2 a3 a4 a5 a6 zs zd zn zt zl zc nm)) (fun res => res) res := by
  refine g_entI (cc := cX2_withStatus) (maxL := 4) (by decide) rfl (Nat.le_of_ble_eq_true rfl) ?_
  intro p e s m args below meth c A Q ls hx hb hml hown hts hK hP hD hS hA hG hret hl
  unfold fX2_withStatus at h
  replace hl : lv_has ls 4 [(0, .ref a0), (1, .int p1)] := hl
  have hiX2 : ∀ w ∈ wsX20, w ∈ wsX2_withStatus := by decide +kernel
  have hw0 := hts (.fieldLink RX2 34 "GlacierHut$Parties" "number" "I") (by decide +kernel)
  have hw1 := hts (.fieldLink RX2 19 "GlacierHut$Parties" "status" "[I") (by decide +kernel)
  refine lv_iconst (v := (0 : Int32)) hx hb dX2_withStatus_0 (by decide) ?_
  refine lv_istore_n (lv' := [(2, .int (0 : Int32)), (0, .ref a0), (1, .int p1)]) hx hb dX2_withStatus_1 rfl hl (by decide) rfl (fun ls hl => ?_)
  refine lv_iconst (v := (0 : Int32)) hx hb dX2_withStatus_2 (by decide) ?_
  refine lv_istore_n (lv' := [(3, .int (0 : Int32)), (2, .int (0 : Int32)), (0, .ref a0), (1, .int p1)]) hx hb dX2_withStatus_3 rfl hl (by decide) rfl (fun ls hl => ?_)
  refine gl2_e h (fun S_rec1 hS_rec1 h => ?_)
  have hL_rec1 : ∀ (nF : Nat) (v2 : Int32) (v3 : Int32) (H : Heap) (locs : List Loc) (ls : Array Slot), va_P E.1 vwCl (wPa E a0 a1 a2 a3 a4 a5 a6 zs zd zn zt zl zc nm) H → va_S A s.heap H locs → lv_has ls 4 [(3, .int v2), (2, .int v3), (0, .ref a0), (1, .int p1)] → gl2 S_rec1 nF v2 v3 = some res → W p l e ({ frames := 0, cells := 0, slots := 0, locals := 0 } : Room) s m args below meth c H locs 0 0 Q (F0 m 4 ls []) := by
    intro nF
    induction nF with
    | zero => intro v2 v3 H locs ls hP hS hl h; exact gl2_z h
    | succ nF ih_rec1 =>
      intro v2 v3 H locs ls hP hS hl h
      replace hD : va_D A (wPa E a0 a1 a2 a3 a4 a5 a6 zs zd zn zt zl zc nm) := gD_same hD rfl
      replace h : S_rec1 (gl2 S_rec1 nF) v2 v3 = some res := h
      generalize gl2 S_rec1 nF = rec1 at h ih_rec1
      subst hS_rec1
      unfold sX2_withStatus_rec1 at h
      refine lv_iload_n hx hb dX2_withStatus_4 rfl (lv_at hl 0 rfl) ?_
      refine lv_aload_n hx hb dX2_withStatus_5 rfl (lv_at hl 2 rfl) ?_
      refine va_get (D := E.1) (cl := vwCl) (ci := 2) (v := .int nm) (C := RX2) (T := TX2) (N := 7) hx hb hts hiX2 hown hK hP 0 rfl rfl 6 (by decide) hw0 (fun _ h9 => h9) rfl dX2_withStatus_6 ?_
      refine lv_icmp_ge (tgt := 31) hx hb dX2_withStatus_9 (by decide) (fun hc4 => ?_) (fun hc4 => ?_)
      · replace h := g_it hc4 h
        refine lv_iload_n hx hb dX2_withStatus_31 rfl (lv_at hl 1 rfl) ?_
        exact hret v3 _ _ _ _ _ (Option.some.inj h) hP hS rfl dX2_withStatus_32
      · replace h := g_if hc4 h
        refine lv_aload_n hx hb dX2_withStatus_12 rfl (lv_at hl 2 rfl) ?_
        refine va_get (D := E.1) (cl := vwCl) (ci := 2) (v := .ref a4) (C := RX2) (T := TX2) (N := 7) hx hb hts hiX2 hown hK hP 0 rfl rfl 3 (by decide) hw1 (fun _ h9 => h9) rfl dX2_withStatus_13 ?_
        refine lv_iload_n hx hb dX2_withStatus_16 rfl (lv_at hl 0 rfl) ?_
        obtain ⟨hg5, h⟩ := gd_s h
        refine va_iald (D := E.1) (cl := vwCl) (tys := gT E) hx hb hK hP 4 0 rfl rfl (inB_in hg5) dX2_withStatus_17 ?_
        refine lv_iload_n hx hb dX2_withStatus_18 rfl (lv_at hl 3 rfl) ?_
        refine lv_icmp_ne (tgt := 25) hx hb dX2_withStatus_19 (by decide) (fun hc6 => ?_) (fun hc6 => ?_)
        · replace h := g_if hc6 h
          obtain ⟨v7, e_v7⟩ : ∃ y : Int32, y = (v2 + (1 : Int32)) := ⟨_, rfl⟩
          replace h := jl_s e_v7 h
          refine lv_iinc (v := v7) (lv' := [(3, .int v7), (2, .int v3), (0, .ref a0), (1, .int p1)]) hx hb dX2_withStatus_25 hl (k := 0) rfl (by rw [e_v7]; rfl) (by decide) rfl (fun ls hl => ?_)
          refine lv_goto (tgt := 4) hx hb dX2_withStatus_28 (by decide) ?_
          exact ih_rec1 v7 v3 _ _ _ hP hS (lv_sub hl [0, 1, 2, 3] rfl) h
        · replace h := g_it hc6 h
          obtain ⟨v8, e_v8⟩ : ∃ y : Int32, y = (v3 + (1 : Int32)) := ⟨_, rfl⟩
          replace h := jl_s e_v8 h
          refine lv_iinc (v := v8) (lv' := [(2, .int v8), (3, .int v2), (0, .ref a0), (1, .int p1)]) hx hb dX2_withStatus_22 hl (k := 1) rfl (by rw [e_v8]; rfl) (by decide) rfl (fun ls hl => ?_)
          obtain ⟨v9, e_v9⟩ : ∃ y : Int32, y = (v2 + (1 : Int32)) := ⟨_, rfl⟩
          replace h := jl_s e_v9 h
          refine lv_iinc (v := v9) (lv' := [(3, .int v9), (2, .int v8), (0, .ref a0), (1, .int p1)]) hx hb dX2_withStatus_25 hl (k := 1) rfl (by rw [e_v9]; rfl) (by decide) rfl (fun ls hl => ?_)
          refine lv_goto (tgt := 4) hx hb dX2_withStatus_28 (by decide) ?_
          exact ih_rec1 v9 v8 _ _ _ hP hS (lv_sub hl [0, 1, 2, 3] rfl) h
  exact hL_rec1 gFU (0 : Int32) (0 : Int32) _ _ _ hP hS (lv_sub hl [0, 1, 2, 3] rfl) h
