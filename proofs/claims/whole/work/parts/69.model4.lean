set_option maxHeartbeats 4000000 in
set_option maxRecDepth 100000 in
theorem kX7_sleeps (E : gE) (l : Launch) (a0 a1 a2 a3 a4 a5 a6 a7 : Nat) (ss : Nat → Int32) (bg : Nat → Int32) (kp : Nat → Int32) (ik : Int32) (pt : Nat → Int32) (st : Int32) (tx : Nat → Int32) (ln : Int32) (asd : Nat → Int32) (att : Int32) (dn : Int32) (td : Int32) (fo : Int32) (nb : Nat → Int32) (p1 : Int32) (res : Int32 × (Nat → Int32)) (h : fX7_sleeps ss p1 = some res) : gMI E l yX7_sleeps wsX7_sleeps ({ frames := 5, cells := 0, slots := 0, locals := 116 } : Room) [.ref a0, .int p1] (wMo E a0 a1 a2 a3 a4 a5 a6 a7 ss bg kp ik pt st tx ln asd att dn td fo nb) (fun res : Int32 × (Nat → Int32) => (wMo E a0 a1 a2 a3 a4 a5 a6 a7 res.2 bg kp ik pt st tx ln asd att dn td fo nb)) (fun res => res.1) res := by
  refine g_entI (cc := cX7_sleeps) (maxL := 4) (by decide) rfl (Nat.le_of_ble_eq_true rfl) ?_
  intro p e s m args below meth c A Q ls hx hb hml hown hts hK hP hD hS hA hG hret hl
  unfold fX7_sleeps at h
  replace hl : lv_has ls 4 [(0, .ref a0), (1, .int p1)] := hl
  have hiX7 : ∀ w ∈ wsX70, w ∈ wsX7_sleeps := by decide +kernel
  have hw0 := hts (.fieldLink RX7 7 "GlacierHutModel" "s" "[I") (by decide +kernel)
  refine lv_iload_n hx hb dX7_sleeps_0 rfl (lv_at hl 1 rfl) ?_
  refine lv_iconst (v := (1 : Int32)) hx hb dX7_sleeps_1 (by decide) ?_
  refine lv_bipush (v := (60 : Int32)) hx hb dX7_sleeps_2 (by decide) ?_
  obtain ⟨r1, hc2, h⟩ := bd1_s h
  refine g_callSi (As := [.int p1, .int (1 : Int32), .int (60 : Int32)]) (rest := []) (r := r1) ⟨hx, hb, hml, hown, hts⟩ (kX7_in E l p1 (1 : Int32) (60 : Int32) r1 hc2) (va_cwS 3 hts gX7_sleeps_X7_in rfl rfl rfl (by decide +kernel) ⟨Nat.le_of_ble_eq_true rfl, Nat.le_of_ble_eq_true rfl⟩) hK hP hD hS hA hG hl rfl rfl rfl (Nat.le_of_ble_eq_true rfl) dX7_sleeps_4 (Nat.zero_le _) (Nat.zero_le _) (fun H locs hP hD hS => ?_)
  refine lv_if_ne (tgt := 12) hx hb dX7_sleeps_7 (by decide) (fun hc3 => ?_) (fun hc3 => ?_)
  · replace h := g_if hc3 h
    refine lv_aload_n hx hb dX7_sleeps_12 rfl (lv_at hl 0 rfl) ?_
    refine va_get (D := E.1) (cl := vwCl) (ci := 7) (v := .ref a1) (C := RX7) (T := TX7) (N := 14) hx hb hts hiX7 hown hK hP 0 rfl rfl 0 (by decide) hw0 (fun _ h9 => h9) rfl dX7_sleeps_13 ?_
    refine lv_iconst (v := (0 : Int32)) hx hb dX7_sleeps_16 (by decide) ?_
    obtain ⟨hg4, h⟩ := gd_s h
    refine va_iald (D := E.1) (cl := vwCl) (tys := gT E) hx hb hK hP 1 0 rfl rfl (inB_in hg4) dX7_sleeps_17 ?_
    refine lv_iload_n hx hb dX7_sleeps_18 rfl (lv_at hl 1 rfl) ?_
    refine lv_iadd hx hb dX7_sleeps_19 ?_
    refine lv_sipush (v := (365 : Int32)) hx hb dX7_sleeps_20 (by decide) ?_
    refine lv_icmp_le (tgt := 29) hx hb dX7_sleeps_23 (by decide) (fun hc5 => ?_) (fun hc5 => ?_)
    · replace h := g_it hc5 h
      refine lv_aload_n hx hb dX7_sleeps_29 rfl (lv_at hl 0 rfl) ?_
      refine va_get (D := E.1) (cl := vwCl) (ci := 7) (v := .ref a1) (C := RX7) (T := TX7) (N := 14) hx hb hts hiX7 hown hK hP 0 rfl rfl 0 (by decide) hw0 (fun _ h9 => h9) rfl dX7_sleeps_30 ?_
      refine lv_iconst (v := (5 : Int32)) hx hb dX7_sleeps_33 (by decide) ?_
      obtain ⟨hg6, h⟩ := gd_s h
      refine va_iald (D := E.1) (cl := vwCl) (tys := gT E) hx hb hK hP 1 0 rfl rfl (inB_in hg6) dX7_sleeps_34 ?_
      refine lv_topi (fun v7 e_v7 => ?_)
      replace h := jl_s e_v7 h
      refine lv_istore_n (lv' := [(2, .int v7), (0, .ref a0), (1, .int p1)]) hx hb dX7_sleeps_35 rfl hl (by decide) rfl (fun ls hl => ?_)
      refine lv_iconst (v := (0 : Int32)) hx hb dX7_sleeps_36 (by decide) ?_
      refine lv_istore_n (lv' := [(3, .int (0 : Int32)), (2, .int v7), (0, .ref a0), (1, .int p1)]) hx hb dX7_sleeps_37 rfl hl (by decide) rfl (fun ls hl => ?_)
      refine gl2_e h (fun S_rec8 hS_rec8 h => ?_)
      have hL_rec8 : ∀ (nF : Nat) (v9 : Int32) (ss10 : Nat → Int32) (H : Heap) (locs : List Loc) (ls : Array Slot), va_P E.1 vwCl (wMo E a0 a1 a2 a3 a4 a5 a6 a7 ss10 bg kp ik pt st tx ln asd att dn td fo nb) H → va_S A s.heap H locs → lv_has ls 4 [(3, .int v9), (2, .int v7), (0, .ref a0), (1, .int p1)] → gl2 S_rec8 nF v9 ss10 = some res → W p l e ({ frames := 5, cells := 0, slots := 0, locals := 116 } : Room) s m args below meth c H locs 0 0 Q (F0 m 38 ls []) := by
        intro nF
        induction nF with
        | zero => intro v9 ss10 H locs ls hP hS hl h; exact gl2_z h
        | succ nF ih_rec8 =>
          intro v9 ss10 H locs ls hP hS hl h
          replace hD : va_D A (wMo E a0 a1 a2 a3 a4 a5 a6 a7 ss10 bg kp ik pt st tx ln asd att dn td fo nb) := gD_same hD rfl
          replace h : S_rec8 (gl2 S_rec8 nF) v9 ss10 = some res := h
          generalize gl2 S_rec8 nF = rec8 at h ih_rec8
          subst hS_rec8
          unfold sX7_sleeps_rec8 at h
          refine lv_iload_n hx hb dX7_sleeps_38 rfl (lv_at hl 0 rfl) ?_
          refine lv_iload_n hx hb dX7_sleeps_39 rfl (lv_at hl 3 rfl) ?_
          refine lv_icmp_ge (tgt := 53) hx hb dX7_sleeps_40 (by decide) (fun hc11 => ?_) (fun hc11 => ?_)
          · replace h := g_it hc11 h
            refine lv_aload_n hx hb dX7_sleeps_53 rfl (lv_at hl 2 rfl) ?_
            refine va_get (D := E.1) (cl := vwCl) (ci := 7) (v := .ref a1) (C := RX7) (T := TX7) (N := 14) hx hb hts hiX7 hown hK hP 0 rfl rfl 0 (by decide) hw0 (fun _ h9 => h9) rfl dX7_sleeps_54 ?_
            refine lv_iconst (v := (5 : Int32)) hx hb dX7_sleeps_57 (by decide) ?_
            refine va_iald (D := E.1) (cl := vwCl) (tys := gT E) hx hb hK hP 1 0 rfl rfl (inB_in hg6) dX7_sleeps_58 ?_
            refine lv_iload_n hx hb dX7_sleeps_59 rfl (lv_at hl 1 rfl) ?_
            refine lv_isub hx hb dX7_sleeps_60 ?_
            exact hret (((ss10 ((5 : Int32)).toNatClampNeg) - v7), ss10) _ _ _ _ _ (Option.some.inj h) hP hS rfl dX7_sleeps_61
          · replace h := g_if hc11 h
            refine lv_aload_n hx hb dX7_sleeps_43 rfl (lv_at hl 2 rfl) ?_
            obtain ⟨ss12, hc13, h⟩ := bd1_s h
            refine g_callVv (As := []) (rest := []) (ws1 := (wMo E a0 a1 a2 a3 a4 a5 a6 a7 ss12 bg kp ik pt st tx ln asd att dn td fo nb)) ⟨hx, hb, hml, hown, hts⟩ (kX7_night E l a0 a1 a2 a3 a4 a5 a6 a7 ss10 bg kp ik pt st tx ln asd att dn td fo nb ss12 hc13) (cwV 0 hts gX7_sleeps_X7_night rfl rfl rfl (by decide +kernel) ⟨Nat.le_of_ble_eq_true rfl, Nat.le_of_ble_eq_true rfl⟩) hK hP hD hS hA hG hl [0, 1, 2, 3, 4, 5, 6, 7] 0 (by decide) rfl (ci := 7) rfl rfl rfl rfl rfl rfl rfl rfl (Nat.le_of_ble_eq_true rfl) dX7_sleeps_44 (Nat.zero_le _) (Nat.zero_le _) (fun H locs hP hD hS => ?_)
            obtain ⟨v14, e_v14⟩ : ∃ y : Int32, y = (v9 + (1 : Int32)) := ⟨_, rfl⟩
            replace h := jl_s e_v14 h
            refine lv_iinc (v := v14) (lv' := [(3, .int v14), (2, .int v7), (0, .ref a0), (1, .int p1)]) hx hb dX7_sleeps_47 hl (k := 0) rfl (by rw [e_v14]; rfl) (by decide) rfl (fun ls hl => ?_)
            refine lv_goto (tgt := 38) hx hb dX7_sleeps_50 (by decide) ?_
            exact ih_rec8 v14 ss12 _ _ _ hP hS (lv_sub hl [0, 1, 2, 3] rfl) h
      exact hL_rec8 gFU (0 : Int32) ss _ _ _ hP hS (lv_sub hl [0, 1, 2, 3] rfl) h
    · replace h := g_if hc5 h
      refine lv_bipush (v := (-3 : Int32)) hx hb dX7_sleeps_26 (by decide) ?_
      exact hret ((-3 : Int32), ss) _ _ _ _ _ (Option.some.inj h) hP hS rfl dX7_sleeps_28
  · replace h := g_it hc3 h
    refine lv_iconst (v := (-1 : Int32)) hx hb dX7_sleeps_10 (by decide) ?_
    exact hret ((-1 : Int32), ss) _ _ _ _ _ (Option.some.inj h) hP hS rfl dX7_sleeps_11
set_option maxHeartbeats 4000000 in
set_option maxRecDepth 100000 in
theorem kX7_comes (E : gE) (l : Launch) (a0 a1 a2 a3 a4 a5 a6 a7 : Nat) (ss : Nat → Int32) (bg : Nat → Int32) (kp : Nat → Int32) (ik : Int32) (pt : Nat → Int32) (st : Int32) (tx : Nat → Int32) (ln : Int32) (asd : Nat → Int32) (att : Int32) (dn : Int32) (td : Int32) (fo : Int32) (nb : Nat → Int32) (p1 : Int32) (p2 : Int32) (p3 : Int32) (res : (Nat → Int32)) (h : fX7_comes ss p1 p2 p3 = some res) : gMV E l yX7_comes wsX7_comes ({ frames := 1, cells := 0, slots := 0, locals := 22 } : Room) [.ref a0, .int p1, .int p2, .int p3] (wMo E a0 a1 a2 a3 a4 a5 a6 a7 ss bg kp ik pt st tx ln asd att dn td fo nb) (fun res : (Nat → Int32) => (wMo E a0 a1 a2 a3 a4 a5 a6 a7 res bg kp ik pt st tx ln asd att dn td fo nb)) res := by
  refine g_entV (cc := cX7_comes) (maxL := 6) (by decide) rfl (Nat.le_of_ble_eq_true rfl) ?_
  intro p e s m args below meth c A Q ls hx hb hml hown hts hK hP hD hS hA hG hret hl
  unfold fX7_comes at h
  replace hl : lv_has ls 6 [(0, .ref a0), (1, .int p1), (2, .int p2), (3, .int p3)] := hl
  have hiX7 : ∀ w ∈ wsX70, w ∈ wsX7_comes := by decide +kernel
  have hw0 := hts (.fieldLink RX7 7 "GlacierHutModel" "s" "[I") (by decide +kernel)
  refine lv_aload_n hx hb dX7_comes_0 rfl (lv_at hl 0 rfl) ?_
  refine va_get (D := E.1) (cl := vwCl) (ci := 7) (v := .ref a1) (C := RX7) (T := TX7) (N := 14) hx hb hts hiX7 hown hK hP 0 rfl rfl 0 (by decide) hw0 (fun _ h9 => h9) rfl dX7_comes_1 ?_
  refine lv_iconst (v := (2 : Int32)) hx hb dX7_comes_4 (by decide) ?_
  obtain ⟨hg1, h⟩ := gd_s h
  refine va_iald (D := E.1) (cl := vwCl) (tys := gT E) hx hb hK hP 1 0 rfl rfl (inB_in hg1) dX7_comes_5 ?_
  refine lv_topi (fun v2 e_v2 => ?_)
  replace h := jl_s e_v2 h
  refine lv_istore (lv' := [(4, .int v2), (0, .ref a0), (1, .int p1), (2, .int p2), (3, .int p3)]) hx hb dX7_comes_6 hl (by decide) rfl (fun ls hl => ?_)
  refine gl2_e h (fun S_rec3 hS_rec3 h => ?_)
  have hL_rec3 : ∀ (nF : Nat) (v4 : Int32) (ss5 : Nat → Int32) (H : Heap) (locs : List Loc) (ls : Array Slot), va_P E.1 vwCl (wMo E a0 a1 a2 a3 a4 a5 a6 a7 ss5 bg kp ik pt st tx ln asd att dn td fo nb) H → va_S A s.heap H locs → lv_has ls 6 [(4, .int v4), (0, .ref a0), (1, .int p1), (2, .int p2), (3, .int p3)] → gl2 S_rec3 nF v4 ss5 = some res → W p l e ({ frames := 1, cells := 0, slots := 0, locals := 22 } : Room) s m args below meth c H locs 0 0 Q (F0 m 8 ls []) := by
    intro nF
    induction nF with
    | zero => intro v4 ss5 H locs ls hP hS hl h; exact gl2_z h
    | succ nF ih_rec3 =>
      intro v4 ss5 H locs ls hP hS hl h
      replace hD : va_D A (wMo E a0 a1 a2 a3 a4 a5 a6 a7 ss5 bg kp ik pt st tx ln asd att dn td fo nb) := gD_same hD rfl
      replace h : S_rec3 (gl2 S_rec3 nF) v4 ss5 = some res := h
      generalize gl2 S_rec3 nF = rec3 at h ih_rec3
      subst hS_rec3
      unfold sX7_comes_rec3 at h
      refine lv_iload hx hb dX7_comes_8 (lv_at hl 0 rfl) ?_
      refine mrg_e h (fun J7 hK_J7 h => ?_)
      have hJ_J7 : ∀ (_ : Unit) (H : Heap) (locs : List Loc) (ls : Array Slot), va_P E.1 vwCl (wMo E a0 a1 a2 a3 a4 a5 a6 a7 ss5 bg kp ik pt st tx ln asd att dn td fo nb) H → va_S A s.heap H locs → lv_has ls 6 [(4, .int v4), (0, .ref a0), (1, .int p1), (2, .int p2), (3, .int p3)] → J7 () = some res → W p l e ({ frames := 1, cells := 0, slots := 0, locals := 22 } : Room) s m args below meth c H locs 0 0 Q (F0 m 72 ls []) := by
        intro _ H locs ls hP hS hl h
        replace hD : va_D A (wMo E a0 a1 a2 a3 a4 a5 a6 a7 ss5 bg kp ik pt st tx ln asd att dn td fo nb) := gD_same hD rfl
        subst hK_J7
        refine lv_aload_n hx hb dX7_comes_72 rfl (lv_at hl 1 rfl) ?_
        refine va_get (D := E.1) (cl := vwCl) (ci := 7) (v := .ref a1) (C := RX7) (T := TX7) (N := 14) hx hb hts hiX7 hown hK hP 0 rfl rfl 0 (by decide) hw0 (fun _ h9 => h9) rfl dX7_comes_73 ?_
        refine lv_bipush (v := (41 : Int32)) hx hb dX7_comes_76 (by decide) ?_
        refine lv_iconst (v := (3 : Int32)) hx hb dX7_comes_78 (by decide) ?_
        refine lv_iload hx hb dX7_comes_79 (lv_at hl 0 rfl) ?_
        refine lv_imul hx hb dX7_comes_81 ?_
        refine lv_iadd hx hb dX7_comes_82 ?_
        refine lv_iload_n hx hb dX7_comes_83 rfl (lv_at hl 2 rfl) ?_
        obtain ⟨hg21, h⟩ := gd_s h
        refine va_iast (D := E.1) (cl := vwCl) (tys := gT E) hx hb hK hP hD hS 1 0 rfl rfl (inB_in hg21) dX7_comes_84 (fun H locs hP hD hS => ?_)
        obtain ⟨ss22, e_ss22⟩ : ∃ y : Nat → Int32, y = (upd ss5 (((41 : Int32) + ((3 : Int32) * v4))).toNatClampNeg p1) := ⟨_, rfl⟩
        replace h := jl_s e_ss22 h
        replace hP : va_P E.1 vwCl (wMo E a0 a1 a2 a3 a4 a5 a6 a7 ss22 bg kp ik pt st tx ln asd att dn td fo nb) H := (by rw [e_ss22]; exact hP)
        replace hD : va_D A (wMo E a0 a1 a2 a3 a4 a5 a6 a7 ss22 bg kp ik pt st tx ln asd att dn td fo nb) := gD_same hD rfl
        refine lv_aload_n hx hb dX7_comes_85 rfl (lv_at hl 1 rfl) ?_
        refine va_get (D := E.1) (cl := vwCl) (ci := 7) (v := .ref a1) (C := RX7) (T := TX7) (N := 14) hx hb hts hiX7 hown hK hP 0 rfl rfl 0 (by decide) hw0 (fun _ h9 => h9) rfl dX7_comes_86 ?_
        refine lv_bipush (v := (41 : Int32)) hx hb dX7_comes_89 (by decide) ?_
        refine lv_iconst (v := (3 : Int32)) hx hb dX7_comes_91 (by decide) ?_
        refine lv_iload hx hb dX7_comes_92 (lv_at hl 0 rfl) ?_
        refine lv_imul hx hb dX7_comes_94 ?_
        refine lv_iadd hx hb dX7_comes_95 ?_
        refine lv_iconst (v := (1 : Int32)) hx hb dX7_comes_96 (by decide) ?_
        refine lv_iadd hx hb dX7_comes_97 ?_
        refine lv_iload_n hx hb dX7_comes_98 rfl (lv_at hl 3 rfl) ?_
        obtain ⟨hg23, h⟩ := gd_s h
        refine va_iast (D := E.1) (cl := vwCl) (tys := gT E) hx hb hK hP hD hS 1 0 rfl rfl (inB_in hg23) dX7_comes_99 (fun H locs hP hD hS => ?_)
        obtain ⟨ss24, e_ss24⟩ : ∃ y : Nat → Int32, y = (upd ss22 ((((41 : Int32) + ((3 : Int32) * v4)) + (1 : Int32))).toNatClampNeg p2) := ⟨_, rfl⟩
        replace h := jl_s e_ss24 h
        replace hP : va_P E.1 vwCl (wMo E a0 a1 a2 a3 a4 a5 a6 a7 ss24 bg kp ik pt st tx ln asd att dn td fo nb) H := (by rw [e_ss24]; exact hP)
        replace hD : va_D A (wMo E a0 a1 a2 a3 a4 a5 a6 a7 ss24 bg kp ik pt st tx ln asd att dn td fo nb) := gD_same hD rfl
        refine lv_aload_n hx hb dX7_comes_100 rfl (lv_at hl 1 rfl) ?_
        refine va_get (D := E.1) (cl := vwCl) (ci := 7) (v := .ref a1) (C := RX7) (T := TX7) (N := 14) hx hb hts hiX7 hown hK hP 0 rfl rfl 0 (by decide) hw0 (fun _ h9 => h9) rfl dX7_comes_101 ?_
        refine lv_bipush (v := (41 : Int32)) hx hb dX7_comes_104 (by decide) ?_
        refine lv_iconst (v := (3 : Int32)) hx hb dX7_comes_106 (by decide) ?_
        refine lv_iload hx hb dX7_comes_107 (lv_at hl 0 rfl) ?_
        refine lv_imul hx hb dX7_comes_109 ?_
        refine lv_iadd hx hb dX7_comes_110 ?_
        refine lv_iconst (v := (2 : Int32)) hx hb dX7_comes_111 (by decide) ?_
        refine lv_iadd hx hb dX7_comes_112 ?_
        refine lv_iload_n hx hb dX7_comes_113 rfl (lv_at hl 4 rfl) ?_
        obtain ⟨hg25, h⟩ := gd_s h
        refine va_iast (D := E.1) (cl := vwCl) (tys := gT E) hx hb hK hP hD hS 1 0 rfl rfl (inB_in hg25) dX7_comes_114 (fun H locs hP hD hS => ?_)
        obtain ⟨ss26, e_ss26⟩ : ∃ y : Nat → Int32, y = (upd ss24 ((((41 : Int32) + ((3 : Int32) * v4)) + (2 : Int32))).toNatClampNeg p3) := ⟨_, rfl⟩
        replace h := jl_s e_ss26 h
        replace hP : va_P E.1 vwCl (wMo E a0 a1 a2 a3 a4 a5 a6 a7 ss26 bg kp ik pt st tx ln asd att dn td fo nb) H := (by rw [e_ss26]; exact hP)
        replace hD : va_D A (wMo E a0 a1 a2 a3 a4 a5 a6 a7 ss26 bg kp ik pt st tx ln asd att dn td fo nb) := gD_same hD rfl
        refine lv_aload_n hx hb dX7_comes_115 rfl (lv_at hl 1 rfl) ?_
        refine va_get (D := E.1) (cl := vwCl) (ci := 7) (v := .ref a1) (C := RX7) (T := TX7) (N := 14) hx hb hts hiX7 hown hK hP 0 rfl rfl 0 (by decide) hw0 (fun _ h9 => h9) rfl dX7_comes_116 ?_
        refine lv_iconst (v := (2 : Int32)) hx hb dX7_comes_119 (by decide) ?_
        refine lv_dup2_11 hx hb dX7_comes_120 rfl rfl ?_
        refine va_iald (D := E.1) (cl := vwCl) (tys := gT E) hx hb hK hP 1 0 rfl rfl (inB_in hg1) dX7_comes_121 ?_
        refine lv_iconst (v := (1 : Int32)) hx hb dX7_comes_122 (by decide) ?_
        refine lv_iadd hx hb dX7_comes_123 ?_
        refine va_iast (D := E.1) (cl := vwCl) (tys := gT E) hx hb hK hP hD hS 1 0 rfl rfl (inB_in hg1) dX7_comes_124 (fun H locs hP hD hS => ?_)
        obtain ⟨ss27, e_ss27⟩ : ∃ y : Nat → Int32, y = (upd ss26 ((2 : Int32)).toNatClampNeg ((ss26 ((2 : Int32)).toNatClampNeg) + (1 : Int32))) := ⟨_, rfl⟩
        replace h := jl_s e_ss27 h
        replace hP : va_P E.1 vwCl (wMo E a0 a1 a2 a3 a4 a5 a6 a7 ss27 bg kp ik pt st tx ln asd att dn td fo nb) H := (by rw [e_ss27]; exact hP)
        replace hD : va_D A (wMo E a0 a1 a2 a3 a4 a5 a6 a7 ss27 bg kp ik pt st tx ln asd att dn td fo nb) := gD_same hD rfl
        refine lv_aload_n hx hb dX7_comes_125 rfl (lv_at hl 1 rfl) ?_
        refine va_get (D := E.1) (cl := vwCl) (ci := 7) (v := .ref a1) (C := RX7) (T := TX7) (N := 14) hx hb hts hiX7 hown hK hP 0 rfl rfl 0 (by decide) hw0 (fun _ h9 => h9) rfl dX7_comes_126 ?_
        refine lv_bipush (v := (14 : Int32)) hx hb dX7_comes_129 (by decide) ?_
        refine lv_iload_n hx hb dX7_comes_131 rfl (lv_at hl 2 rfl) ?_
        refine lv_iadd hx hb dX7_comes_132 ?_
        refine lv_dup2_11 hx hb dX7_comes_133 rfl rfl ?_
        obtain ⟨hg28, h⟩ := gd_s h
        refine va_iald (D := E.1) (cl := vwCl) (tys := gT E) hx hb hK hP 1 0 rfl rfl (inB_in hg28) dX7_comes_134 ?_
        refine lv_iload_n hx hb dX7_comes_135 rfl (lv_at hl 3 rfl) ?_
        refine lv_iadd hx hb dX7_comes_136 ?_
        refine va_iast (D := E.1) (cl := vwCl) (tys := gT E) hx hb hK hP hD hS 1 0 rfl rfl (inB_in hg28) dX7_comes_137 (fun H locs hP hD hS => ?_)
        obtain ⟨ss29, e_ss29⟩ : ∃ y : Nat → Int32, y = (upd ss27 (((14 : Int32) + p1)).toNatClampNeg ((ss27 (((14 : Int32) + p1)).toNatClampNeg) + p2)) := ⟨_, rfl⟩
        replace h := jl_s e_ss29 h
        replace hP : va_P E.1 vwCl (wMo E a0 a1 a2 a3 a4 a5 a6 a7 ss29 bg kp ik pt st tx ln asd att dn td fo nb) H := (by rw [e_ss29]; exact hP)
        replace hD : va_D A (wMo E a0 a1 a2 a3 a4 a5 a6 a7 ss29 bg kp ik pt st tx ln asd att dn td fo nb) := gD_same hD rfl
        exact hret ss29 _ _ _ _ (Option.some.inj h) hP hS dX7_comes_138
      refine lv_if_le (tgt := 72) hx hb dX7_comes_10 (by decide) (fun hc6 => ?_) (fun hc6 => ?_)
      · replace h := g_it hc6 h
        exact hJ_J7 () _ _ _ hP hS (lv_sub hl [0, 1, 2, 3, 4] rfl) h
      · replace h := g_if hc6 h
        refine lv_aload_n hx hb dX7_comes_13 rfl (lv_at hl 1 rfl) ?_
        refine lv_iload hx hb dX7_comes_14 (lv_at hl 0 rfl) ?_
        refine lv_iconst (v := (1 : Int32)) hx hb dX7_comes_16 (by decide) ?_
        refine lv_isub hx hb dX7_comes_17 ?_
        refine lv_iconst (v := (2 : Int32)) hx hb dX7_comes_18 (by decide) ?_
        obtain ⟨r8, hc9, h⟩ := bd1_s h
        refine g_callRi (As := [.int (v4 - (1 : Int32)), .int (2 : Int32)]) (rest := []) (r := r8) ⟨hx, hb, hml, hown, hts⟩ (kX7_ofLot E l a0 a1 a2 a3 a4 a5 a6 a7 ss5 bg kp ik pt st tx ln asd att dn td fo nb (v4 - (1 : Int32)) (2 : Int32) r8 hc9) (cwV 2 hts gX7_comes_X7_ofLot rfl rfl rfl (by decide +kernel) ⟨Nat.le_of_ble_eq_true rfl, Nat.le_of_ble_eq_true rfl⟩) hK hP hD hS hA hG hl [0, 1, 2, 3, 4, 5, 6, 7] 0 (by decide) rfl (ci := 7) rfl rfl rfl rfl rfl rfl rfl (Nat.le_of_ble_eq_true rfl) dX7_comes_19 (Nat.zero_le _) (Nat.zero_le _) (fun H locs hP hD hS => ?_)
        refine lv_iload_n hx hb dX7_comes_22 rfl (lv_at hl 4 rfl) ?_
        refine lv_icmp_le (tgt := 72) hx hb dX7_comes_23 (by decide) (fun hc10 => ?_) (fun hc10 => ?_)
        · replace h := g_it hc10 h
          exact hJ_J7 () _ _ _ hP hS (lv_sub hl [0, 1, 2, 3, 4] rfl) h
        · replace h := g_if hc10 h
          refine lv_iconst (v := (0 : Int32)) hx hb dX7_comes_26 (by decide) ?_
          refine lv_istore (lv' := [(5, .int (0 : Int32)), (4, .int v4), (0, .ref a0), (1, .int p1), (2, .int p2), (3, .int p3)]) hx hb dX7_comes_27 hl (by decide) rfl (fun ls hl => ?_)
          refine gl2_e h (fun S_rec11 hS_rec11 h => ?_)
          have hL_rec11 : ∀ (nF : Nat) (v12 : Int32) (ss13 : Nat → Int32) (H : Heap) (locs : List Loc) (ls : Array Slot), va_P E.1 vwCl (wMo E a0 a1 a2 a3 a4 a5 a6 a7 ss13 bg kp ik pt st tx ln asd att dn td fo nb) H → va_S A s.heap H locs → lv_has ls 6 [(5, .int v12), (4, .int v4), (0, .ref a0), (1, .int p1), (2, .int p2), (3, .int p3)] → gl2 S_rec11 nF v12 ss13 = some res → W p l e ({ frames := 1, cells := 0, slots := 0, locals := 22 } : Room) s m args below meth c H locs 0 0 Q (F0 m 29 ls []) := by
            intro nF
            induction nF with
            | zero => intro v12 ss13 H locs ls hP hS hl h; exact gl2_z h
            | succ nF ih_rec11 =>
              intro v12 ss13 H locs ls hP hS hl h
              replace hD : va_D A (wMo E a0 a1 a2 a3 a4 a5 a6 a7 ss13 bg kp ik pt st tx ln asd att dn td fo nb) := gD_same hD rfl
              replace h : S_rec11 (gl2 S_rec11 nF) v12 ss13 = some res := h
              generalize gl2 S_rec11 nF = rec11 at h ih_rec11
              subst hS_rec11
              unfold sX7_comes_rec11 at h
              refine lv_iload hx hb dX7_comes_29 (lv_at hl 0 rfl) ?_
              refine lv_iconst (v := (3 : Int32)) hx hb dX7_comes_31 (by decide) ?_
              refine lv_icmp_ge (tgt := 66) hx hb dX7_comes_32 (by decide) (fun hc14 => ?_) (fun hc14 => ?_)
              · replace h := g_it hc14 h
                obtain ⟨v15, e_v15⟩ : ∃ y : Int32, y = (v4 + (-1 : Int32)) := ⟨_, rfl⟩
                replace h := jl_s e_v15 h
                refine lv_iinc (v := v15) (lv' := [(4, .int v15), (5, .int v12), (0, .ref a0), (1, .int p1), (2, .int p2), (3, .int p3)]) hx hb dX7_comes_66 hl (k := 1) rfl (by rw [e_v15]; rfl) (by decide) rfl (fun ls hl => ?_)
                refine lv_goto (tgt := 8) hx hb dX7_comes_69 (by decide) ?_
                exact ih_rec3 v15 ss13 _ _ _ hP hS (lv_sub hl [0, 2, 3, 4, 5] rfl) h
              · replace h := g_if hc14 h
                refine lv_aload_n hx hb dX7_comes_35 rfl (lv_at hl 2 rfl) ?_
                refine va_get (D := E.1) (cl := vwCl) (ci := 7) (v := .ref a1) (C := RX7) (T := TX7) (N := 14) hx hb hts hiX7 hown hK hP 0 rfl rfl 0 (by decide) hw0 (fun _ h9 => h9) rfl dX7_comes_36 ?_
                refine lv_bipush (v := (41 : Int32)) hx hb dX7_comes_39 (by decide) ?_
                refine lv_iconst (v := (3 : Int32)) hx hb dX7_comes_41 (by decide) ?_
                refine lv_iload hx hb dX7_comes_42 (lv_at hl 1 rfl) ?_
                refine lv_imul hx hb dX7_comes_44 ?_
                refine lv_iadd hx hb dX7_comes_45 ?_
                refine lv_iload hx hb dX7_comes_46 (lv_at hl 0 rfl) ?_
                refine lv_iadd hx hb dX7_comes_48 ?_
                refine lv_aload_n hx hb dX7_comes_49 rfl (lv_at hl 2 rfl) ?_
                refine lv_iload hx hb dX7_comes_50 (lv_at hl 1 rfl) ?_
                refine lv_iconst (v := (1 : Int32)) hx hb dX7_comes_52 (by decide) ?_
                refine lv_isub hx hb dX7_comes_53 ?_
                refine lv_iload hx hb dX7_comes_54 (lv_at hl 0 rfl) ?_
                obtain ⟨r16, hc17, h⟩ := bd1_s h
                refine g_callRi (As := [.int (v4 - (1 : Int32)), .int v12]) (rest := [.int (((41 : Int32) + ((3 : Int32) * v4)) + v12), .ref a1]) (r := r16) ⟨hx, hb, hml, hown, hts⟩ (kX7_ofLot E l a0 a1 a2 a3 a4 a5 a6 a7 ss13 bg kp ik pt st tx ln asd att dn td fo nb (v4 - (1 : Int32)) v12 r16 hc17) (cwV 2 hts gX7_comes_X7_ofLot rfl rfl rfl (by decide +kernel) ⟨Nat.le_of_ble_eq_true rfl, Nat.le_of_ble_eq_true rfl⟩) hK hP hD hS hA hG hl [0, 1, 2, 3, 4, 5, 6, 7] 0 (by decide) rfl (ci := 7) rfl rfl rfl rfl rfl rfl rfl (Nat.le_of_ble_eq_true rfl) dX7_comes_56 (Nat.zero_le _) (Nat.zero_le _) (fun H locs hP hD hS => ?_)
                obtain ⟨hg18, h⟩ := gd_s h
                refine va_iast (D := E.1) (cl := vwCl) (tys := gT E) hx hb hK hP hD hS 1 0 rfl rfl (inB_in hg18) dX7_comes_59 (fun H locs hP hD hS => ?_)
                obtain ⟨ss19, e_ss19⟩ : ∃ y : Nat → Int32, y = (upd ss13 ((((41 : Int32) + ((3 : Int32) * v4)) + v12)).toNatClampNeg r16) := ⟨_, rfl⟩
                replace h := jl_s e_ss19 h
                replace hP : va_P E.1 vwCl (wMo E a0 a1 a2 a3 a4 a5 a6 a7 ss19 bg kp ik pt st tx ln asd att dn td fo nb) H := (by rw [e_ss19]; exact hP)
                replace hD : va_D A (wMo E a0 a1 a2 a3 a4 a5 a6 a7 ss19 bg kp ik pt st tx ln asd att dn td fo nb) := gD_same hD rfl
                obtain ⟨v20, e_v20⟩ : ∃ y : Int32, y = (v12 + (1 : Int32)) := ⟨_, rfl⟩
                replace h := jl_s e_v20 h
                refine lv_iinc (v := v20) (lv' := [(5, .int v20), (4, .int v4), (0, .ref a0), (1, .int p1), (2, .int p2), (3, .int p3)]) hx hb dX7_comes_60 hl (k := 0) rfl (by rw [e_v20]; rfl) (by decide) rfl (fun ls hl => ?_)
                refine lv_goto (tgt := 29) hx hb dX7_comes_63 (by decide) ?_
                exact ih_rec11 v20 ss19 _ _ _ hP hS (lv_sub hl [0, 1, 2, 3, 4, 5] rfl) h
          exact hL_rec11 gFU (0 : Int32) ss5 _ _ _ hP hS (lv_sub hl [0, 1, 2, 3, 4, 5] rfl) h
  exact hL_rec3 gFU v2 ss _ _ _ hP hS (lv_sub hl [0, 1, 2, 3, 4] rfl) h
set_option maxHeartbeats 4000000 in
set_option maxRecDepth 100000 in
theorem kX7_flies (E : gE) (l : Launch) (a0 a1 a2 a3 a4 a5 a6 a7 : Nat) (ss : Nat → Int32) (bg : Nat → Int32) (kp : Nat → Int32) (ik : Int32) (pt : Nat → Int32) (st : Int32) (tx : Nat → Int32) (ln : Int32) (asd : Nat → Int32) (att : Int32) (dn : Int32) (td : Int32) (fo : Int32) (nb : Nat → Int32)  (res : Int32 × (Nat → Int32)) (h : fX7_flies ss  = some res) : gMI E l yX7_flies wsX7_flies ({ frames := 2, cells := 0, slots := 0, locals := 47 } : Room) [.ref a0] (wMo E a0 a1 a2 a3 a4 a5 a6 a7 ss bg kp ik pt st tx ln asd att dn td fo nb) (fun res : Int32 × (Nat → Int32) => (wMo E a0 a1 a2 a3 a4 a5 a6 a7 res.2 bg kp ik pt st tx ln asd att dn td fo nb)) (fun res => res.1) res := by
  refine g_entI (cc := cX7_flies) (maxL := 3) (by decide) rfl (Nat.le_of_ble_eq_true rfl) ?_
  intro p e s m args below meth c A Q ls hx hb hml hown hts hK hP hD hS hA hG hret hl
  unfold fX7_flies at h
  replace hl : lv_has ls 3 [(0, .ref a0)] := hl
  have hiX7 : ∀ w ∈ wsX70, w ∈ wsX7_flies := by decide +kernel
  have hw0 := hts (.fieldLink RX7 7 "GlacierHutModel" "s" "[I") (by decide +kernel)
  refine lv_aload_n hx hb dX7_flies_0 rfl (lv_at hl 0 rfl) ?_
  refine va_get (D := E.1) (cl := vwCl) (ci := 7) (v := .ref a1) (C := RX7) (T := TX7) (N := 14) hx hb hts hiX7 hown hK hP 0 rfl rfl 0 (by decide) hw0 (fun _ h9 => h9) rfl dX7_flies_1 ?_
  refine lv_iconst (v := (3 : Int32)) hx hb dX7_flies_4 (by decide) ?_
  obtain ⟨hg1, h⟩ := gd_s h
  refine va_iald (D := E.1) (cl := vwCl) (tys := gT E) hx hb hK hP 1 0 rfl rfl (inB_in hg1) dX7_flies_5 ?_
  refine lv_topi (fun v2 e_v2 => ?_)
  replace h := jl_s e_v2 h
  refine lv_istore_n (lv' := [(1, .int v2), (0, .ref a0)]) hx hb dX7_flies_6 rfl hl (by decide) rfl (fun ls hl => ?_)
  refine lv_iload_n hx hb dX7_flies_7 rfl (lv_at hl 0 rfl) ?_
  refine lv_if_eq (tgt := 40) hx hb dX7_flies_8 (by decide) (fun hc3 => ?_) (fun hc3 => ?_)
  · replace h := g_it hc3 h
    refine lv_bipush (v := (-2 : Int32)) hx hb dX7_flies_40 (by decide) ?_
    exact hret ((-2 : Int32), ss) _ _ _ _ _ (Option.some.inj h) hP hS rfl dX7_flies_42
  · replace h := g_if hc3 h
    refine lv_aload_n hx hb dX7_flies_11 rfl (lv_at hl 1 rfl) ?_
    refine lv_aload_n hx hb dX7_flies_12 rfl (lv_at hl 1 rfl) ?_
    refine va_get (D := E.1) (cl := vwCl) (ci := 7) (v := .ref a1) (C := RX7) (T := TX7) (N := 14) hx hb hts hiX7 hown hK hP 0 rfl rfl 0 (by decide) hw0 (fun _ h9 => h9) rfl dX7_flies_13 ?_
    refine lv_iconst (v := (0 : Int32)) hx hb dX7_flies_16 (by decide) ?_
    obtain ⟨hg4, h⟩ := gd_s h
    refine va_iald (D := E.1) (cl := vwCl) (tys := gT E) hx hb hK hP 1 0 rfl rfl (inB_in hg4) dX7_flies_17 ?_
    obtain ⟨r5, hc6, h⟩ := bd1_s h
    refine g_callRi (As := [.int (ss ((0 : Int32)).toNatClampNeg)]) (rest := []) (r := r5) ⟨hx, hb, hml, hown, hts⟩ (kX7_isStorm E l a0 a1 a2 a3 a4 a5 a6 a7 ss bg kp ik pt st tx ln asd att dn td fo nb (ss ((0 : Int32)).toNatClampNeg) r5 hc6) (cwV 1 hts gX7_flies_X7_isStorm rfl rfl rfl (by decide +kernel) ⟨Nat.le_of_ble_eq_true rfl, Nat.le_of_ble_eq_true rfl⟩) hK hP hD hS hA hG hl [0, 1, 2, 3, 4, 5, 6, 7] 0 (by decide) rfl (ci := 7) rfl rfl rfl rfl rfl rfl rfl (Nat.le_of_ble_eq_true rfl) dX7_flies_18 (Nat.zero_le _) (Nat.zero_le _) (fun H locs hP hD hS => ?_)
    refine lv_if_ne (tgt := 40) hx hb dX7_flies_21 (by decide) (fun hc7 => ?_) (fun hc7 => ?_)
    · replace h := g_if hc7 h
      refine lv_bipush (v := (-2 : Int32)) hx hb dX7_flies_40 (by decide) ?_
      exact hret ((-2 : Int32), ss) _ _ _ _ _ (Option.some.inj h) hP hS rfl dX7_flies_42
    · replace h := g_it hc7 h
      refine lv_aload_n hx hb dX7_flies_24 rfl (lv_at hl 1 rfl) ?_
      refine va_get (D := E.1) (cl := vwCl) (ci := 7) (v := .ref a1) (C := RX7) (T := TX7) (N := 14) hx hb hts hiX7 hown hK hP 0 rfl rfl 0 (by decide) hw0 (fun _ h9 => h9) rfl dX7_flies_25 ?_
      refine lv_iconst (v := (1 : Int32)) hx hb dX7_flies_28 (by decide) ?_
      obtain ⟨hg8, h⟩ := gd_s h
      refine va_iald (D := E.1) (cl := vwCl) (tys := gT E) hx hb hK hP 1 0 rfl rfl (inB_in hg8) dX7_flies_29 ?_
      refine lv_aload_n hx hb dX7_flies_30 rfl (lv_at hl 1 rfl) ?_
      refine va_get (D := E.1) (cl := vwCl) (ci := 7) (v := .ref a1) (C := RX7) (T := TX7) (N := 14) hx hb hts hiX7 hown hK hP 0 rfl rfl 0 (by decide) hw0 (fun _ h9 => h9) rfl dX7_flies_31 ?_
      refine lv_bipush (v := (13 : Int32)) hx hb dX7_flies_34 (by decide) ?_
      obtain ⟨hg9, h⟩ := gd_s h
      refine va_iald (D := E.1) (cl := vwCl) (tys := gT E) hx hb hK hP 1 0 rfl rfl (inB_in hg9) dX7_flies_36 ?_
      refine lv_icmp_lt (tgt := 43) hx hb dX7_flies_37 (by decide) (fun hc10 => ?_) (fun hc10 => ?_)
      · replace h := g_it hc10 h
        refine lv_aload_n hx hb dX7_flies_43 rfl (lv_at hl 1 rfl) ?_
        refine va_get (D := E.1) (cl := vwCl) (ci := 7) (v := .ref a1) (C := RX7) (T := TX7) (N := 14) hx hb hts hiX7 hown hK hP 0 rfl rfl 0 (by decide) hw0 (fun _ h9 => h9) rfl dX7_flies_44 ?_
        refine lv_iconst (v := (2 : Int32)) hx hb dX7_flies_47 (by decide) ?_
        obtain ⟨hg11, h⟩ := gd_s h
        refine va_iald (D := E.1) (cl := vwCl) (tys := gT E) hx hb hK hP 1 0 rfl rfl (inB_in hg11) dX7_flies_48 ?_
        refine lv_iload_n hx hb dX7_flies_49 rfl (lv_at hl 0 rfl) ?_
        refine lv_iadd hx hb dX7_flies_50 ?_
        refine lv_bipush (v := (20 : Int32)) hx hb dX7_flies_51 (by decide) ?_
        refine lv_icmp_le (tgt := 59) hx hb dX7_flies_53 (by decide) (fun hc12 => ?_) (fun hc12 => ?_)
        · replace h := g_it hc12 h
          refine lv_bipush (v := (23 : Int32)) hx hb dX7_flies_59 (by decide) ?_
          refine lv_istore_n (lv' := [(2, .int (23 : Int32)), (1, .int v2), (0, .ref a0)]) hx hb dX7_flies_61 rfl hl (by decide) rfl (fun ls hl => ?_)
          refine gl2_e h (fun S_rec13 hS_rec13 h => ?_)
          have hL_rec13 : ∀ (nF : Nat) (v14 : Int32) (ss15 : Nat → Int32) (H : Heap) (locs : List Loc) (ls : Array Slot), va_P E.1 vwCl (wMo E a0 a1 a2 a3 a4 a5 a6 a7 ss15 bg kp ik pt st tx ln asd att dn td fo nb) H → va_S A s.heap H locs → lv_has ls 3 [(2, .int v14), (1, .int v2), (0, .ref a0)] → gl2 S_rec13 nF v14 ss15 = some res → W p l e ({ frames := 2, cells := 0, slots := 0, locals := 47 } : Room) s m args below meth c H locs 0 0 Q (F0 m 62 ls []) := by
            intro nF
            induction nF with
            | zero => intro v14 ss15 H locs ls hP hS hl h; exact gl2_z h
            | succ nF ih_rec13 =>
              intro v14 ss15 H locs ls hP hS hl h
              replace hD : va_D A (wMo E a0 a1 a2 a3 a4 a5 a6 a7 ss15 bg kp ik pt st tx ln asd att dn td fo nb) := gD_same hD rfl
              replace h : S_rec13 (gl2 S_rec13 nF) v14 ss15 = some res := h
              generalize gl2 S_rec13 nF = rec13 at h ih_rec13
              subst hS_rec13
              unfold sX7_flies_rec13 at h
              refine lv_iload_n hx hb dX7_flies_62 rfl (lv_at hl 0 rfl) ?_
              refine lv_bipush (v := (23 : Int32)) hx hb dX7_flies_63 (by decide) ?_
              refine lv_iconst (v := (3 : Int32)) hx hb dX7_flies_65 (by decide) ?_
              refine lv_iload_n hx hb dX7_flies_66 rfl (lv_at hl 1 rfl) ?_
              refine lv_imul hx hb dX7_flies_67 ?_
              refine lv_iadd hx hb dX7_flies_68 ?_
              refine lv_icmp_ge (tgt := 111) hx hb dX7_flies_69 (by decide) (fun hc16 => ?_) (fun hc16 => ?_)
              · replace h := g_it hc16 h
                refine lv_iconst (v := (0 : Int32)) hx hb dX7_flies_111 (by decide) ?_
                refine lv_istore_n (lv' := [(2, .int (0 : Int32)), (1, .int v2), (0, .ref a0)]) hx hb dX7_flies_112 rfl hl (by decide) rfl (fun ls hl => ?_)
                refine gl2_e h (fun S_rec17 hS_rec17 h => ?_)
                have hL_rec17 : ∀ (nF : Nat) (v18 : Int32) (ss19 : Nat → Int32) (H : Heap) (locs : List Loc) (ls : Array Slot), va_P E.1 vwCl (wMo E a0 a1 a2 a3 a4 a5 a6 a7 ss19 bg kp ik pt st tx ln asd att dn td fo nb) H → va_S A s.heap H locs → lv_has ls 3 [(2, .int v18), (1, .int v2), (0, .ref a0)] → gl2 S_rec17 nF v18 ss19 = some res → W p l e ({ frames := 2, cells := 0, slots := 0, locals := 47 } : Room) s m args below meth c H locs 0 0 Q (F0 m 113 ls []) := by
                  intro nF
                  induction nF with
                  | zero => intro v18 ss19 H locs ls hP hS hl h; exact gl2_z h
                  | succ nF ih_rec17 =>
                    intro v18 ss19 H locs ls hP hS hl h
                    replace hD : va_D A (wMo E a0 a1 a2 a3 a4 a5 a6 a7 ss19 bg kp ik pt st tx ln asd att dn td fo nb) := gD_same hD rfl
                    replace h : S_rec17 (gl2 S_rec17 nF) v18 ss19 = some res := h
                    generalize gl2 S_rec17 nF = rec17 at h ih_rec17
                    subst hS_rec17
                    unfold sX7_flies_rec17 at h
                    refine lv_iload_n hx hb dX7_flies_113 rfl (lv_at hl 0 rfl) ?_
                    refine lv_bipush (v := (18 : Int32)) hx hb dX7_flies_114 (by decide) ?_
                    refine lv_icmp_ge (tgt := 135) hx hb dX7_flies_116 (by decide) (fun hc20 => ?_) (fun hc20 => ?_)
                    · replace h := g_it hc20 h
                      refine lv_aload_n hx hb dX7_flies_135 rfl (lv_at hl 2 rfl) ?_
                      refine va_get (D := E.1) (cl := vwCl) (ci := 7) (v := .ref a1) (C := RX7) (T := TX7) (N := 14) hx hb hts hiX7 hown hK hP 0 rfl rfl 0 (by decide) hw0 (fun _ h9 => h9) rfl dX7_flies_136 ?_
                      refine lv_iconst (v := (3 : Int32)) hx hb dX7_flies_139 (by decide) ?_
                      refine lv_iconst (v := (0 : Int32)) hx hb dX7_flies_140 (by decide) ?_
                      refine va_iast (D := E.1) (cl := vwCl) (tys := gT E) hx hb hK hP hD hS 1 0 rfl rfl (inB_in hg1) dX7_flies_141 (fun H locs hP hD hS => ?_)
                      obtain ⟨ss21, e_ss21⟩ : ∃ y : Nat → Int32, y = (upd ss19 ((3 : Int32)).toNatClampNeg (0 : Int32)) := ⟨_, rfl⟩
                      replace h := jl_s e_ss21 h
                      replace hP : va_P E.1 vwCl (wMo E a0 a1 a2 a3 a4 a5 a6 a7 ss21 bg kp ik pt st tx ln asd att dn td fo nb) H := (by rw [e_ss21]; exact hP)
                      replace hD : va_D A (wMo E a0 a1 a2 a3 a4 a5 a6 a7 ss21 bg kp ik pt st tx ln asd att dn td fo nb) := gD_same hD rfl
                      refine lv_aload_n hx hb dX7_flies_142 rfl (lv_at hl 2 rfl) ?_
                      refine va_get (D := E.1) (cl := vwCl) (ci := 7) (v := .ref a1) (C := RX7) (T := TX7) (N := 14) hx hb hts hiX7 hown hK hP 0 rfl rfl 0 (by decide) hw0 (fun _ h9 => h9) rfl dX7_flies_143 ?_
                      refine lv_iconst (v := (1 : Int32)) hx hb dX7_flies_146 (by decide) ?_
                      refine lv_dup2_11 hx hb dX7_flies_147 rfl rfl ?_
                      refine va_iald (D := E.1) (cl := vwCl) (tys := gT E) hx hb hK hP 1 0 rfl rfl (inB_in hg8) dX7_flies_148 ?_
                      refine lv_iconst (v := (1 : Int32)) hx hb dX7_flies_149 (by decide) ?_
                      refine lv_iadd hx hb dX7_flies_150 ?_
                      refine va_iast (D := E.1) (cl := vwCl) (tys := gT E) hx hb hK hP hD hS 1 0 rfl rfl (inB_in hg8) dX7_flies_151 (fun H locs hP hD hS => ?_)
                      obtain ⟨ss22, e_ss22⟩ : ∃ y : Nat → Int32, y = (upd ss21 ((1 : Int32)).toNatClampNeg ((ss21 ((1 : Int32)).toNatClampNeg) + (1 : Int32))) := ⟨_, rfl⟩
                      replace h := jl_s e_ss22 h
                      replace hP : va_P E.1 vwCl (wMo E a0 a1 a2 a3 a4 a5 a6 a7 ss22 bg kp ik pt st tx ln asd att dn td fo nb) H := (by rw [e_ss22]; exact hP)
                      replace hD : va_D A (wMo E a0 a1 a2 a3 a4 a5 a6 a7 ss22 bg kp ik pt st tx ln asd att dn td fo nb) := gD_same hD rfl
                      refine lv_iload_n hx hb dX7_flies_152 rfl (lv_at hl 1 rfl) ?_
                      exact hret (v2, ss22) _ _ _ _ _ (Option.some.inj h) hP hS rfl dX7_flies_153
                    · replace h := g_if hc20 h
                      refine lv_aload_n hx hb dX7_flies_119 rfl (lv_at hl 2 rfl) ?_
                      refine va_get (D := E.1) (cl := vwCl) (ci := 7) (v := .ref a1) (C := RX7) (T := TX7) (N := 14) hx hb hts hiX7 hown hK hP 0 rfl rfl 0 (by decide) hw0 (fun _ h9 => h9) rfl dX7_flies_120 ?_
                      refine lv_bipush (v := (23 : Int32)) hx hb dX7_flies_123 (by decide) ?_
                      refine lv_iload_n hx hb dX7_flies_125 rfl (lv_at hl 0 rfl) ?_
                      refine lv_iadd hx hb dX7_flies_126 ?_
                      refine lv_iconst (v := (0 : Int32)) hx hb dX7_flies_127 (by decide) ?_
                      obtain ⟨hg23, h⟩ := gd_s h
                      refine va_iast (D := E.1) (cl := vwCl) (tys := gT E) hx hb hK hP hD hS 1 0 rfl rfl (inB_in hg23) dX7_flies_128 (fun H locs hP hD hS => ?_)
                      obtain ⟨ss24, e_ss24⟩ : ∃ y : Nat → Int32, y = (upd ss19 (((23 : Int32) + v18)).toNatClampNeg (0 : Int32)) := ⟨_, rfl⟩
                      replace h := jl_s e_ss24 h
                      replace hP : va_P E.1 vwCl (wMo E a0 a1 a2 a3 a4 a5 a6 a7 ss24 bg kp ik pt st tx ln asd att dn td fo nb) H := (by rw [e_ss24]; exact hP)
                      replace hD : va_D A (wMo E a0 a1 a2 a3 a4 a5 a6 a7 ss24 bg kp ik pt st tx ln asd att dn td fo nb) := gD_same hD rfl
                      obtain ⟨v25, e_v25⟩ : ∃ y : Int32, y = (v18 + (1 : Int32)) := ⟨_, rfl⟩
                      replace h := jl_s e_v25 h
                      refine lv_iinc (v := v25) (lv' := [(2, .int v25), (1, .int v2), (0, .ref a0)]) hx hb dX7_flies_129 hl (k := 0) rfl (by rw [e_v25]; rfl) (by decide) rfl (fun ls hl => ?_)
                      refine lv_goto (tgt := 113) hx hb dX7_flies_132 (by decide) ?_
                      exact ih_rec17 v25 ss24 _ _ _ hP hS (lv_sub hl [0, 1, 2] rfl) h
                exact hL_rec17 gFU (0 : Int32) ss15 _ _ _ hP hS (lv_sub hl [0, 1, 2] rfl) h
              · replace h := g_if hc16 h
                refine lv_aload_n hx hb dX7_flies_72 rfl (lv_at hl 2 rfl) ?_
                refine lv_aload_n hx hb dX7_flies_73 rfl (lv_at hl 2 rfl) ?_
                refine va_get (D := E.1) (cl := vwCl) (ci := 7) (v := .ref a1) (C := RX7) (T := TX7) (N := 14) hx hb hts hiX7 hown hK hP 0 rfl rfl 0 (by decide) hw0 (fun _ h9 => h9) rfl dX7_flies_74 ?_
                refine lv_iload_n hx hb dX7_flies_77 rfl (lv_at hl 0 rfl) ?_
                obtain ⟨hg26, h⟩ := gd_s h
                refine va_iald (D := E.1) (cl := vwCl) (tys := gT E) hx hb hK hP 1 0 rfl rfl (inB_in hg26) dX7_flies_78 ?_
                refine lv_aload_n hx hb dX7_flies_79 rfl (lv_at hl 2 rfl) ?_
                refine va_get (D := E.1) (cl := vwCl) (ci := 7) (v := .ref a1) (C := RX7) (T := TX7) (N := 14) hx hb hts hiX7 hown hK hP 0 rfl rfl 0 (by decide) hw0 (fun _ h9 => h9) rfl dX7_flies_80 ?_
                refine lv_iload_n hx hb dX7_flies_83 rfl (lv_at hl 0 rfl) ?_
                refine lv_iconst (v := (1 : Int32)) hx hb dX7_flies_84 (by decide) ?_
                refine lv_iadd hx hb dX7_flies_85 ?_
                obtain ⟨hg27, h⟩ := gd_s h
                refine va_iald (D := E.1) (cl := vwCl) (tys := gT E) hx hb hK hP 1 0 rfl rfl (inB_in hg27) dX7_flies_86 ?_
                refine lv_aload_n hx hb dX7_flies_87 rfl (lv_at hl 2 rfl) ?_
                refine va_get (D := E.1) (cl := vwCl) (ci := 7) (v := .ref a1) (C := RX7) (T := TX7) (N := 14) hx hb hts hiX7 hown hK hP 0 rfl rfl 0 (by decide) hw0 (fun _ h9 => h9) rfl dX7_flies_88 ?_
                refine lv_iconst (v := (0 : Int32)) hx hb dX7_flies_91 (by decide) ?_
                refine va_iald (D := E.1) (cl := vwCl) (tys := gT E) hx hb hK hP 1 0 rfl rfl (inB_in hg4) dX7_flies_92 ?_
                refine lv_aload_n hx hb dX7_flies_93 rfl (lv_at hl 2 rfl) ?_
                refine va_get (D := E.1) (cl := vwCl) (ci := 7) (v := .ref a1) (C := RX7) (T := TX7) (N := 14) hx hb hts hiX7 hown hK hP 0 rfl rfl 0 (by decide) hw0 (fun _ h9 => h9) rfl dX7_flies_94 ?_
                refine lv_iload_n hx hb dX7_flies_97 rfl (lv_at hl 0 rfl) ?_
                refine lv_iconst (v := (2 : Int32)) hx hb dX7_flies_98 (by decide) ?_
                refine lv_iadd hx hb dX7_flies_99 ?_
                obtain ⟨hg28, h⟩ := gd_s h
                refine va_iald (D := E.1) (cl := vwCl) (tys := gT E) hx hb hK hP 1 0 rfl rfl (inB_in hg28) dX7_flies_100 ?_
                refine lv_iadd hx hb dX7_flies_101 ?_
                obtain ⟨ss29, hc30, h⟩ := bd1_s h
                refine g_callVv (As := [.int (ss15 (v14).toNatClampNeg), .int (ss15 ((v14 + (1 : Int32))).toNatClampNeg), .int ((ss15 ((0 : Int32)).toNatClampNeg) + (ss15 ((v14 + (2 : Int32))).toNatClampNeg))]) (rest := []) (ws1 := (wMo E a0 a1 a2 a3 a4 a5 a6 a7 ss29 bg kp ik pt st tx ln asd att dn td fo nb)) ⟨hx, hb, hml, hown, hts⟩ (kX7_comes E l a0 a1 a2 a3 a4 a5 a6 a7 ss15 bg kp ik pt st tx ln asd att dn td fo nb (ss15 (v14).toNatClampNeg) (ss15 ((v14 + (1 : Int32))).toNatClampNeg) ((ss15 ((0 : Int32)).toNatClampNeg) + (ss15 ((v14 + (2 : Int32))).toNatClampNeg)) ss29 hc30) (cwV 3 hts gX7_flies_X7_comes rfl rfl rfl (by decide +kernel) ⟨Nat.le_of_ble_eq_true rfl, Nat.le_of_ble_eq_true rfl⟩) hK hP hD hS hA hG hl [0, 1, 2, 3, 4, 5, 6, 7] 0 (by decide) rfl (ci := 7) rfl rfl rfl rfl rfl rfl rfl rfl (Nat.le_of_ble_eq_true rfl) dX7_flies_102 (Nat.zero_le _) (Nat.zero_le _) (fun H locs hP hD hS => ?_)
                obtain ⟨v31, e_v31⟩ : ∃ y : Int32, y = (v14 + (3 : Int32)) := ⟨_, rfl⟩
                replace h := jl_s e_v31 h
                refine lv_iinc (v := v31) (lv' := [(2, .int v31), (1, .int v2), (0, .ref a0)]) hx hb dX7_flies_105 hl (k := 0) rfl (by rw [e_v31]; rfl) (by decide) rfl (fun ls hl => ?_)
                refine lv_goto (tgt := 62) hx hb dX7_flies_108 (by decide) ?_
                exact ih_rec13 v31 ss29 _ _ _ hP hS (lv_sub hl [0, 1, 2] rfl) h
          exact hL_rec13 gFU (23 : Int32) ss _ _ _ hP hS (lv_sub hl [0, 1, 2] rfl) h
        · replace h := g_if hc12 h
          refine lv_bipush (v := (-3 : Int32)) hx hb dX7_flies_56 (by decide) ?_
          exact hret ((-3 : Int32), ss) _ _ _ _ _ (Option.some.inj h) hP hS rfl dX7_flies_58
      · replace h := g_if hc10 h
        refine lv_bipush (v := (-2 : Int32)) hx hb dX7_flies_40 (by decide) ?_
        exact hret ((-2 : Int32), ss) _ _ _ _ _ (Option.some.inj h) hP hS rfl dX7_flies_42
set_option maxHeartbeats 4000000 in
set_option maxRecDepth 100000 in
theorem kX7_called (E : gE) (l : Launch) (a0 a1 a2 a3 a4 a5 a6 a7 : Nat) (ss : Nat → Int32) (bg : Nat → Int32) (kp : Nat → Int32) (ik : Int32) (pt : Nat → Int32) (st : Int32) (tx : Nat → Int32) (ln : Int32) (asd : Nat → Int32) (att : Int32) (dn : Int32) (td : Int32) (fo : Int32) (nb : Nat → Int32) (p1 : Int32) (res : Int32 × (Nat → Int32) × (Nat → Int32)) (h : fX7_called ss asd nb p1 = some res) : gMI E l yX7_called wsX7_called ({ frames := 7, cells := 0, slots := 0, locals := 164 } : Room) [.ref a0, .int p1] (wMo E a0 a1 a2 a3 a4 a5 a6 a7 ss bg kp ik pt st tx ln asd att dn td fo nb) (fun res : Int32 × (Nat → Int32) × (Nat → Int32) => (wMo E a0 a1 a2 a3 a4 a5 a6 a7 res.2.1 bg kp ik pt st tx ln res.2.2 att dn td fo nb)) (fun res => res.1) res := by
  refine g_entI (cc := cX7_called) (maxL := 2) (by decide) rfl (Nat.le_of_ble_eq_true rfl) ?_
  intro p e s m args below meth c A Q ls hx hb hml hown hts hK hP hD hS hA hG hret hl
  unfold fX7_called at h
  replace hl : lv_has ls 2 [(0, .ref a0), (1, .int p1)] := hl
  have hiX7 : ∀ w ∈ wsX70, w ∈ wsX7_called := by decide +kernel
  have hw0 := hts (.fieldLink RX7 28 "GlacierHutModel" "numbers" "[I") (by decide +kernel)
  refine lv_iload_n hx hb dX7_called_0 rfl (lv_at hl 1 rfl) ?_
  by_cases hk1 : p1 = (98 : Int32)
  · replace h := g_it hk1 h
    refine lv_lookup (tgt := 75) (off := 74) hx hb dX7_called_1 (by decide) (by rw [hk1]; rfl) (by decide) ?_
    refine lv_aload_n hx hb dX7_called_75 rfl (lv_at hl 0 rfl) ?_
    refine lv_aload_n hx hb dX7_called_76 rfl (lv_at hl 0 rfl) ?_
    refine va_get (D := E.1) (cl := vwCl) (ci := 7) (v := .ref a7) (C := RX7) (T := TX7) (N := 14) hx hb hts hiX7 hown hK hP 0 rfl rfl 13 (by decide) hw0 (fun _ h9 => h9) rfl dX7_called_77 ?_
    refine lv_iconst (v := (0 : Int32)) hx hb dX7_called_80 (by decide) ?_
    obtain ⟨hg6, h⟩ := gd_s h
    refine va_iald (D := E.1) (cl := vwCl) (tys := gT E) hx hb hK hP 7 0 rfl rfl (inB_in hg6) dX7_called_81 ?_
    refine lv_aload_n hx hb dX7_called_82 rfl (lv_at hl 0 rfl) ?_
    refine va_get (D := E.1) (cl := vwCl) (ci := 7) (v := .ref a7) (C := RX7) (T := TX7) (N := 14) hx hb hts hiX7 hown hK hP 0 rfl rfl 13 (by decide) hw0 (fun _ h9 => h9) rfl dX7_called_83 ?_
    refine lv_iconst (v := (1 : Int32)) hx hb dX7_called_86 (by decide) ?_
    obtain ⟨hg7, h⟩ := gd_s h
    refine va_iald (D := E.1) (cl := vwCl) (tys := gT E) hx hb hK hP 7 0 rfl rfl (inB_in hg7) dX7_called_87 ?_
    refine lv_aload_n hx hb dX7_called_88 rfl (lv_at hl 0 rfl) ?_
    refine va_get (D := E.1) (cl := vwCl) (ci := 7) (v := .ref a7) (C := RX7) (T := TX7) (N := 14) hx hb hts hiX7 hown hK hP 0 rfl rfl 13 (by decide) hw0 (fun _ h9 => h9) rfl dX7_called_89 ?_
    refine lv_iconst (v := (2 : Int32)) hx hb dX7_called_92 (by decide) ?_
    obtain ⟨hg8, h⟩ := gd_s h
    refine va_iald (D := E.1) (cl := vwCl) (tys := gT E) hx hb hK hP 7 0 rfl rfl (inB_in hg8) dX7_called_93 ?_
    obtain ⟨r9, ss10, asd11, hc12, h⟩ := bd3_s h
    refine g_callVi (As := [.int (nb ((0 : Int32)).toNatClampNeg), .int (nb ((1 : Int32)).toNatClampNeg), .int (nb ((2 : Int32)).toNatClampNeg)]) (rest := []) (r := r9) (ws1 := (wMo E a0 a1 a2 a3 a4 a5 a6 a7 ss10 bg kp ik pt st tx ln asd11 att dn td fo nb)) ⟨hx, hb, hml, hown, hts⟩ (kX7_books E l a0 a1 a2 a3 a4 a5 a6 a7 ss bg kp ik pt st tx ln asd att dn td fo nb (nb ((0 : Int32)).toNatClampNeg) (nb ((1 : Int32)).toNatClampNeg) (nb ((2 : Int32)).toNatClampNeg) (r9, ss10, asd11) hc12) (cwV 3 hts gX7_called_X7_books rfl rfl rfl (by decide +kernel) ⟨Nat.le_of_ble_eq_true rfl, Nat.le_of_ble_eq_true rfl⟩) hK hP hD hS hA hG hl [0, 1, 2, 3, 4, 5, 6, 7] 0 (by decide) rfl (ci := 7) rfl rfl rfl rfl rfl rfl rfl rfl rfl (Nat.le_of_ble_eq_true rfl) dX7_called_94 (Nat.zero_le _) (Nat.zero_le _) (fun H locs hP hD hS => ?_)
    exact hret (r9, ss10, asd11) _ _ _ _ _ (Option.some.inj h) hP hS rfl dX7_called_97
  replace h := g_if hk1 h
  by_cases hk2 : p1 = (108 : Int32)
  · replace h := g_it hk2 h
    refine lv_lookup (tgt := 52) (off := 51) hx hb dX7_called_1 (by decide) (by rw [hk2]; rfl) (by decide) ?_
    refine lv_aload_n hx hb dX7_called_52 rfl (lv_at hl 0 rfl) ?_
    refine lv_aload_n hx hb dX7_called_53 rfl (lv_at hl 0 rfl) ?_
    refine va_get (D := E.1) (cl := vwCl) (ci := 7) (v := .ref a7) (C := RX7) (T := TX7) (N := 14) hx hb hts hiX7 hown hK hP 0 rfl rfl 13 (by decide) hw0 (fun _ h9 => h9) rfl dX7_called_54 ?_
    refine lv_iconst (v := (0 : Int32)) hx hb dX7_called_57 (by decide) ?_
    obtain ⟨hg13, h⟩ := gd_s h
    refine va_iald (D := E.1) (cl := vwCl) (tys := gT E) hx hb hK hP 7 0 rfl rfl (inB_in hg13) dX7_called_58 ?_
    refine lv_aload_n hx hb dX7_called_59 rfl (lv_at hl 0 rfl) ?_
    refine va_get (D := E.1) (cl := vwCl) (ci := 7) (v := .ref a7) (C := RX7) (T := TX7) (N := 14) hx hb hts hiX7 hown hK hP 0 rfl rfl 13 (by decide) hw0 (fun _ h9 => h9) rfl dX7_called_60 ?_
    refine lv_iconst (v := (1 : Int32)) hx hb dX7_called_63 (by decide) ?_
    obtain ⟨hg14, h⟩ := gd_s h
    refine va_iald (D := E.1) (cl := vwCl) (tys := gT E) hx hb hK hP 7 0 rfl rfl (inB_in hg14) dX7_called_64 ?_
    refine lv_aload_n hx hb dX7_called_65 rfl (lv_at hl 0 rfl) ?_
    refine va_get (D := E.1) (cl := vwCl) (ci := 7) (v := .ref a7) (C := RX7) (T := TX7) (N := 14) hx hb hts hiX7 hown hK hP 0 rfl rfl 13 (by decide) hw0 (fun _ h9 => h9) rfl dX7_called_66 ?_
    refine lv_iconst (v := (2 : Int32)) hx hb dX7_called_69 (by decide) ?_
    obtain ⟨hg15, h⟩ := gd_s h
    refine va_iald (D := E.1) (cl := vwCl) (tys := gT E) hx hb hK hP 7 0 rfl rfl (inB_in hg15) dX7_called_70 ?_
    obtain ⟨r16, ss17, hc18, h⟩ := bd2_s h
    refine g_callVi (As := [.int (nb ((0 : Int32)).toNatClampNeg), .int (nb ((1 : Int32)).toNatClampNeg), .int (nb ((2 : Int32)).toNatClampNeg)]) (rest := []) (r := r16) (ws1 := (wMo E a0 a1 a2 a3 a4 a5 a6 a7 ss17 bg kp ik pt st tx ln asd att dn td fo nb)) ⟨hx, hb, hml, hown, hts⟩ (kX7_loads E l a0 a1 a2 a3 a4 a5 a6 a7 ss bg kp ik pt st tx ln asd att dn td fo nb (nb ((0 : Int32)).toNatClampNeg) (nb ((1 : Int32)).toNatClampNeg) (nb ((2 : Int32)).toNatClampNeg) (r16, ss17) hc18) (cwV 3 hts gX7_called_X7_loads rfl rfl rfl (by decide +kernel) ⟨Nat.le_of_ble_eq_true rfl, Nat.le_of_ble_eq_true rfl⟩) hK hP hD hS hA hG hl [0, 1, 2, 3, 4, 5, 6, 7] 0 (by decide) rfl (ci := 7) rfl rfl rfl rfl rfl rfl rfl rfl rfl (Nat.le_of_ble_eq_true rfl) dX7_called_71 (Nat.zero_le _) (Nat.zero_le _) (fun H locs hP hD hS => ?_)
    exact hret (r16, ss17, asd) _ _ _ _ _ (Option.some.inj h) hP hS rfl dX7_called_74
  replace h := g_if hk2 h
  by_cases hk3 : p1 = (110 : Int32)
  · replace h := g_it hk3 h
    refine lv_lookup (tgt := 126) (off := 125) hx hb dX7_called_1 (by decide) (by rw [hk3]; rfl) (by decide) ?_
    refine lv_aload_n hx hb dX7_called_126 rfl (lv_at hl 0 rfl) ?_
    refine lv_aload_n hx hb dX7_called_127 rfl (lv_at hl 0 rfl) ?_
    refine va_get (D := E.1) (cl := vwCl) (ci := 7) (v := .ref a7) (C := RX7) (T := TX7) (N := 14) hx hb hts hiX7 hown hK hP 0 rfl rfl 13 (by decide) hw0 (fun _ h9 => h9) rfl dX7_called_128 ?_
    refine lv_iconst (v := (0 : Int32)) hx hb dX7_called_131 (by decide) ?_
    obtain ⟨hg19, h⟩ := gd_s h
    refine va_iald (D := E.1) (cl := vwCl) (tys := gT E) hx hb hK hP 7 0 rfl rfl (inB_in hg19) dX7_called_132 ?_
    obtain ⟨r20, ss21, hc22, h⟩ := bd2_s h
    refine g_callVi (As := [.int (nb ((0 : Int32)).toNatClampNeg)]) (rest := []) (r := r20) (ws1 := (wMo E a0 a1 a2 a3 a4 a5 a6 a7 ss21 bg kp ik pt st tx ln asd att dn td fo nb)) ⟨hx, hb, hml, hown, hts⟩ (kX7_sleeps E l a0 a1 a2 a3 a4 a5 a6 a7 ss bg kp ik pt st tx ln asd att dn td fo nb (nb ((0 : Int32)).toNatClampNeg) (r20, ss21) hc22) (cwV 1 hts gX7_called_X7_sleeps rfl rfl rfl (by decide +kernel) ⟨Nat.le_of_ble_eq_true rfl, Nat.le_of_ble_eq_true rfl⟩) hK hP hD hS hA hG hl [0, 1, 2, 3, 4, 5, 6, 7] 0 (by decide) rfl (ci := 7) rfl rfl rfl rfl rfl rfl rfl rfl rfl (Nat.le_of_ble_eq_true rfl) dX7_called_133 (Nat.zero_le _) (Nat.zero_le _) (fun H locs hP hD hS => ?_)
    exact hret (r20, ss21, asd) _ _ _ _ _ (Option.some.inj h) hP hS rfl dX7_called_136
  replace h := g_if hk3 h
  by_cases hk4 : p1 = (115 : Int32)
  · replace h := g_it hk4 h
    refine lv_lookup (tgt := 98) (off := 97) hx hb dX7_called_1 (by decide) (by rw [hk4]; rfl) (by decide) ?_
    refine lv_aload_n hx hb dX7_called_98 rfl (lv_at hl 0 rfl) ?_
    refine lv_aload_n hx hb dX7_called_99 rfl (lv_at hl 0 rfl) ?_
    refine va_get (D := E.1) (cl := vwCl) (ci := 7) (v := .ref a7) (C := RX7) (T := TX7) (N := 14) hx hb hts hiX7 hown hK hP 0 rfl rfl 13 (by decide) hw0 (fun _ h9 => h9) rfl dX7_called_100 ?_
    refine lv_iconst (v := (0 : Int32)) hx hb dX7_called_103 (by decide) ?_
    obtain ⟨hg23, h⟩ := gd_s h
    refine va_iald (D := E.1) (cl := vwCl) (tys := gT E) hx hb hK hP 7 0 rfl rfl (inB_in hg23) dX7_called_104 ?_
    refine lv_aload_n hx hb dX7_called_105 rfl (lv_at hl 0 rfl) ?_
    refine va_get (D := E.1) (cl := vwCl) (ci := 7) (v := .ref a7) (C := RX7) (T := TX7) (N := 14) hx hb hts hiX7 hown hK hP 0 rfl rfl 13 (by decide) hw0 (fun _ h9 => h9) rfl dX7_called_106 ?_
    refine lv_iconst (v := (1 : Int32)) hx hb dX7_called_109 (by decide) ?_
    obtain ⟨hg24, h⟩ := gd_s h
    refine va_iald (D := E.1) (cl := vwCl) (tys := gT E) hx hb hK hP 7 0 rfl rfl (inB_in hg24) dX7_called_110 ?_
    obtain ⟨r25, ss26, hc27, h⟩ := bd2_s h
    refine g_callVi (As := [.int (nb ((0 : Int32)).toNatClampNeg), .int (nb ((1 : Int32)).toNatClampNeg)]) (rest := []) (r := r25) (ws1 := (wMo E a0 a1 a2 a3 a4 a5 a6 a7 ss26 bg kp ik pt st tx ln asd att dn td fo nb)) ⟨hx, hb, hml, hown, hts⟩ (kX7_storms E l a0 a1 a2 a3 a4 a5 a6 a7 ss bg kp ik pt st tx ln asd att dn td fo nb (nb ((0 : Int32)).toNatClampNeg) (nb ((1 : Int32)).toNatClampNeg) (r25, ss26) hc27) (cwV 2 hts gX7_called_X7_storms rfl rfl rfl (by decide +kernel) ⟨Nat.le_of_ble_eq_true rfl, Nat.le_of_ble_eq_true rfl⟩) hK hP hD hS hA hG hl [0, 1, 2, 3, 4, 5, 6, 7] 0 (by decide) rfl (ci := 7) rfl rfl rfl rfl rfl rfl rfl rfl rfl (Nat.le_of_ble_eq_true rfl) dX7_called_111 (Nat.zero_le _) (Nat.zero_le _) (fun H locs hP hD hS => ?_)
    exact hret (r25, ss26, asd) _ _ _ _ _ (Option.some.inj h) hP hS rfl dX7_called_114
  replace h := g_if hk4 h
  by_cases hk5 : p1 = (120 : Int32)
  · replace h := g_it hk5 h
    refine lv_lookup (tgt := 115) (off := 114) hx hb dX7_called_1 (by decide) (by rw [hk5]; rfl) (by decide) ?_
    refine lv_aload_n hx hb dX7_called_115 rfl (lv_at hl 0 rfl) ?_
    refine lv_aload_n hx hb dX7_called_116 rfl (lv_at hl 0 rfl) ?_
    refine va_get (D := E.1) (cl := vwCl) (ci := 7) (v := .ref a7) (C := RX7) (T := TX7) (N := 14) hx hb hts hiX7 hown hK hP 0 rfl rfl 13 (by decide) hw0 (fun _ h9 => h9) rfl dX7_called_117 ?_
    refine lv_iconst (v := (0 : Int32)) hx hb dX7_called_120 (by decide) ?_
    obtain ⟨hg28, h⟩ := gd_s h
    refine va_iald (D := E.1) (cl := vwCl) (tys := gT E) hx hb hK hP 7 0 rfl rfl (inB_in hg28) dX7_called_121 ?_
    obtain ⟨r29, ss30, hc31, h⟩ := bd2_s h
    refine g_callVi (As := [.int (nb ((0 : Int32)).toNatClampNeg)]) (rest := []) (r := r29) (ws1 := (wMo E a0 a1 a2 a3 a4 a5 a6 a7 ss30 bg kp ik pt st tx ln asd att dn td fo nb)) ⟨hx, hb, hml, hown, hts⟩ (kX7_cancels E l a0 a1 a2 a3 a4 a5 a6 a7 ss bg kp ik pt st tx ln asd att dn td fo nb (nb ((0 : Int32)).toNatClampNeg) (r29, ss30) hc31) (cwV 1 hts gX7_called_X7_cancels rfl rfl rfl (by decide +kernel) ⟨Nat.le_of_ble_eq_true rfl, Nat.le_of_ble_eq_true rfl⟩) hK hP hD hS hA hG hl [0, 1, 2, 3, 4, 5, 6, 7] 0 (by decide) rfl (ci := 7) rfl rfl rfl rfl rfl rfl rfl rfl rfl (Nat.le_of_ble_eq_true rfl) dX7_called_122 (Nat.zero_le _) (Nat.zero_le _) (fun H locs hP hD hS => ?_)
    exact hret (r29, ss30, asd) _ _ _ _ _ (Option.some.inj h) hP hS rfl dX7_called_125
  replace h := g_if hk5 h
  refine lv_lookup (tgt := 137) (off := 136) hx hb dX7_called_1 (by decide) (by show Op.lookupswitch.offset [(98, 74), (108, 51), (110, 125), (115, 97), (120, 114)] 136 _ = _; rw [lv_osw hk1 (by decide), lv_osw hk2 (by decide), lv_osw hk3 (by decide), lv_osw hk4 (by decide), lv_osw hk5 (by decide)]; rfl) (by decide) ?_
  refine lv_aload_n hx hb dX7_called_137 rfl (lv_at hl 0 rfl) ?_
  obtain ⟨r32, ss33, hc34, h⟩ := bd2_s h
  refine g_callVi (As := []) (rest := []) (r := r32) (ws1 := (wMo E a0 a1 a2 a3 a4 a5 a6 a7 ss33 bg kp ik pt st tx ln asd att dn td fo nb)) ⟨hx, hb, hml, hown, hts⟩ (kX7_flies E l a0 a1 a2 a3 a4 a5 a6 a7 ss bg kp ik pt st tx ln asd att dn td fo nb (r32, ss33) hc34) (cwV 0 hts gX7_called_X7_flies rfl rfl rfl (by decide +kernel) ⟨Nat.le_of_ble_eq_true rfl, Nat.le_of_ble_eq_true rfl⟩) hK hP hD hS hA hG hl [0, 1, 2, 3, 4, 5, 6, 7] 0 (by decide) rfl (ci := 7) rfl rfl rfl rfl rfl rfl rfl rfl rfl (Nat.le_of_ble_eq_true rfl) dX7_called_138 (Nat.zero_le _) (Nat.zero_le _) (fun H locs hP hD hS => ?_)
  exact hret (r32, ss33, asd) _ _ _ _ _ (Option.some.inj h) hP hS rfl dX7_called_141
set_option maxHeartbeats 4000000 in
set_option maxRecDepth 100000 in
theorem kX7_cancel (E : gE) (l : Launch) (a0 a1 a2 a3 a4 a5 a6 a7 : Nat) (ss : Nat → Int32) (bg : Nat → Int32) (kp : Nat → Int32) (ik : Int32) (pt : Nat → Int32) (st : Int32) (tx : Nat → Int32) (ln : Int32) (asd : Nat → Int32) (att : Int32) (dn : Int32) (td : Int32) (fo : Int32) (nb : Nat → Int32) (p1 : Int32) (res : Int32 × (Nat → Int32) × (Nat → Int32) × (Nat → Int32) × Int32) (h : fX7_cancel ss bg pt st p1 = some res) : gMI E l yX7_cancel wsX7_cancel ({ frames := 3, cells := 0, slots := 0, locals := 66 } : Room) [.ref a0, .int p1] (wMo E a0 a1 a2 a3 a4 a5 a6 a7 ss bg kp ik pt st tx ln asd att dn td fo nb) (fun res : Int32 × (Nat → Int32) × (Nat → Int32) × (Nat → Int32) × Int32 => (wMo E a0 a1 a2 a3 a4 a5 a6 a7 res.2.1 res.2.2.1 kp ik res.2.2.2.1 res.2.2.2.2 tx ln asd att dn td fo nb)) (fun res => res.1) res := by
  refine g_entI (cc := cX7_cancel) (maxL := 2) (by decide) rfl (Nat.le_of_ble_eq_true rfl) ?_
  intro p e s m args below meth c A Q ls hx hb hml hown hts hK hP hD hS hA hG hret hl
  unfold fX7_cancel at h
  replace hl : lv_has ls 2 [(0, .ref a0), (1, .int p1)] := hl
  refine lv_aload_n hx hb dX7_cancel_0 rfl (lv_at hl 0 rfl) ?_
  obtain ⟨bg1, hc2, h⟩ := bd1_s h
  refine g_callVv (As := []) (rest := []) (ws1 := (wMo E a0 a1 a2 a3 a4 a5 a6 a7 ss bg1 kp ik pt st tx ln asd att dn td fo nb)) ⟨hx, hb, hml, hown, hts⟩ (kX7_begins E l a0 a1 a2 a3 a4 a5 a6 a7 ss bg kp ik pt st tx ln asd att dn td fo nb bg1 hc2) (cwV 0 hts gX7_cancel_X7_begins rfl rfl rfl (by decide +kernel) ⟨Nat.le_of_ble_eq_true rfl, Nat.le_of_ble_eq_true rfl⟩) hK hP hD hS hA hG hl [0, 1, 2, 3, 4, 5, 6, 7] 0 (by decide) rfl (ci := 7) rfl rfl rfl rfl rfl rfl rfl rfl (Nat.le_of_ble_eq_true rfl) dX7_cancel_1 (Nat.zero_le _) (Nat.zero_le _) (fun H locs hP hD hS => ?_)
  refine lv_aload_n hx hb dX7_cancel_4 rfl (lv_at hl 0 rfl) ?_
  refine lv_aload_n hx hb dX7_cancel_5 rfl (lv_at hl 0 rfl) ?_
  refine lv_iload_n hx hb dX7_cancel_6 rfl (lv_at hl 1 rfl) ?_
  obtain ⟨r3, ss4, hc5, h⟩ := bd2_s h
  refine g_callVi (As := [.int p1]) (rest := [.ref a0]) (r := r3) (ws1 := (wMo E a0 a1 a2 a3 a4 a5 a6 a7 ss4 bg1 kp ik pt st tx ln asd att dn td fo nb)) ⟨hx, hb, hml, hown, hts⟩ (kX7_cancels E l a0 a1 a2 a3 a4 a5 a6 a7 ss bg1 kp ik pt st tx ln asd att dn td fo nb p1 (r3, ss4) hc5) (cwV 1 hts gX7_cancel_X7_cancels rfl rfl rfl (by decide +kernel) ⟨Nat.le_of_ble_eq_true rfl, Nat.le_of_ble_eq_true rfl⟩) hK hP hD hS hA hG hl [0, 1, 2, 3, 4, 5, 6, 7] 0 (by decide) rfl (ci := 7) rfl rfl rfl rfl rfl rfl rfl rfl rfl (Nat.le_of_ble_eq_true rfl) dX7_cancel_7 (Nat.zero_le _) (Nat.zero_le _) (fun H locs hP hD hS => ?_)
  obtain ⟨r6, ss7, pt8, st9, hc10, h⟩ := bd4_s h
  refine g_callVi (As := [.int r3]) (rest := []) (r := r6) (ws1 := (wMo E a0 a1 a2 a3 a4 a5 a6 a7 ss7 bg1 kp ik pt8 st9 tx ln asd att dn td fo nb)) ⟨hx, hb, hml, hown, hts⟩ (kX7_acted E l a0 a1 a2 a3 a4 a5 a6 a7 ss4 bg1 kp ik pt st tx ln asd att dn td fo nb r3 (r6, ss7, pt8, st9) hc10) (cwV 1 hts gX7_cancel_X7_acted rfl rfl rfl (by decide +kernel) ⟨Nat.le_of_ble_eq_true rfl, Nat.le_of_ble_eq_true rfl⟩) hK hP hD hS hA hG hl [0, 1, 2, 3, 4, 5, 6, 7] 0 (by decide) rfl (ci := 7) rfl rfl rfl rfl rfl rfl rfl rfl rfl (Nat.le_of_ble_eq_true rfl) dX7_cancel_10 (Nat.zero_le _) (Nat.zero_le _) (fun H locs hP hD hS => ?_)
  exact hret (r6, ss7, bg1, pt8, st9) _ _ _ _ _ (Option.some.inj h) hP hS rfl dX7_cancel_13
set_option maxHeartbeats 4000000 in
set_option maxRecDepth 100000 in
theorem kX7_clear (E : gE) (l : Launch) (a0 a1 a2 a3 a4 a5 a6 a7 : Nat) (ss : Nat → Int32) (bg : Nat → Int32) (kp : Nat → Int32) (ik : Int32) (pt : Nat → Int32) (st : Int32) (tx : Nat → Int32) (ln : Int32) (asd : Nat → Int32) (att : Int32) (dn : Int32) (td : Int32) (fo : Int32) (nb : Nat → Int32) (p1 : Int32) (res : Int32 × (Nat → Int32) × (Nat → Int32) × (Nat → Int32) × Int32) (h : fX7_clear ss bg pt st p1 = some res) : gMI E l yX7_clear wsX7_clear ({ frames := 2, cells := 0, slots := 0, locals := 43 } : Room) [.ref a0, .int p1] (wMo E a0 a1 a2 a3 a4 a5 a6 a7 ss bg kp ik pt st tx ln asd att dn td fo nb) (fun res : Int32 × (Nat → Int32) × (Nat → Int32) × (Nat → Int32) × Int32 => (wMo E a0 a1 a2 a3 a4 a5 a6 a7 res.2.1 res.2.2.1 kp ik res.2.2.2.1 res.2.2.2.2 tx ln asd att dn td fo nb)) (fun res => res.1) res := by
  refine g_entI (cc := cX7_clear) (maxL := 3) (by decide) rfl (Nat.le_of_ble_eq_true rfl) ?_
  intro p e s m args below meth c A Q ls hx hb hml hown hts hK hP hD hS hA hG hret hl
  unfold fX7_clear at h
  replace hl : lv_has ls 3 [(0, .ref a0), (1, .int p1)] := hl
  have hiX7 : ∀ w ∈ wsX70, w ∈ wsX7_clear := by decide +kernel
  have hw0 := hts (.fieldLink RX7 7 "GlacierHutModel" "s" "[I") (by decide +kernel)
  refine lv_aload_n hx hb dX7_clear_0 rfl (lv_at hl 0 rfl) ?_
  obtain ⟨bg1, hc2, h⟩ := bd1_s h
  refine g_callVv (As := []) (rest := []) (ws1 := (wMo E a0 a1 a2 a3 a4 a5 a6 a7 ss bg1 kp ik pt st tx ln asd att dn td fo nb)) ⟨hx, hb, hml, hown, hts⟩ (kX7_begins E l a0 a1 a2 a3 a4 a5 a6 a7 ss bg kp ik pt st tx ln asd att dn td fo nb bg1 hc2) (cwV 0 hts gX7_clear_X7_begins rfl rfl rfl (by decide +kernel) ⟨Nat.le_of_ble_eq_true rfl, Nat.le_of_ble_eq_true rfl⟩) hK hP hD hS hA hG hl [0, 1, 2, 3, 4, 5, 6, 7] 0 (by decide) rfl (ci := 7) rfl rfl rfl rfl rfl rfl rfl rfl (Nat.le_of_ble_eq_true rfl) dX7_clear_1 (Nat.zero_le _) (Nat.zero_le _) (fun H locs hP hD hS => ?_)
  refine lv_iload_n hx hb dX7_clear_4 rfl (lv_at hl 1 rfl) ?_
  refine lv_aload_n hx hb dX7_clear_5 rfl (lv_at hl 0 rfl) ?_
  refine va_get (D := E.1) (cl := vwCl) (ci := 7) (v := .ref a1) (C := RX7) (T := TX7) (N := 14) hx hb hts hiX7 hown hK hP 0 rfl rfl 0 (by decide) hw0 (fun _ h9 => h9) rfl dX7_clear_6 ?_
  refine lv_iconst (v := (0 : Int32)) hx hb dX7_clear_9 (by decide) ?_
  obtain ⟨hg3, h⟩ := gd_s h
  refine va_iald (D := E.1) (cl := vwCl) (tys := gT E) hx hb hK hP 1 0 rfl rfl (inB_in hg3) dX7_clear_10 ?_
  refine lv_sipush (v := (395 : Int32)) hx hb dX7_clear_11 (by decide) ?_
  obtain ⟨r4, hc5, h⟩ := bd1_s h
  refine g_callSi (As := [.int p1, .int (ss ((0 : Int32)).toNatClampNeg), .int (395 : Int32)]) (rest := []) (r := r4) ⟨hx, hb, hml, hown, hts⟩ (kX7_in E l p1 (ss ((0 : Int32)).toNatClampNeg) (395 : Int32) r4 hc5) (va_cwS 3 hts gX7_clear_X7_in rfl rfl rfl (by decide +kernel) ⟨Nat.le_of_ble_eq_true rfl, Nat.le_of_ble_eq_true rfl⟩) hK hP hD hS hA hG hl rfl rfl rfl (Nat.le_of_ble_eq_true rfl) dX7_clear_14 (Nat.zero_le _) (Nat.zero_le _) (fun H locs hP hD hS => ?_)
  refine lv_if_ne (tgt := 22) hx hb dX7_clear_17 (by decide) (fun hc6 => ?_) (fun hc6 => ?_)
  · replace h := g_if hc6 h
    refine lv_aload_n hx hb dX7_clear_22 rfl (lv_at hl 0 rfl) ?_
    refine va_get (D := E.1) (cl := vwCl) (ci := 7) (v := .ref a1) (C := RX7) (T := TX7) (N := 14) hx hb hts hiX7 hown hK hP 0 rfl rfl 0 (by decide) hw0 (fun _ h9 => h9) rfl dX7_clear_23 ?_
    refine lv_sipush (v := (203 : Int32)) hx hb dX7_clear_26 (by decide) ?_
    refine lv_iload_n hx hb dX7_clear_29 rfl (lv_at hl 1 rfl) ?_
    refine lv_iadd hx hb dX7_clear_30 ?_
    obtain ⟨hg7, h⟩ := gd_s h
    refine va_iald (D := E.1) (cl := vwCl) (tys := gT E) hx hb hK hP 1 0 rfl rfl (inB_in hg7) dX7_clear_31 ?_
    refine lv_topi (fun v8 e_v8 => ?_)
    replace h := jl_s e_v8 h
    refine lv_istore_n (lv' := [(2, .int v8), (0, .ref a0), (1, .int p1)]) hx hb dX7_clear_32 rfl hl (by decide) rfl (fun ls hl => ?_)
    refine lv_aload_n hx hb dX7_clear_33 rfl (lv_at hl 1 rfl) ?_
    refine va_get (D := E.1) (cl := vwCl) (ci := 7) (v := .ref a1) (C := RX7) (T := TX7) (N := 14) hx hb hts hiX7 hown hK hP 0 rfl rfl 0 (by decide) hw0 (fun _ h9 => h9) rfl dX7_clear_34 ?_
    refine lv_sipush (v := (203 : Int32)) hx hb dX7_clear_37 (by decide) ?_
    refine lv_iload_n hx hb dX7_clear_40 rfl (lv_at hl 2 rfl) ?_
    refine lv_iadd hx hb dX7_clear_41 ?_
    refine lv_iconst (v := (0 : Int32)) hx hb dX7_clear_42 (by decide) ?_
    refine va_iast (D := E.1) (cl := vwCl) (tys := gT E) hx hb hK hP hD hS 1 0 rfl rfl (inB_in hg7) dX7_clear_43 (fun H locs hP hD hS => ?_)
    obtain ⟨ss9, e_ss9⟩ : ∃ y : Nat → Int32, y = (upd ss (((203 : Int32) + p1)).toNatClampNeg (0 : Int32)) := ⟨_, rfl⟩
    replace h := jl_s e_ss9 h
    replace hP : va_P E.1 vwCl (wMo E a0 a1 a2 a3 a4 a5 a6 a7 ss9 bg1 kp ik pt st tx ln asd att dn td fo nb) H := (by rw [e_ss9]; exact hP)
    replace hD : va_D A (wMo E a0 a1 a2 a3 a4 a5 a6 a7 ss9 bg1 kp ik pt st tx ln asd att dn td fo nb) := gD_same hD rfl
    refine lv_aload_n hx hb dX7_clear_44 rfl (lv_at hl 1 rfl) ?_
    refine lv_iload_n hx hb dX7_clear_45 rfl (lv_at hl 0 rfl) ?_
    obtain ⟨r10, ss11, pt12, st13, hc14, h⟩ := bd4_s h
    refine g_callVi (As := [.int v8]) (rest := []) (r := r10) (ws1 := (wMo E a0 a1 a2 a3 a4 a5 a6 a7 ss11 bg1 kp ik pt12 st13 tx ln asd att dn td fo nb)) ⟨hx, hb, hml, hown, hts⟩ (kX7_acted E l a0 a1 a2 a3 a4 a5 a6 a7 ss9 bg1 kp ik pt st tx ln asd att dn td fo nb v8 (r10, ss11, pt12, st13) hc14) (cwV 1 hts gX7_clear_X7_acted rfl rfl rfl (by decide +kernel) ⟨Nat.le_of_ble_eq_true rfl, Nat.le_of_ble_eq_true rfl⟩) hK hP hD hS hA hG hl [0, 1, 2, 3, 4, 5, 6, 7] 0 (by decide) rfl (ci := 7) rfl rfl rfl rfl rfl rfl rfl rfl rfl (Nat.le_of_ble_eq_true rfl) dX7_clear_46 (Nat.zero_le _) (Nat.zero_le _) (fun H locs hP hD hS => ?_)
    exact hret (r10, ss11, bg1, pt12, st13) _ _ _ _ _ (Option.some.inj h) hP hS rfl dX7_clear_49
  · replace h := g_it hc6 h
    refine lv_iconst (v := (-1 : Int32)) hx hb dX7_clear_20 (by decide) ?_
    exact hret ((-1 : Int32), ss, bg1, pt, st) _ _ _ _ _ (Option.some.inj h) hP hS rfl dX7_clear_21
set_option maxHeartbeats 4000000 in
set_option maxRecDepth 100000 in
theorem kX7_clearText (E : gE) (l : Launch) (a0 a1 a2 a3 a4 a5 a6 a7 : Nat) (ss : Nat → Int32) (bg : Nat → Int32) (kp : Nat → Int32) (ik : Int32) (pt : Nat → Int32) (st : Int32) (tx : Nat → Int32) (ln : Int32) (asd : Nat → Int32) (att : Int32) (dn : Int32) (td : Int32) (fo : Int32) (nb : Nat → Int32)  (res : Int32 × Int32) (h : fX7_clearText ln  = some res) : gMI E l yX7_clearText wsX7_clearText ({ frames := 0, cells := 0, slots := 0, locals := 0 } : Room) [.ref a0] (wMo E a0 a1 a2 a3 a4 a5 a6 a7 ss bg kp ik pt st tx ln asd att dn td fo nb) (fun res : Int32 × Int32 => (wMo E a0 a1 a2 a3 a4 a5 a6 a7 ss bg kp ik pt st tx res.2 asd att dn td fo nb)) (fun res => res.1) res := by
  refine g_entI (cc := cX7_clearText) (maxL := 2) (by decide) rfl (Nat.le_of_ble_eq_true rfl) ?_
  intro p e s m args below meth c A Q ls hx hb hml hown hts hK hP hD hS hA hG hret hl
  unfold fX7_clearText at h
  replace hl : lv_has ls 2 [(0, .ref a0)] := hl
  have hiX7 : ∀ w ∈ wsX70, w ∈ wsX7_clearText := by decide +kernel
  have hw0 := hts (.fieldLink RX7 153 "GlacierHutModel" "length" "I") (by decide +kernel)
  refine lv_aload_n hx hb dX7_clearText_0 rfl (lv_at hl 0 rfl) ?_
  refine va_get (D := E.1) (cl := vwCl) (ci := 7) (v := .int ln) (C := RX7) (T := TX7) (N := 14) hx hb hts hiX7 hown hK hP 0 rfl rfl 7 (by decide) hw0 (fun _ h9 => h9) rfl dX7_clearText_1 ?_
  refine lv_istore_n (lv' := [(1, .int ln), (0, .ref a0)]) hx hb dX7_clearText_4 rfl hl (by decide) rfl (fun ls hl => ?_)
  refine lv_aload_n hx hb dX7_clearText_5 rfl (lv_at hl 1 rfl) ?_
  refine lv_iconst (v := (0 : Int32)) hx hb dX7_clearText_6 (by decide) ?_
  refine va_put (D := E.1) (cl := vwCl) (ci := 7) (v := .int (0 : Int32)) (ty := .int) (C := RX7) (T := TX7) (N := 14) hx hb hts hiX7 tyX7 tyX7_ok nmX7 hown hK hP hD hS 0 rfl rfl 7 (by decide) hw0 (fun _ h9 => h9) rfl (by decide +kernel) rfl rfl (Nat.le_of_ble_eq_true rfl) dX7_clearText_7 (fun H locs hP hD hS => ?_)
  replace hP : va_P E.1 vwCl (wMo E a0 a1 a2 a3 a4 a5 a6 a7 ss bg kp ik pt st tx (0 : Int32) asd att dn td fo nb) H := hP
  replace hD : va_D A (wMo E a0 a1 a2 a3 a4 a5 a6 a7 ss bg kp ik pt st tx (0 : Int32) asd att dn td fo nb) := hD
  refine lv_iload_n hx hb dX7_clearText_10 rfl (lv_at hl 0 rfl) ?_
  exact hret (ln, (0 : Int32)) _ _ _ _ _ (Option.some.inj h) hP hS rfl dX7_clearText_11
set_option maxHeartbeats 4000000 in
set_option maxRecDepth 100000 in
theorem kX7_count (E : gE) (l : Launch) (a0 a1 a2 a3 a4 a5 a6 a7 : Nat) (ss : Nat → Int32) (bg : Nat → Int32) (kp : Nat → Int32) (ik : Int32) (pt : Nat → Int32) (st : Int32) (tx : Nat → Int32) (ln : Int32) (asd : Nat → Int32) (att : Int32) (dn : Int32) (td : Int32) (fo : Int32) (nb : Nat → Int32) (p1 : Int32) (res : Int32) (h : fX7_count ss ik st ln p1 = some res) : gMI E l yX7_count wsX7_count ({ frames := 2, cells := 0, slots := 0, locals := 45 } : Room) [.ref a0, .int p1] (wMo E a0 a1 a2 a3 a4 a5 a6 a7 ss bg kp ik pt st tx ln asd att dn td fo nb) (fun res : Int32 => (wMo E a0 a1 a2 a3 a4 a5 a6 a7 ss bg kp ik pt st tx ln asd att dn td fo nb)) (fun res => res) res := by
  refine g_entI (cc := cX7_count) (maxL := 2) (by decide) rfl (Nat.le_of_ble_eq_true rfl) ?_
  intro p e s m args below meth c A Q ls hx hb hml hown hts hK hP hD hS hA hG hret hl
  unfold fX7_count at h
  replace hl : lv_has ls 2 [(0, .ref a0), (1, .int p1)] := hl
  have hiX7 : ∀ w ∈ wsX70, w ∈ wsX7_count := by decide +kernel
  have hw0 := hts (.fieldLink RX7 7 "GlacierHutModel" "s" "[I") (by decide +kernel)
  have hw1 := hts (.fieldLink RX7 34 "GlacierHutModel" "states" "I") (by decide +kernel)
  have hw2 := hts (.fieldLink RX7 153 "GlacierHutModel" "length" "I") (by decide +kernel)
  have hw3 := hts (.fieldLink RX7 156 "GlacierHutModel" "isKept" "Z") (by decide +kernel)
  refine lv_iload_n hx hb dX7_count_0 rfl (lv_at hl 1 rfl) ?_
  by_cases hk1 : p1 = (0 : Int32)
  · replace h := g_it hk1 h
    refine lv_tableIn (tgt := 76) (off := 75) hx hb dX7_count_1 (by rw [hk1]; decide) (by rw [hk1]; decide) (by rw [hk1]; rfl) (by decide) ?_
    refine lv_aload_n hx hb dX7_count_76 rfl (lv_at hl 0 rfl) ?_
    refine va_get (D := E.1) (cl := vwCl) (ci := 7) (v := .ref a1) (C := RX7) (T := TX7) (N := 14) hx hb hts hiX7 hown hK hP 0 rfl rfl 0 (by decide) hw0 (fun _ h9 => h9) rfl dX7_count_77 ?_
    refine lv_iconst (v := (4 : Int32)) hx hb dX7_count_80 (by decide) ?_
    obtain ⟨hg16, h⟩ := gd_s h
    refine va_iald (D := E.1) (cl := vwCl) (tys := gT E) hx hb hK hP 1 0 rfl rfl (inB_in hg16) dX7_count_81 ?_
    exact hret (ss ((4 : Int32)).toNatClampNeg) _ _ _ _ _ (Option.some.inj h) hP hS rfl dX7_count_82
  replace h := g_if hk1 h
  by_cases hk2 : p1 = (1 : Int32)
  · replace h := g_it hk2 h
    refine lv_tableIn (tgt := 83) (off := 82) hx hb dX7_count_1 (by rw [hk2]; decide) (by rw [hk2]; decide) (by rw [hk2]; rfl) (by decide) ?_
    refine lv_aload_n hx hb dX7_count_83 rfl (lv_at hl 0 rfl) ?_
    refine lv_iconst (v := (0 : Int32)) hx hb dX7_count_84 (by decide) ?_
    obtain ⟨r17, hc18, h⟩ := bd1_s h
    refine g_callRi (As := [.int (0 : Int32)]) (rest := []) (r := r17) ⟨hx, hb, hml, hown, hts⟩ (kX7_partiesOf E l a0 a1 a2 a3 a4 a5 a6 a7 ss bg kp ik pt st tx ln asd att dn td fo nb (0 : Int32) r17 hc18) (cwV 1 hts gX7_count_X7_partiesOf rfl rfl rfl (by decide +kernel) ⟨Nat.le_of_ble_eq_true rfl, Nat.le_of_ble_eq_true rfl⟩) hK hP hD hS hA hG hl [0, 1, 2, 3, 4, 5, 6, 7] 0 (by decide) rfl (ci := 7) rfl rfl rfl rfl rfl rfl rfl (Nat.le_of_ble_eq_true rfl) dX7_count_85 (Nat.zero_le _) (Nat.zero_le _) (fun H locs hP hD hS => ?_)
    exact hret r17 _ _ _ _ _ (Option.some.inj h) hP hS rfl dX7_count_88
  replace h := g_if hk2 h
  by_cases hk3 : p1 = (2 : Int32)
  · replace h := g_it hk3 h
    refine lv_tableIn (tgt := 89) (off := 88) hx hb dX7_count_1 (by rw [hk3]; decide) (by rw [hk3]; decide) (by rw [hk3]; rfl) (by decide) ?_
    refine lv_aload_n hx hb dX7_count_89 rfl (lv_at hl 0 rfl) ?_
    refine lv_iconst (v := (1 : Int32)) hx hb dX7_count_90 (by decide) ?_
    obtain ⟨r19, hc20, h⟩ := bd1_s h
    refine g_callRi (As := [.int (1 : Int32)]) (rest := []) (r := r19) ⟨hx, hb, hml, hown, hts⟩ (kX7_partiesOf E l a0 a1 a2 a3 a4 a5 a6 a7 ss bg kp ik pt st tx ln asd att dn td fo nb (1 : Int32) r19 hc20) (cwV 1 hts gX7_count_X7_partiesOf rfl rfl rfl (by decide +kernel) ⟨Nat.le_of_ble_eq_true rfl, Nat.le_of_ble_eq_true rfl⟩) hK hP hD hS hA hG hl [0, 1, 2, 3, 4, 5, 6, 7] 0 (by decide) rfl (ci := 7) rfl rfl rfl rfl rfl rfl rfl (Nat.le_of_ble_eq_true rfl) dX7_count_91 (Nat.zero_le _) (Nat.zero_le _) (fun H locs hP hD hS => ?_)
    exact hret r19 _ _ _ _ _ (Option.some.inj h) hP hS rfl dX7_count_94
  replace h := g_if hk3 h
  by_cases hk4 : p1 = (3 : Int32)
  · replace h := g_it hk4 h
    refine lv_tableIn (tgt := 95) (off := 94) hx hb dX7_count_1 (by rw [hk4]; decide) (by rw [hk4]; decide) (by rw [hk4]; rfl) (by decide) ?_
    refine lv_aload_n hx hb dX7_count_95 rfl (lv_at hl 0 rfl) ?_
    obtain ⟨r21, hc22, h⟩ := bd1_s h
    refine g_callRi (As := []) (rest := []) (r := r21) ⟨hx, hb, hml, hown, hts⟩ (kX7_guests E l a0 a1 a2 a3 a4 a5 a6 a7 ss bg kp ik pt st tx ln asd att dn td fo nb r21 hc22) (cwV 0 hts gX7_count_X7_guests rfl rfl rfl (by decide +kernel) ⟨Nat.le_of_ble_eq_true rfl, Nat.le_of_ble_eq_true rfl⟩) hK hP hD hS hA hG hl [0, 1, 2, 3, 4, 5, 6, 7] 0 (by decide) rfl (ci := 7) rfl rfl rfl rfl rfl rfl rfl (Nat.le_of_ble_eq_true rfl) dX7_count_96 (Nat.zero_le _) (Nat.zero_le _) (fun H locs hP hD hS => ?_)
    exact hret r21 _ _ _ _ _ (Option.some.inj h) hP hS rfl dX7_count_99
  replace h := g_if hk4 h
  by_cases hk5 : p1 = (4 : Int32)
  · replace h := g_it hk5 h
    refine lv_tableIn (tgt := 100) (off := 99) hx hb dX7_count_1 (by rw [hk5]; decide) (by rw [hk5]; decide) (by rw [hk5]; rfl) (by decide) ?_
    refine lv_aload_n hx hb dX7_count_100 rfl (lv_at hl 0 rfl) ?_
    refine va_get (D := E.1) (cl := vwCl) (ci := 7) (v := .ref a1) (C := RX7) (T := TX7) (N := 14) hx hb hts hiX7 hown hK hP 0 rfl rfl 0 (by decide) hw0 (fun _ h9 => h9) rfl dX7_count_101 ?_
    refine lv_iconst (v := (0 : Int32)) hx hb dX7_count_104 (by decide) ?_
    obtain ⟨hg23, h⟩ := gd_s h
    refine va_iald (D := E.1) (cl := vwCl) (tys := gT E) hx hb hK hP 1 0 rfl rfl (inB_in hg23) dX7_count_105 ?_
    exact hret (ss ((0 : Int32)).toNatClampNeg) _ _ _ _ _ (Option.some.inj h) hP hS rfl dX7_count_106
  replace h := g_if hk5 h
  by_cases hk6 : p1 = (5 : Int32)
  · replace h := g_it hk6 h
    refine lv_tableIn (tgt := 107) (off := 106) hx hb dX7_count_1 (by rw [hk6]; decide) (by rw [hk6]; decide) (by rw [hk6]; rfl) (by decide) ?_
    refine lv_aload_n hx hb dX7_count_107 rfl (lv_at hl 0 rfl) ?_
    refine lv_aload_n hx hb dX7_count_108 rfl (lv_at hl 0 rfl) ?_
    refine va_get (D := E.1) (cl := vwCl) (ci := 7) (v := .ref a1) (C := RX7) (T := TX7) (N := 14) hx hb hts hiX7 hown hK hP 0 rfl rfl 0 (by decide) hw0 (fun _ h9 => h9) rfl dX7_count_109 ?_
    refine lv_iconst (v := (0 : Int32)) hx hb dX7_count_112 (by decide) ?_
    obtain ⟨hg24, h⟩ := gd_s h
    refine va_iald (D := E.1) (cl := vwCl) (tys := gT E) hx hb hK hP 1 0 rfl rfl (inB_in hg24) dX7_count_113 ?_
    obtain ⟨r25, hc26, h⟩ := bd1_s h
    refine g_callRi (As := [.int (ss ((0 : Int32)).toNatClampNeg)]) (rest := []) (r := r25) ⟨hx, hb, hml, hown, hts⟩ (kX7_isStorm E l a0 a1 a2 a3 a4 a5 a6 a7 ss bg kp ik pt st tx ln asd att dn td fo nb (ss ((0 : Int32)).toNatClampNeg) r25 hc26) (cwV 1 hts gX7_count_X7_isStorm rfl rfl rfl (by decide +kernel) ⟨Nat.le_of_ble_eq_true rfl, Nat.le_of_ble_eq_true rfl⟩) hK hP hD hS hA hG hl [0, 1, 2, 3, 4, 5, 6, 7] 0 (by decide) rfl (ci := 7) rfl rfl rfl rfl rfl rfl rfl (Nat.le_of_ble_eq_true rfl) dX7_count_114 (Nat.zero_le _) (Nat.zero_le _) (fun H locs hP hD hS => ?_)
    refine lv_if_eq (tgt := 124) hx hb dX7_count_117 (by decide) (fun hc27 => ?_) (fun hc27 => ?_)
    · replace h := g_it hc27 h
      refine lv_iconst (v := (0 : Int32)) hx hb dX7_count_124 (by decide) ?_
      exact hret (0 : Int32) _ _ _ _ _ (Option.some.inj h) hP hS rfl dX7_count_125
    · replace h := g_if hc27 h
      refine lv_iconst (v := (1 : Int32)) hx hb dX7_count_120 (by decide) ?_
      refine lv_goto (tgt := 125) hx hb dX7_count_121 (by decide) ?_
      exact hret (1 : Int32) _ _ _ _ _ (Option.some.inj h) hP hS rfl dX7_count_125
  replace h := g_if hk6 h
  by_cases hk7 : p1 = (6 : Int32)
  · replace h := g_it hk7 h
    refine lv_tableIn (tgt := 126) (off := 125) hx hb dX7_count_1 (by rw [hk7]; decide) (by rw [hk7]; decide) (by rw [hk7]; rfl) (by decide) ?_
    refine lv_aload_n hx hb dX7_count_126 rfl (lv_at hl 0 rfl) ?_
    refine va_get (D := E.1) (cl := vwCl) (ci := 7) (v := .ref a1) (C := RX7) (T := TX7) (N := 14) hx hb hts hiX7 hown hK hP 0 rfl rfl 0 (by decide) hw0 (fun _ h9 => h9) rfl dX7_count_127 ?_
    refine lv_iconst (v := (1 : Int32)) hx hb dX7_count_130 (by decide) ?_
    obtain ⟨hg28, h⟩ := gd_s h
    refine va_iald (D := E.1) (cl := vwCl) (tys := gT E) hx hb hK hP 1 0 rfl rfl (inB_in hg28) dX7_count_131 ?_
    exact hret (ss ((1 : Int32)).toNatClampNeg) _ _ _ _ _ (Option.some.inj h) hP hS rfl dX7_count_132
  replace h := g_if hk7 h
  by_cases hk8 : p1 = (7 : Int32)
  · replace h := g_it hk8 h
    refine lv_tableIn (tgt := 133) (off := 132) hx hb dX7_count_1 (by rw [hk8]; decide) (by rw [hk8]; decide) (by rw [hk8]; rfl) (by decide) ?_
    refine lv_aload_n hx hb dX7_count_133 rfl (lv_at hl 0 rfl) ?_
    refine va_get (D := E.1) (cl := vwCl) (ci := 7) (v := .ref a1) (C := RX7) (T := TX7) (N := 14) hx hb hts hiX7 hown hK hP 0 rfl rfl 0 (by decide) hw0 (fun _ h9 => h9) rfl dX7_count_134 ?_
    refine lv_iconst (v := (3 : Int32)) hx hb dX7_count_137 (by decide) ?_
    obtain ⟨hg29, h⟩ := gd_s h
    refine va_iald (D := E.1) (cl := vwCl) (tys := gT E) hx hb hK hP 1 0 rfl rfl (inB_in hg29) dX7_count_138 ?_
    exact hret (ss ((3 : Int32)).toNatClampNeg) _ _ _ _ _ (Option.some.inj h) hP hS rfl dX7_count_139
  replace h := g_if hk8 h
  by_cases hk9 : p1 = (8 : Int32)
  · replace h := g_it hk9 h
    refine lv_tableIn (tgt := 140) (off := 139) hx hb dX7_count_1 (by rw [hk9]; decide) (by rw [hk9]; decide) (by rw [hk9]; rfl) (by decide) ?_
    refine lv_aload_n hx hb dX7_count_140 rfl (lv_at hl 0 rfl) ?_
    refine va_get (D := E.1) (cl := vwCl) (ci := 7) (v := .ref a1) (C := RX7) (T := TX7) (N := 14) hx hb hts hiX7 hown hK hP 0 rfl rfl 0 (by decide) hw0 (fun _ h9 => h9) rfl dX7_count_141 ?_
    refine lv_iconst (v := (5 : Int32)) hx hb dX7_count_144 (by decide) ?_
    refine lv_iload_n hx hb dX7_count_145 rfl (lv_at hl 1 rfl) ?_
    refine lv_iadd hx hb dX7_count_146 ?_
    refine lv_bipush (v := (8 : Int32)) hx hb dX7_count_147 (by decide) ?_
    refine lv_isub hx hb dX7_count_149 ?_
    obtain ⟨hg30, h⟩ := gd_s h
    refine va_iald (D := E.1) (cl := vwCl) (tys := gT E) hx hb hK hP 1 0 rfl rfl (inB_in hg30) dX7_count_150 ?_
    exact hret (ss ((((5 : Int32) + p1) - (8 : Int32))).toNatClampNeg) _ _ _ _ _ (Option.some.inj h) hP hS rfl dX7_count_151
  replace h := g_if hk9 h
  by_cases hk10 : p1 = (9 : Int32)
  · replace h := g_it hk10 h
    refine lv_tableIn (tgt := 140) (off := 139) hx hb dX7_count_1 (by rw [hk10]; decide) (by rw [hk10]; decide) (by rw [hk10]; rfl) (by decide) ?_
    refine lv_aload_n hx hb dX7_count_140 rfl (lv_at hl 0 rfl) ?_
    refine va_get (D := E.1) (cl := vwCl) (ci := 7) (v := .ref a1) (C := RX7) (T := TX7) (N := 14) hx hb hts hiX7 hown hK hP 0 rfl rfl 0 (by decide) hw0 (fun _ h9 => h9) rfl dX7_count_141 ?_
    refine lv_iconst (v := (5 : Int32)) hx hb dX7_count_144 (by decide) ?_
    refine lv_iload_n hx hb dX7_count_145 rfl (lv_at hl 1 rfl) ?_
    refine lv_iadd hx hb dX7_count_146 ?_
    refine lv_bipush (v := (8 : Int32)) hx hb dX7_count_147 (by decide) ?_
    refine lv_isub hx hb dX7_count_149 ?_
    obtain ⟨hg31, h⟩ := gd_s h
    refine va_iald (D := E.1) (cl := vwCl) (tys := gT E) hx hb hK hP 1 0 rfl rfl (inB_in hg31) dX7_count_150 ?_
    exact hret (ss ((((5 : Int32) + p1) - (8 : Int32))).toNatClampNeg) _ _ _ _ _ (Option.some.inj h) hP hS rfl dX7_count_151
  replace h := g_if hk10 h
  by_cases hk11 : p1 = (10 : Int32)
  · replace h := g_it hk11 h
    refine lv_tableIn (tgt := 140) (off := 139) hx hb dX7_count_1 (by rw [hk11]; decide) (by rw [hk11]; decide) (by rw [hk11]; rfl) (by decide) ?_
    refine lv_aload_n hx hb dX7_count_140 rfl (lv_at hl 0 rfl) ?_
    refine va_get (D := E.1) (cl := vwCl) (ci := 7) (v := .ref a1) (C := RX7) (T := TX7) (N := 14) hx hb hts hiX7 hown hK hP 0 rfl rfl 0 (by decide) hw0 (fun _ h9 => h9) rfl dX7_count_141 ?_
    refine lv_iconst (v := (5 : Int32)) hx hb dX7_count_144 (by decide) ?_
    refine lv_iload_n hx hb dX7_count_145 rfl (lv_at hl 1 rfl) ?_
    refine lv_iadd hx hb dX7_count_146 ?_
    refine lv_bipush (v := (8 : Int32)) hx hb dX7_count_147 (by decide) ?_
    refine lv_isub hx hb dX7_count_149 ?_
    obtain ⟨hg32, h⟩ := gd_s h
    refine va_iald (D := E.1) (cl := vwCl) (tys := gT E) hx hb hK hP 1 0 rfl rfl (inB_in hg32) dX7_count_150 ?_
    exact hret (ss ((((5 : Int32) + p1) - (8 : Int32))).toNatClampNeg) _ _ _ _ _ (Option.some.inj h) hP hS rfl dX7_count_151
  replace h := g_if hk11 h
  by_cases hk12 : p1 = (11 : Int32)
  · replace h := g_it hk12 h
    refine lv_tableIn (tgt := 140) (off := 139) hx hb dX7_count_1 (by rw [hk12]; decide) (by rw [hk12]; decide) (by rw [hk12]; rfl) (by decide) ?_
    refine lv_aload_n hx hb dX7_count_140 rfl (lv_at hl 0 rfl) ?_
    refine va_get (D := E.1) (cl := vwCl) (ci := 7) (v := .ref a1) (C := RX7) (T := TX7) (N := 14) hx hb hts hiX7 hown hK hP 0 rfl rfl 0 (by decide) hw0 (fun _ h9 => h9) rfl dX7_count_141 ?_
    refine lv_iconst (v := (5 : Int32)) hx hb dX7_count_144 (by decide) ?_
    refine lv_iload_n hx hb dX7_count_145 rfl (lv_at hl 1 rfl) ?_
    refine lv_iadd hx hb dX7_count_146 ?_
    refine lv_bipush (v := (8 : Int32)) hx hb dX7_count_147 (by decide) ?_
    refine lv_isub hx hb dX7_count_149 ?_
    obtain ⟨hg33, h⟩ := gd_s h
    refine va_iald (D := E.1) (cl := vwCl) (tys := gT E) hx hb hK hP 1 0 rfl rfl (inB_in hg33) dX7_count_150 ?_
    exact hret (ss ((((5 : Int32) + p1) - (8 : Int32))).toNatClampNeg) _ _ _ _ _ (Option.some.inj h) hP hS rfl dX7_count_151
  replace h := g_if hk12 h
  by_cases hk13 : p1 = (12 : Int32)
  · replace h := g_it hk13 h
    refine lv_tableIn (tgt := 152) (off := 151) hx hb dX7_count_1 (by rw [hk13]; decide) (by rw [hk13]; decide) (by rw [hk13]; rfl) (by decide) ?_
    refine lv_aload_n hx hb dX7_count_152 rfl (lv_at hl 0 rfl) ?_
    refine va_get (D := E.1) (cl := vwCl) (ci := 7) (v := .int st) (C := RX7) (T := TX7) (N := 14) hx hb hts hiX7 hown hK hP 0 rfl rfl 5 (by decide) hw1 (fun _ h9 => h9) rfl dX7_count_153 ?_
    exact hret st _ _ _ _ _ (Option.some.inj h) hP hS rfl dX7_count_156
  replace h := g_if hk13 h
  by_cases hk14 : p1 = (13 : Int32)
  · replace h := g_it hk14 h
    refine lv_tableIn (tgt := 157) (off := 156) hx hb dX7_count_1 (by rw [hk14]; decide) (by rw [hk14]; decide) (by rw [hk14]; rfl) (by decide) ?_
    refine lv_aload_n hx hb dX7_count_157 rfl (lv_at hl 0 rfl) ?_
    refine va_get (D := E.1) (cl := vwCl) (ci := 7) (v := .int ln) (C := RX7) (T := TX7) (N := 14) hx hb hts hiX7 hown hK hP 0 rfl rfl 7 (by decide) hw2 (fun _ h9 => h9) rfl dX7_count_158 ?_
    exact hret ln _ _ _ _ _ (Option.some.inj h) hP hS rfl dX7_count_161
  replace h := g_if hk14 h
  by_cases hk15 : p1 = (14 : Int32)
  · replace h := g_it hk15 h
    refine lv_tableIn (tgt := 162) (off := 161) hx hb dX7_count_1 (by rw [hk15]; decide) (by rw [hk15]; decide) (by rw [hk15]; rfl) (by decide) ?_
    refine lv_aload_n hx hb dX7_count_162 rfl (lv_at hl 0 rfl) ?_
    refine va_get (D := E.1) (cl := vwCl) (ci := 7) (v := .int ik) (C := RX7) (T := TX7) (N := 14) hx hb hts hiX7 hown hK hP 0 rfl rfl 3 (by decide) hw3 (fun _ h9 => h9) rfl dX7_count_163 ?_
    refine lv_if_eq (tgt := 173) hx hb dX7_count_166 (by decide) (fun hc34 => ?_) (fun hc34 => ?_)
    · replace h := g_it hc34 h
      refine lv_iconst (v := (0 : Int32)) hx hb dX7_count_173 (by decide) ?_
      exact hret (0 : Int32) _ _ _ _ _ (Option.some.inj h) hP hS rfl dX7_count_174
    · replace h := g_if hc34 h
      refine lv_iconst (v := (1 : Int32)) hx hb dX7_count_169 (by decide) ?_
      refine lv_goto (tgt := 174) hx hb dX7_count_170 (by decide) ?_
      exact hret (1 : Int32) _ _ _ _ _ (Option.some.inj h) hP hS rfl dX7_count_174
  replace h := g_if hk15 h
  refine lv_tableOut (tgt := 175) hx hb dX7_count_1 (by have q0 := lv_neT (a := 0) hk1 (by decide); have q1 := lv_neT (a := 1) hk2 (by decide); have q2 := lv_neT (a := 2) hk3 (by decide); have q3 := lv_neT (a := 3) hk4 (by decide); have q4 := lv_neT (a := 4) hk5 (by decide); have q5 := lv_neT (a := 5) hk6 (by decide); have q6 := lv_neT (a := 6) hk7 (by decide); have q7 := lv_neT (a := 7) hk8 (by decide); have q8 := lv_neT (a := 8) hk9 (by decide); have q9 := lv_neT (a := 9) hk10 (by decide); have q10 := lv_neT (a := 10) hk11 (by decide); have q11 := lv_neT (a := 11) hk12 (by decide); have q12 := lv_neT (a := 12) hk13 (by decide); have q13 := lv_neT (a := 13) hk14 (by decide); have q14 := lv_neT (a := 14) hk15 (by decide); omega) (by decide) ?_
  refine lv_iload_n hx hb dX7_count_175 rfl (lv_at hl 1 rfl) ?_
  refine lv_bipush (v := (20 : Int32)) hx hb dX7_count_176 (by decide) ?_
  refine lv_bipush (v := (23 : Int32)) hx hb dX7_count_178 (by decide) ?_
  obtain ⟨r35, hc36, h⟩ := bd1_s h
  refine g_callSi (As := [.int p1, .int (20 : Int32), .int (23 : Int32)]) (rest := []) (r := r35) ⟨hx, hb, hml, hown, hts⟩ (kX7_in E l p1 (20 : Int32) (23 : Int32) r35 hc36) (va_cwS 3 hts gX7_count_X7_in rfl rfl rfl (by decide +kernel) ⟨Nat.le_of_ble_eq_true rfl, Nat.le_of_ble_eq_true rfl⟩) hK hP hD hS hA hG hl rfl rfl rfl (Nat.le_of_ble_eq_true rfl) dX7_count_180 (Nat.zero_le _) (Nat.zero_le _) (fun H locs hP hD hS => ?_)
  refine lv_if_eq (tgt := 201) hx hb dX7_count_183 (by decide) (fun hc37 => ?_) (fun hc37 => ?_)
  · replace h := g_it hc37 h
    refine lv_iconst (v := (-1 : Int32)) hx hb dX7_count_201 (by decide) ?_
    exact hret (-1 : Int32) _ _ _ _ _ (Option.some.inj h) hP hS rfl dX7_count_202
  · replace h := g_if hc37 h
    refine lv_aload_n hx hb dX7_count_186 rfl (lv_at hl 0 rfl) ?_
    refine va_get (D := E.1) (cl := vwCl) (ci := 7) (v := .ref a1) (C := RX7) (T := TX7) (N := 14) hx hb hts hiX7 hown hK hP 0 rfl rfl 0 (by decide) hw0 (fun _ h9 => h9) rfl dX7_count_187 ?_
    refine lv_bipush (v := (10 : Int32)) hx hb dX7_count_190 (by decide) ?_
    refine lv_iload_n hx hb dX7_count_192 rfl (lv_at hl 1 rfl) ?_
    refine lv_iadd hx hb dX7_count_193 ?_
    refine lv_bipush (v := (20 : Int32)) hx hb dX7_count_194 (by decide) ?_
    refine lv_isub hx hb dX7_count_196 ?_
    obtain ⟨hg38, h⟩ := gd_s h
    refine va_iald (D := E.1) (cl := vwCl) (tys := gT E) hx hb hK hP 1 0 rfl rfl (inB_in hg38) dX7_count_197 ?_
    refine lv_goto (tgt := 202) hx hb dX7_count_198 (by decide) ?_
    exact hret (ss ((((10 : Int32) + p1) - (20 : Int32))).toNatClampNeg) _ _ _ _ _ (Option.some.inj h) hP hS rfl dX7_count_202
set_option maxHeartbeats 4000000 in
set_option maxRecDepth 100000 in
theorem kX7_here (E : gE) (l : Launch) (a0 a1 a2 a3 a4 a5 a6 a7 : Nat) (ss : Nat → Int32) (bg : Nat → Int32) (kp : Nat → Int32) (ik : Int32) (pt : Nat → Int32) (st : Int32) (tx : Nat → Int32) (ln : Int32) (asd : Nat → Int32) (att : Int32) (dn : Int32) (td : Int32) (fo : Int32) (nb : Nat → Int32)  (res : Int32) (h : fX7_here tx ln att  = some res) : gMI E l yX7_here wsX7_here ({ frames := 0, cells := 0, slots := 0, locals := 0 } : Room) [.ref a0] (wMo E a0 a1 a2 a3 a4 a5 a6 a7 ss bg kp ik pt st tx ln asd att dn td fo nb) (fun res : Int32 => (wMo E a0 a1 a2 a3 a4 a5 a6 a7 ss bg kp ik pt st tx ln asd att dn td fo nb)) (fun res => res) res := by
  refine g_entI (cc := cX7_here) (maxL := 1) (by decide) rfl (Nat.le_of_ble_eq_true rfl) ?_
  intro p e s m args below meth c A Q ls hx hb hml hown hts hK hP hD hS hA hG hret hl
  unfold fX7_here at h
  replace hl : lv_has ls 1 [(0, .ref a0)] := hl
  have hiX7 : ∀ w ∈ wsX70, w ∈ wsX7_here := by decide +kernel
  have hw0 := hts (.fieldLink RX7 160 "GlacierHutModel" "at" "I") (by decide +kernel)
  have hw1 := hts (.fieldLink RX7 153 "GlacierHutModel" "length" "I") (by decide +kernel)
  have hw2 := hts (.fieldLink RX7 22 "GlacierHutModel" "text" "[I") (by decide +kernel)
  refine lv_aload_n hx hb dX7_here_0 rfl (lv_at hl 0 rfl) ?_
  refine va_get (D := E.1) (cl := vwCl) (ci := 7) (v := .int att) (C := RX7) (T := TX7) (N := 14) hx hb hts hiX7 hown hK hP 0 rfl rfl 9 (by decide) hw0 (fun _ h9 => h9) rfl dX7_here_1 ?_
  refine lv_aload_n hx hb dX7_here_4 rfl (lv_at hl 0 rfl) ?_
  refine va_get (D := E.1) (cl := vwCl) (ci := 7) (v := .int ln) (C := RX7) (T := TX7) (N := 14) hx hb hts hiX7 hown hK hP 0 rfl rfl 7 (by decide) hw1 (fun _ h9 => h9) rfl dX7_here_5 ?_
  refine lv_icmp_ge (tgt := 23) hx hb dX7_here_8 (by decide) (fun hc1 => ?_) (fun hc1 => ?_)
  · replace h := g_it hc1 h
    refine lv_iconst (v := (-1 : Int32)) hx hb dX7_here_23 (by decide) ?_
    exact hret (-1 : Int32) _ _ _ _ _ (Option.some.inj h) hP hS rfl dX7_here_24
  · replace h := g_if hc1 h
    refine lv_aload_n hx hb dX7_here_11 rfl (lv_at hl 0 rfl) ?_
    refine va_get (D := E.1) (cl := vwCl) (ci := 7) (v := .ref a5) (C := RX7) (T := TX7) (N := 14) hx hb hts hiX7 hown hK hP 0 rfl rfl 6 (by decide) hw2 (fun _ h9 => h9) rfl dX7_here_12 ?_
    refine lv_aload_n hx hb dX7_here_15 rfl (lv_at hl 0 rfl) ?_
    refine va_get (D := E.1) (cl := vwCl) (ci := 7) (v := .int att) (C := RX7) (T := TX7) (N := 14) hx hb hts hiX7 hown hK hP 0 rfl rfl 9 (by decide) hw0 (fun _ h9 => h9) rfl dX7_here_16 ?_
    obtain ⟨hg2, h⟩ := gd_s h
    refine va_iald (D := E.1) (cl := vwCl) (tys := gT E) hx hb hK hP 5 0 rfl rfl (inB_in hg2) dX7_here_19 ?_
    refine lv_goto (tgt := 24) hx hb dX7_here_20 (by decide) ?_
    exact hret (tx (att).toNatClampNeg) _ _ _ _ _ (Option.some.inj h) hP hS rfl dX7_here_24
