set_option maxHeartbeats 4000000 in
set_option maxRecDepth 100000 in
theorem kX7_returns (E : gE) (l : Launch) (a0 a1 a2 a3 a4 a5 a6 a7 : Nat) (ss : Nat → Int32) (bg : Nat → Int32) (kp : Nat → Int32) (ik : Int32) (pt : Nat → Int32) (st : Int32) (tx : Nat → Int32) (ln : Int32) (asd : Nat → Int32) (att : Int32) (dn : Int32) (td : Int32) (fo : Int32) (nb : Nat → Int32)  (res : (Nat → Int32)) (h : fX7_returns ss bg  = some res) : gMV E l yX7_returns wsX7_returns ({ frames := 0, cells := 0, slots := 0, locals := 0 } : Room) [.ref a0] (wMo E a0 a1 a2 a3 a4 a5 a6 a7 ss bg kp ik pt st tx ln asd att dn td fo nb) (fun res : (Nat → Int32) => (wMo E a0 a1 a2 a3 a4 a5 a6 a7 res bg kp ik pt st tx ln asd att dn td fo nb)) res := by
  refine g_entV (cc := cX7_returns) (maxL := 2) (by decide) rfl (Nat.le_of_ble_eq_true rfl) ?_
  intro p e s m args below meth c A Q ls hx hb hml hown hts hK hP hD hS hA hG hret hl
  unfold fX7_returns at h
  replace hl : lv_has ls 2 [(0, .ref a0)] := hl
  have hiX7 : ∀ w ∈ wsX70, w ∈ wsX7_returns := by decide +kernel
  have hw0 := hts (.fieldLink RX7 7 "GlacierHutModel" "s" "[I") (by decide +kernel)
  have hw1 := hts (.fieldLink RX7 13 "GlacierHutModel" "begun" "[I") (by decide +kernel)
  refine lv_iconst (v := (0 : Int32)) hx hb dX7_returns_0 (by decide) ?_
  refine lv_istore_n (lv' := [(1, .int (0 : Int32)), (0, .ref a0)]) hx hb dX7_returns_1 rfl hl (by decide) rfl (fun ls hl => ?_)
  refine gl2_e h (fun S_rec1 hS_rec1 h => ?_)
  have hL_rec1 : ∀ (nF : Nat) (v2 : Int32) (ss3 : Nat → Int32) (H : Heap) (locs : List Loc) (ls : Array Slot), va_P E.1 vwCl (wMo E a0 a1 a2 a3 a4 a5 a6 a7 ss3 bg kp ik pt st tx ln asd att dn td fo nb) H → va_S A s.heap H locs → lv_has ls 2 [(1, .int v2), (0, .ref a0)] → gl2 S_rec1 nF v2 ss3 = some res → W p l e ({ frames := 0, cells := 0, slots := 0, locals := 0 } : Room) s m args below meth c H locs 0 0 Q (F0 m 2 ls []) := by
    intro nF
    induction nF with
    | zero => intro v2 ss3 H locs ls hP hS hl h; exact gl2_z h
    | succ nF ih_rec1 =>
      intro v2 ss3 H locs ls hP hS hl h
      replace hD : va_D A (wMo E a0 a1 a2 a3 a4 a5 a6 a7 ss3 bg kp ik pt st tx ln asd att dn td fo nb) := gD_same hD rfl
      replace h : S_rec1 (gl2 S_rec1 nF) v2 ss3 = some res := h
      generalize gl2 S_rec1 nF = rec1 at h ih_rec1
      subst hS_rec1
      unfold sX7_returns_rec1 at h
      refine lv_iload_n hx hb dX7_returns_2 rfl (lv_at hl 0 rfl) ?_
      refine lv_sipush (v := (599 : Int32)) hx hb dX7_returns_3 (by decide) ?_
      refine lv_icmp_ge (tgt := 27) hx hb dX7_returns_6 (by decide) (fun hc4 => ?_) (fun hc4 => ?_)
      · replace h := g_it hc4 h
        exact hret ss3 _ _ _ _ (Option.some.inj h) hP hS dX7_returns_27
      · replace h := g_if hc4 h
        refine lv_aload_n hx hb dX7_returns_9 rfl (lv_at hl 1 rfl) ?_
        refine va_get (D := E.1) (cl := vwCl) (ci := 7) (v := .ref a1) (C := RX7) (T := TX7) (N := 14) hx hb hts hiX7 hown hK hP 0 rfl rfl 0 (by decide) hw0 (fun _ h9 => h9) rfl dX7_returns_10 ?_
        refine lv_iload_n hx hb dX7_returns_13 rfl (lv_at hl 0 rfl) ?_
        refine lv_aload_n hx hb dX7_returns_14 rfl (lv_at hl 1 rfl) ?_
        refine va_get (D := E.1) (cl := vwCl) (ci := 7) (v := .ref a2) (C := RX7) (T := TX7) (N := 14) hx hb hts hiX7 hown hK hP 0 rfl rfl 1 (by decide) hw1 (fun _ h9 => h9) rfl dX7_returns_15 ?_
        refine lv_iload_n hx hb dX7_returns_18 rfl (lv_at hl 0 rfl) ?_
        obtain ⟨hg5, h⟩ := gd_s h
        refine va_iald (D := E.1) (cl := vwCl) (tys := gT E) hx hb hK hP 2 0 rfl rfl (inB_in hg5) dX7_returns_19 ?_
        refine va_iast (D := E.1) (cl := vwCl) (tys := gT E) hx hb hK hP hD hS 1 0 rfl rfl (inB_in hg5) dX7_returns_20 (fun H locs hP hD hS => ?_)
        obtain ⟨ss6, e_ss6⟩ : ∃ y : Nat → Int32, y = (upd ss3 (v2).toNatClampNeg (bg (v2).toNatClampNeg)) := ⟨_, rfl⟩
        replace h := jl_s e_ss6 h
        replace hP : va_P E.1 vwCl (wMo E a0 a1 a2 a3 a4 a5 a6 a7 ss6 bg kp ik pt st tx ln asd att dn td fo nb) H := (by rw [e_ss6]; exact hP)
        replace hD : va_D A (wMo E a0 a1 a2 a3 a4 a5 a6 a7 ss6 bg kp ik pt st tx ln asd att dn td fo nb) := gD_same hD rfl
        obtain ⟨v7, e_v7⟩ : ∃ y : Int32, y = (v2 + (1 : Int32)) := ⟨_, rfl⟩
        replace h := jl_s e_v7 h
        refine lv_iinc (v := v7) (lv' := [(1, .int v7), (0, .ref a0)]) hx hb dX7_returns_21 hl (k := 0) rfl (by rw [e_v7]; rfl) (by decide) rfl (fun ls hl => ?_)
        refine lv_goto (tgt := 2) hx hb dX7_returns_24 (by decide) ?_
        exact ih_rec1 v7 ss6 _ _ _ hP hS (lv_sub hl [0, 1] rfl) h
  exact hL_rec1 gFU (0 : Int32) ss _ _ _ hP hS (lv_sub hl [0, 1] rfl) h
set_option maxHeartbeats 4000000 in
set_option maxRecDepth 100000 in
theorem kX7_acted (E : gE) (l : Launch) (a0 a1 a2 a3 a4 a5 a6 a7 : Nat) (ss : Nat → Int32) (bg : Nat → Int32) (kp : Nat → Int32) (ik : Int32) (pt : Nat → Int32) (st : Int32) (tx : Nat → Int32) (ln : Int32) (asd : Nat → Int32) (att : Int32) (dn : Int32) (td : Int32) (fo : Int32) (nb : Nat → Int32) (p1 : Int32) (res : Int32 × (Nat → Int32) × (Nat → Int32) × Int32) (h : fX7_acted ss bg pt st p1 = some res) : gMI E l yX7_acted wsX7_acted ({ frames := 1, cells := 0, slots := 0, locals := 21 } : Room) [.ref a0, .int p1] (wMo E a0 a1 a2 a3 a4 a5 a6 a7 ss bg kp ik pt st tx ln asd att dn td fo nb) (fun res : Int32 × (Nat → Int32) × (Nat → Int32) × Int32 => (wMo E a0 a1 a2 a3 a4 a5 a6 a7 res.2.1 bg kp ik res.2.2.1 res.2.2.2 tx ln asd att dn td fo nb)) (fun res => res.1) res := by
  refine g_entI (cc := cX7_acted) (maxL := 3) (by decide) rfl (Nat.le_of_ble_eq_true rfl) ?_
  intro p e s m args below meth c A Q ls hx hb hml hown hts hK hP hD hS hA hG hret hl
  unfold fX7_acted at h
  replace hl : lv_has ls 3 [(0, .ref a0), (1, .int p1)] := hl
  have hiX7 : ∀ w ∈ wsX70, w ∈ wsX7_acted := by decide +kernel
  have hw0 := hts (.fieldLink RX7 34 "GlacierHutModel" "states" "I") (by decide +kernel)
  have hw1 := hts (.fieldLink RX7 19 "GlacierHutModel" "past" "[I") (by decide +kernel)
  have hw2 := hts (.fieldLink RX7 13 "GlacierHutModel" "begun" "[I") (by decide +kernel)
  refine lv_iload_n hx hb dX7_acted_0 rfl (lv_at hl 1 rfl) ?_
  refine lv_if_ge (tgt := 10) hx hb dX7_acted_1 (by decide) (fun hc1 => ?_) (fun hc1 => ?_)
  · replace h := g_it hc1 h
    refine lv_aload_n hx hb dX7_acted_10 rfl (lv_at hl 0 rfl) ?_
    refine va_get (D := E.1) (cl := vwCl) (ci := 7) (v := .int st) (C := RX7) (T := TX7) (N := 14) hx hb hts hiX7 hown hK hP 0 rfl rfl 5 (by decide) hw0 (fun _ h9 => h9) rfl dX7_acted_11 ?_
    refine lv_iconst (v := (4 : Int32)) hx hb dX7_acted_14 (by decide) ?_
    refine mrg_e h (fun J3 hK_J3 h => ?_)
    have hJ_J3 : ∀ (pt13 : Nat → Int32) (st14 : Int32) (H : Heap) (locs : List Loc) (ls : Array Slot), va_P E.1 vwCl (wMo E a0 a1 a2 a3 a4 a5 a6 a7 ss bg kp ik pt13 st14 tx ln asd att dn td fo nb) H → va_S A s.heap H locs → lv_has ls 3 [(0, .ref a0), (1, .int p1)] → J3 pt13 st14 = some res → W p l e ({ frames := 1, cells := 0, slots := 0, locals := 21 } : Room) s m args below meth c H locs 0 0 Q (F0 m 59 ls []) := by
      intro pt13 st14 H locs ls hP hS hl h
      replace hD : va_D A (wMo E a0 a1 a2 a3 a4 a5 a6 a7 ss bg kp ik pt13 st14 tx ln asd att dn td fo nb) := gD_same hD rfl
      subst hK_J3
      refine lv_iconst (v := (0 : Int32)) hx hb dX7_acted_59 (by decide) ?_
      refine lv_istore_n (lv' := [(2, .int (0 : Int32)), (0, .ref a0), (1, .int p1)]) hx hb dX7_acted_60 rfl hl (by decide) rfl (fun ls hl => ?_)
      refine gl2_e h (fun S_rec15 hS_rec15 h => ?_)
      have hL_rec15 : ∀ (nF : Nat) (v16 : Int32) (pt17 : Nat → Int32) (H : Heap) (locs : List Loc) (ls : Array Slot), va_P E.1 vwCl (wMo E a0 a1 a2 a3 a4 a5 a6 a7 ss bg kp ik pt17 st14 tx ln asd att dn td fo nb) H → va_S A s.heap H locs → lv_has ls 3 [(2, .int v16), (0, .ref a0), (1, .int p1)] → gl2 S_rec15 nF v16 pt17 = some res → W p l e ({ frames := 1, cells := 0, slots := 0, locals := 21 } : Room) s m args below meth c H locs 0 0 Q (F0 m 61 ls []) := by
        intro nF
        induction nF with
        | zero => intro v16 pt17 H locs ls hP hS hl h; exact gl2_z h
        | succ nF ih_rec15 =>
          intro v16 pt17 H locs ls hP hS hl h
          replace hD : va_D A (wMo E a0 a1 a2 a3 a4 a5 a6 a7 ss bg kp ik pt17 st14 tx ln asd att dn td fo nb) := gD_same hD rfl
          replace h : S_rec15 (gl2 S_rec15 nF) v16 pt17 = some res := h
          generalize gl2 S_rec15 nF = rec15 at h ih_rec15
          subst hS_rec15
          unfold sX7_acted_rec15 at h
          refine lv_iload_n hx hb dX7_acted_61 rfl (lv_at hl 0 rfl) ?_
          refine lv_sipush (v := (599 : Int32)) hx hb dX7_acted_62 (by decide) ?_
          refine lv_icmp_ge (tgt := 95) hx hb dX7_acted_65 (by decide) (fun hc18 => ?_) (fun hc18 => ?_)
          · replace h := g_it hc18 h
            refine lv_aload_n hx hb dX7_acted_95 rfl (lv_at hl 1 rfl) ?_
            refine lv_dup hx hb dX7_acted_96 rfl ?_
            refine va_get (D := E.1) (cl := vwCl) (ci := 7) (v := .int st14) (C := RX7) (T := TX7) (N := 14) hx hb hts hiX7 hown hK hP 0 rfl rfl 5 (by decide) hw0 (fun _ h9 => h9) rfl dX7_acted_97 ?_
            refine lv_iconst (v := (1 : Int32)) hx hb dX7_acted_100 (by decide) ?_
            refine lv_iadd hx hb dX7_acted_101 ?_
            refine lv_topi (fun v19 e_v19 => ?_)
            replace h := jl_s e_v19 h
            refine va_put (D := E.1) (cl := vwCl) (ci := 7) (v := .int v19) (ty := .int) (C := RX7) (T := TX7) (N := 14) hx hb hts hiX7 tyX7 tyX7_ok nmX7 hown hK hP hD hS 0 rfl rfl 5 (by decide) hw0 (fun _ h9 => h9) rfl (by decide +kernel) rfl rfl (Nat.le_of_ble_eq_true rfl) dX7_acted_102 (fun H locs hP hD hS => ?_)
            replace hP : va_P E.1 vwCl (wMo E a0 a1 a2 a3 a4 a5 a6 a7 ss bg kp ik pt17 v19 tx ln asd att dn td fo nb) H := hP
            replace hD : va_D A (wMo E a0 a1 a2 a3 a4 a5 a6 a7 ss bg kp ik pt17 v19 tx ln asd att dn td fo nb) := hD
            refine lv_iload_n hx hb dX7_acted_105 rfl (lv_at hl 2 rfl) ?_
            exact hret (p1, ss, pt17, v19) _ _ _ _ _ (Option.some.inj h) hP hS rfl dX7_acted_106
          · replace h := g_if hc18 h
            refine lv_aload_n hx hb dX7_acted_68 rfl (lv_at hl 1 rfl) ?_
            refine va_get (D := E.1) (cl := vwCl) (ci := 7) (v := .ref a4) (C := RX7) (T := TX7) (N := 14) hx hb hts hiX7 hown hK hP 0 rfl rfl 4 (by decide) hw1 (fun _ h9 => h9) rfl dX7_acted_69 ?_
            refine lv_sipush (v := (599 : Int32)) hx hb dX7_acted_72 (by decide) ?_
            refine lv_aload_n hx hb dX7_acted_75 rfl (lv_at hl 1 rfl) ?_
            refine va_get (D := E.1) (cl := vwCl) (ci := 7) (v := .int st14) (C := RX7) (T := TX7) (N := 14) hx hb hts hiX7 hown hK hP 0 rfl rfl 5 (by decide) hw0 (fun _ h9 => h9) rfl dX7_acted_76 ?_
            refine lv_imul hx hb dX7_acted_79 ?_
            refine lv_iload_n hx hb dX7_acted_80 rfl (lv_at hl 0 rfl) ?_
            refine lv_iadd hx hb dX7_acted_81 ?_
            refine lv_aload_n hx hb dX7_acted_82 rfl (lv_at hl 1 rfl) ?_
            refine va_get (D := E.1) (cl := vwCl) (ci := 7) (v := .ref a2) (C := RX7) (T := TX7) (N := 14) hx hb hts hiX7 hown hK hP 0 rfl rfl 1 (by decide) hw2 (fun _ h9 => h9) rfl dX7_acted_83 ?_
            refine lv_iload_n hx hb dX7_acted_86 rfl (lv_at hl 0 rfl) ?_
            obtain ⟨hg20, h⟩ := gd_s h
            refine va_iald (D := E.1) (cl := vwCl) (tys := gT E) hx hb hK hP 2 0 rfl rfl (inB_in hg20) dX7_acted_87 ?_
            obtain ⟨hg21, h⟩ := gd_s h
            refine va_iast (D := E.1) (cl := vwCl) (tys := gT E) hx hb hK hP hD hS 4 0 rfl rfl (inB_in hg21) dX7_acted_88 (fun H locs hP hD hS => ?_)
            obtain ⟨pt22, e_pt22⟩ : ∃ y : Nat → Int32, y = (upd pt17 ((((599 : Int32) * st14) + v16)).toNatClampNeg (bg (v16).toNatClampNeg)) := ⟨_, rfl⟩
            replace h := jl_s e_pt22 h
            replace hP : va_P E.1 vwCl (wMo E a0 a1 a2 a3 a4 a5 a6 a7 ss bg kp ik pt22 st14 tx ln asd att dn td fo nb) H := (by rw [e_pt22]; exact hP)
            replace hD : va_D A (wMo E a0 a1 a2 a3 a4 a5 a6 a7 ss bg kp ik pt22 st14 tx ln asd att dn td fo nb) := gD_same hD rfl
            obtain ⟨v23, e_v23⟩ : ∃ y : Int32, y = (v16 + (1 : Int32)) := ⟨_, rfl⟩
            replace h := jl_s e_v23 h
            refine lv_iinc (v := v23) (lv' := [(2, .int v23), (0, .ref a0), (1, .int p1)]) hx hb dX7_acted_89 hl (k := 0) rfl (by rw [e_v23]; rfl) (by decide) rfl (fun ls hl => ?_)
            refine lv_goto (tgt := 61) hx hb dX7_acted_92 (by decide) ?_
            exact ih_rec15 v23 pt22 _ _ _ hP hS (lv_sub hl [0, 1, 2] rfl) h
      exact hL_rec15 gFU (0 : Int32) pt13 _ _ _ hP hS (lv_sub hl [0, 1, 2] rfl) h
    refine lv_icmp_ne (tgt := 59) hx hb dX7_acted_15 (by decide) (fun hc2 => ?_) (fun hc2 => ?_)
    · replace h := g_if hc2 h
      exact hJ_J3 pt st _ _ _ hP hS (lv_sub hl [0, 1] rfl) h
    · replace h := g_it hc2 h
      refine lv_iconst (v := (0 : Int32)) hx hb dX7_acted_18 (by decide) ?_
      refine lv_istore_n (lv' := [(2, .int (0 : Int32)), (0, .ref a0), (1, .int p1)]) hx hb dX7_acted_19 rfl hl (by decide) rfl (fun ls hl => ?_)
      refine gl2_e h (fun S_rec4 hS_rec4 h => ?_)
      have hL_rec4 : ∀ (nF : Nat) (v5 : Int32) (pt6 : Nat → Int32) (H : Heap) (locs : List Loc) (ls : Array Slot), va_P E.1 vwCl (wMo E a0 a1 a2 a3 a4 a5 a6 a7 ss bg kp ik pt6 st tx ln asd att dn td fo nb) H → va_S A s.heap H locs → lv_has ls 3 [(2, .int v5), (0, .ref a0), (1, .int p1)] → gl2 S_rec4 nF v5 pt6 = some res → W p l e ({ frames := 1, cells := 0, slots := 0, locals := 21 } : Room) s m args below meth c H locs 0 0 Q (F0 m 20 ls []) := by
        intro nF
        induction nF with
        | zero => intro v5 pt6 H locs ls hP hS hl h; exact gl2_z h
        | succ nF ih_rec4 =>
          intro v5 pt6 H locs ls hP hS hl h
          replace hD : va_D A (wMo E a0 a1 a2 a3 a4 a5 a6 a7 ss bg kp ik pt6 st tx ln asd att dn td fo nb) := gD_same hD rfl
          replace h : S_rec4 (gl2 S_rec4 nF) v5 pt6 = some res := h
          generalize gl2 S_rec4 nF = rec4 at h ih_rec4
          subst hS_rec4
          unfold sX7_acted_rec4 at h
          refine lv_iload_n hx hb dX7_acted_20 rfl (lv_at hl 0 rfl) ?_
          refine lv_sipush (v := (1797 : Int32)) hx hb dX7_acted_21 (by decide) ?_
          refine lv_icmp_ge (tgt := 49) hx hb dX7_acted_24 (by decide) (fun hc7 => ?_) (fun hc7 => ?_)
          · replace h := g_it hc7 h
            refine lv_aload_n hx hb dX7_acted_49 rfl (lv_at hl 1 rfl) ?_
            refine lv_dup hx hb dX7_acted_50 rfl ?_
            refine va_get (D := E.1) (cl := vwCl) (ci := 7) (v := .int st) (C := RX7) (T := TX7) (N := 14) hx hb hts hiX7 hown hK hP 0 rfl rfl 5 (by decide) hw0 (fun _ h9 => h9) rfl dX7_acted_51 ?_
            refine lv_iconst (v := (1 : Int32)) hx hb dX7_acted_54 (by decide) ?_
            refine lv_isub hx hb dX7_acted_55 ?_
            refine lv_topi (fun v8 e_v8 => ?_)
            replace h := jl_s e_v8 h
            refine va_put (D := E.1) (cl := vwCl) (ci := 7) (v := .int v8) (ty := .int) (C := RX7) (T := TX7) (N := 14) hx hb hts hiX7 tyX7 tyX7_ok nmX7 hown hK hP hD hS 0 rfl rfl 5 (by decide) hw0 (fun _ h9 => h9) rfl (by decide +kernel) rfl rfl (Nat.le_of_ble_eq_true rfl) dX7_acted_56 (fun H locs hP hD hS => ?_)
            replace hP : va_P E.1 vwCl (wMo E a0 a1 a2 a3 a4 a5 a6 a7 ss bg kp ik pt6 v8 tx ln asd att dn td fo nb) H := hP
            replace hD : va_D A (wMo E a0 a1 a2 a3 a4 a5 a6 a7 ss bg kp ik pt6 v8 tx ln asd att dn td fo nb) := hD
            exact hJ_J3 pt6 v8 _ _ _ hP hS (lv_sub hl [1, 2] rfl) h
          · replace h := g_if hc7 h
            refine lv_aload_n hx hb dX7_acted_27 rfl (lv_at hl 1 rfl) ?_
            refine va_get (D := E.1) (cl := vwCl) (ci := 7) (v := .ref a4) (C := RX7) (T := TX7) (N := 14) hx hb hts hiX7 hown hK hP 0 rfl rfl 4 (by decide) hw1 (fun _ h9 => h9) rfl dX7_acted_28 ?_
            refine lv_iload_n hx hb dX7_acted_31 rfl (lv_at hl 0 rfl) ?_
            refine lv_aload_n hx hb dX7_acted_32 rfl (lv_at hl 1 rfl) ?_
            refine va_get (D := E.1) (cl := vwCl) (ci := 7) (v := .ref a4) (C := RX7) (T := TX7) (N := 14) hx hb hts hiX7 hown hK hP 0 rfl rfl 4 (by decide) hw1 (fun _ h9 => h9) rfl dX7_acted_33 ?_
            refine lv_iload_n hx hb dX7_acted_36 rfl (lv_at hl 0 rfl) ?_
            refine lv_sipush (v := (599 : Int32)) hx hb dX7_acted_37 (by decide) ?_
            refine lv_iadd hx hb dX7_acted_40 ?_
            obtain ⟨hg9, h⟩ := gd_s h
            refine va_iald (D := E.1) (cl := vwCl) (tys := gT E) hx hb hK hP 4 0 rfl rfl (inB_in hg9) dX7_acted_41 ?_
            obtain ⟨hg10, h⟩ := gd_s h
            refine va_iast (D := E.1) (cl := vwCl) (tys := gT E) hx hb hK hP hD hS 4 0 rfl rfl (inB_in hg10) dX7_acted_42 (fun H locs hP hD hS => ?_)
            obtain ⟨pt11, e_pt11⟩ : ∃ y : Nat → Int32, y = (upd pt6 (v5).toNatClampNeg (pt6 ((v5 + (599 : Int32))).toNatClampNeg)) := ⟨_, rfl⟩
            replace h := jl_s e_pt11 h
            replace hP : va_P E.1 vwCl (wMo E a0 a1 a2 a3 a4 a5 a6 a7 ss bg kp ik pt11 st tx ln asd att dn td fo nb) H := (by rw [e_pt11]; exact hP)
            replace hD : va_D A (wMo E a0 a1 a2 a3 a4 a5 a6 a7 ss bg kp ik pt11 st tx ln asd att dn td fo nb) := gD_same hD rfl
            obtain ⟨v12, e_v12⟩ : ∃ y : Int32, y = (v5 + (1 : Int32)) := ⟨_, rfl⟩
            replace h := jl_s e_v12 h
            refine lv_iinc (v := v12) (lv' := [(2, .int v12), (0, .ref a0), (1, .int p1)]) hx hb dX7_acted_43 hl (k := 0) rfl (by rw [e_v12]; rfl) (by decide) rfl (fun ls hl => ?_)
            refine lv_goto (tgt := 20) hx hb dX7_acted_46 (by decide) ?_
            exact ih_rec4 v12 pt11 _ _ _ hP hS (lv_sub hl [0, 1, 2] rfl) h
      exact hL_rec4 gFU (0 : Int32) pt _ _ _ hP hS (lv_sub hl [0, 1, 2] rfl) h
  · replace h := g_if hc1 h
    refine lv_aload_n hx hb dX7_acted_4 rfl (lv_at hl 0 rfl) ?_
    obtain ⟨ss24, hc25, h⟩ := bd1_s h
    refine g_callVv (As := []) (rest := []) (ws1 := (wMo E a0 a1 a2 a3 a4 a5 a6 a7 ss24 bg kp ik pt st tx ln asd att dn td fo nb)) ⟨hx, hb, hml, hown, hts⟩ (kX7_returns E l a0 a1 a2 a3 a4 a5 a6 a7 ss bg kp ik pt st tx ln asd att dn td fo nb ss24 hc25) (cwV 0 hts gX7_acted_X7_returns rfl rfl rfl (by decide +kernel) ⟨Nat.le_of_ble_eq_true rfl, Nat.le_of_ble_eq_true rfl⟩) hK hP hD hS hA hG hl [0, 1, 2, 3, 4, 5, 6, 7] 0 (by decide) rfl (ci := 7) rfl rfl rfl rfl rfl rfl rfl rfl (Nat.le_of_ble_eq_true rfl) dX7_acted_5 (Nat.zero_le _) (Nat.zero_le _) (fun H locs hP hD hS => ?_)
    refine lv_iload_n hx hb dX7_acted_8 rfl (lv_at hl 1 rfl) ?_
    exact hret (p1, ss24, pt, st) _ _ _ _ _ (Option.some.inj h) hP hS rfl dX7_acted_9
set_option maxHeartbeats 4000000 in
set_option maxRecDepth 100000 in
theorem kX7_setParty (E : gE) (l : Launch) (a0 a1 a2 a3 a4 a5 a6 a7 : Nat) (ss : Nat → Int32) (bg : Nat → Int32) (kp : Nat → Int32) (ik : Int32) (pt : Nat → Int32) (st : Int32) (tx : Nat → Int32) (ln : Int32) (asd : Nat → Int32) (att : Int32) (dn : Int32) (td : Int32) (fo : Int32) (nb : Nat → Int32) (p1 : Int32) (p2 : Int32) (p3 : Int32) (res : (Nat → Int32)) (h : fX7_setParty ss p1 p2 p3 = some res) : gMV E l yX7_setParty wsX7_setParty ({ frames := 0, cells := 0, slots := 0, locals := 0 } : Room) [.ref a0, .int p1, .int p2, .int p3] (wMo E a0 a1 a2 a3 a4 a5 a6 a7 ss bg kp ik pt st tx ln asd att dn td fo nb) (fun res : (Nat → Int32) => (wMo E a0 a1 a2 a3 a4 a5 a6 a7 res bg kp ik pt st tx ln asd att dn td fo nb)) res := by
  refine g_entV (cc := cX7_setParty) (maxL := 4) (by decide) rfl (Nat.le_of_ble_eq_true rfl) ?_
  intro p e s m args below meth c A Q ls hx hb hml hown hts hK hP hD hS hA hG hret hl
  unfold fX7_setParty at h
  replace hl : lv_has ls 4 [(0, .ref a0), (1, .int p1), (2, .int p2), (3, .int p3)] := hl
  have hiX7 : ∀ w ∈ wsX70, w ∈ wsX7_setParty := by decide +kernel
  have hw0 := hts (.fieldLink RX7 7 "GlacierHutModel" "s" "[I") (by decide +kernel)
  refine lv_aload_n hx hb dX7_setParty_0 rfl (lv_at hl 0 rfl) ?_
  refine va_get (D := E.1) (cl := vwCl) (ci := 7) (v := .ref a1) (C := RX7) (T := TX7) (N := 14) hx hb hts hiX7 hown hK hP 0 rfl rfl 0 (by decide) hw0 (fun _ h9 => h9) rfl dX7_setParty_1 ?_
  refine lv_bipush (v := (101 : Int32)) hx hb dX7_setParty_4 (by decide) ?_
  refine lv_bipush (v := (6 : Int32)) hx hb dX7_setParty_6 (by decide) ?_
  refine lv_iload_n hx hb dX7_setParty_8 rfl (lv_at hl 1 rfl) ?_
  refine lv_imul hx hb dX7_setParty_9 ?_
  refine lv_iadd hx hb dX7_setParty_10 ?_
  refine lv_iload_n hx hb dX7_setParty_11 rfl (lv_at hl 2 rfl) ?_
  refine lv_iadd hx hb dX7_setParty_12 ?_
  refine lv_iload_n hx hb dX7_setParty_13 rfl (lv_at hl 3 rfl) ?_
  obtain ⟨hg1, h⟩ := gd_s h
  refine va_iast (D := E.1) (cl := vwCl) (tys := gT E) hx hb hK hP hD hS 1 0 rfl rfl (inB_in hg1) dX7_setParty_14 (fun H locs hP hD hS => ?_)
  obtain ⟨ss2, e_ss2⟩ : ∃ y : Nat → Int32, y = (upd ss ((((101 : Int32) + ((6 : Int32) * p1)) + p2)).toNatClampNeg p3) := ⟨_, rfl⟩
  replace h := jl_s e_ss2 h
  replace hP : va_P E.1 vwCl (wMo E a0 a1 a2 a3 a4 a5 a6 a7 ss2 bg kp ik pt st tx ln asd att dn td fo nb) H := (by rw [e_ss2]; exact hP)
  replace hD : va_D A (wMo E a0 a1 a2 a3 a4 a5 a6 a7 ss2 bg kp ik pt st tx ln asd att dn td fo nb) := gD_same hD rfl
  exact hret ss2 _ _ _ _ (Option.some.inj h) hP hS dX7_setParty_15
set_option maxHeartbeats 4000000 in
set_option maxRecDepth 100000 in
theorem kX7_adds (E : gE) (l : Launch) (a0 a1 a2 a3 a4 a5 a6 a7 : Nat) (ss : Nat → Int32) (bg : Nat → Int32) (kp : Nat → Int32) (ik : Int32) (pt : Nat → Int32) (st : Int32) (tx : Nat → Int32) (ln : Int32) (asd : Nat → Int32) (att : Int32) (dn : Int32) (td : Int32) (fo : Int32) (nb : Nat → Int32) (p1 : Int32) (p2 : Int32) (p3 : Int32) (res : (Nat → Int32)) (h : fX7_adds ss p1 p2 p3 = some res) : gMV E l yX7_adds wsX7_adds ({ frames := 1, cells := 0, slots := 0, locals := 23 } : Room) [.ref a0, .int p1, .int p2, .int p3] (wMo E a0 a1 a2 a3 a4 a5 a6 a7 ss bg kp ik pt st tx ln asd att dn td fo nb) (fun res : (Nat → Int32) => (wMo E a0 a1 a2 a3 a4 a5 a6 a7 res bg kp ik pt st tx ln asd att dn td fo nb)) res := by
  refine g_entV (cc := cX7_adds) (maxL := 5) (by decide) rfl (Nat.le_of_ble_eq_true rfl) ?_
  intro p e s m args below meth c A Q ls hx hb hml hown hts hK hP hD hS hA hG hret hl
  unfold fX7_adds at h
  replace hl : lv_has ls 5 [(0, .ref a0), (1, .int p1), (2, .int p2), (3, .int p3)] := hl
  have hiX7 : ∀ w ∈ wsX70, w ∈ wsX7_adds := by decide +kernel
  have hw0 := hts (.fieldLink RX7 7 "GlacierHutModel" "s" "[I") (by decide +kernel)
  refine lv_aload_n hx hb dX7_adds_0 rfl (lv_at hl 0 rfl) ?_
  refine va_get (D := E.1) (cl := vwCl) (ci := 7) (v := .ref a1) (C := RX7) (T := TX7) (N := 14) hx hb hts hiX7 hown hK hP 0 rfl rfl 0 (by decide) hw0 (fun _ h9 => h9) rfl dX7_adds_1 ?_
  refine lv_iconst (v := (4 : Int32)) hx hb dX7_adds_4 (by decide) ?_
  obtain ⟨hg1, h⟩ := gd_s h
  refine va_iald (D := E.1) (cl := vwCl) (tys := gT E) hx hb hK hP 1 0 rfl rfl (inB_in hg1) dX7_adds_5 ?_
  refine lv_topi (fun v2 e_v2 => ?_)
  replace h := jl_s e_v2 h
  refine lv_istore (lv' := [(4, .int v2), (0, .ref a0), (1, .int p1), (2, .int p2), (3, .int p3)]) hx hb dX7_adds_6 hl (by decide) rfl (fun ls hl => ?_)
  refine lv_aload_n hx hb dX7_adds_8 rfl (lv_at hl 1 rfl) ?_
  refine va_get (D := E.1) (cl := vwCl) (ci := 7) (v := .ref a1) (C := RX7) (T := TX7) (N := 14) hx hb hts hiX7 hown hK hP 0 rfl rfl 0 (by decide) hw0 (fun _ h9 => h9) rfl dX7_adds_9 ?_
  refine lv_iconst (v := (4 : Int32)) hx hb dX7_adds_12 (by decide) ?_
  refine lv_dup2_11 hx hb dX7_adds_13 rfl rfl ?_
  refine va_iald (D := E.1) (cl := vwCl) (tys := gT E) hx hb hK hP 1 0 rfl rfl (inB_in hg1) dX7_adds_14 ?_
  refine lv_iconst (v := (1 : Int32)) hx hb dX7_adds_15 (by decide) ?_
  refine lv_iadd hx hb dX7_adds_16 ?_
  refine va_iast (D := E.1) (cl := vwCl) (tys := gT E) hx hb hK hP hD hS 1 0 rfl rfl (inB_in hg1) dX7_adds_17 (fun H locs hP hD hS => ?_)
  obtain ⟨ss3, e_ss3⟩ : ∃ y : Nat → Int32, y = (upd ss ((4 : Int32)).toNatClampNeg ((ss ((4 : Int32)).toNatClampNeg) + (1 : Int32))) := ⟨_, rfl⟩
  replace h := jl_s e_ss3 h
  replace hP : va_P E.1 vwCl (wMo E a0 a1 a2 a3 a4 a5 a6 a7 ss3 bg kp ik pt st tx ln asd att dn td fo nb) H := (by rw [e_ss3]; exact hP)
  replace hD : va_D A (wMo E a0 a1 a2 a3 a4 a5 a6 a7 ss3 bg kp ik pt st tx ln asd att dn td fo nb) := gD_same hD rfl
  refine lv_aload_n hx hb dX7_adds_18 rfl (lv_at hl 1 rfl) ?_
  refine lv_iload hx hb dX7_adds_19 (lv_at hl 0 rfl) ?_
  refine lv_iconst (v := (0 : Int32)) hx hb dX7_adds_21 (by decide) ?_
  refine lv_iload_n hx hb dX7_adds_22 rfl (lv_at hl 2 rfl) ?_
  obtain ⟨ss4, hc5, h⟩ := bd1_s h
  refine g_callVv (As := [.int v2, .int (0 : Int32), .int p1]) (rest := []) (ws1 := (wMo E a0 a1 a2 a3 a4 a5 a6 a7 ss4 bg kp ik pt st tx ln asd att dn td fo nb)) ⟨hx, hb, hml, hown, hts⟩ (kX7_setParty E l a0 a1 a2 a3 a4 a5 a6 a7 ss3 bg kp ik pt st tx ln asd att dn td fo nb v2 (0 : Int32) p1 ss4 hc5) (cwV 3 hts gX7_adds_X7_setParty rfl rfl rfl (by decide +kernel) ⟨Nat.le_of_ble_eq_true rfl, Nat.le_of_ble_eq_true rfl⟩) hK hP hD hS hA hG hl [0, 1, 2, 3, 4, 5, 6, 7] 0 (by decide) rfl (ci := 7) rfl rfl rfl rfl rfl rfl rfl rfl (Nat.le_of_ble_eq_true rfl) dX7_adds_23 (Nat.zero_le _) (Nat.zero_le _) (fun H locs hP hD hS => ?_)
  refine lv_aload_n hx hb dX7_adds_26 rfl (lv_at hl 1 rfl) ?_
  refine lv_iload hx hb dX7_adds_27 (lv_at hl 0 rfl) ?_
  refine lv_iconst (v := (1 : Int32)) hx hb dX7_adds_29 (by decide) ?_
  refine lv_iload_n hx hb dX7_adds_30 rfl (lv_at hl 3 rfl) ?_
  obtain ⟨ss6, hc7, h⟩ := bd1_s h
  refine g_callVv (As := [.int v2, .int (1 : Int32), .int p2]) (rest := []) (ws1 := (wMo E a0 a1 a2 a3 a4 a5 a6 a7 ss6 bg kp ik pt st tx ln asd att dn td fo nb)) ⟨hx, hb, hml, hown, hts⟩ (kX7_setParty E l a0 a1 a2 a3 a4 a5 a6 a7 ss4 bg kp ik pt st tx ln asd att dn td fo nb v2 (1 : Int32) p2 ss6 hc7) (cwV 3 hts gX7_adds_X7_setParty rfl rfl rfl (by decide +kernel) ⟨Nat.le_of_ble_eq_true rfl, Nat.le_of_ble_eq_true rfl⟩) hK hP hD hS hA hG hl [0, 1, 2, 3, 4, 5, 6, 7] 0 (by decide) rfl (ci := 7) rfl rfl rfl rfl rfl rfl rfl rfl (Nat.le_of_ble_eq_true rfl) dX7_adds_31 (Nat.zero_le _) (Nat.zero_le _) (fun H locs hP hD hS => ?_)
  refine lv_aload_n hx hb dX7_adds_34 rfl (lv_at hl 1 rfl) ?_
  refine lv_iload hx hb dX7_adds_35 (lv_at hl 0 rfl) ?_
  refine lv_iconst (v := (2 : Int32)) hx hb dX7_adds_37 (by decide) ?_
  refine lv_iload_n hx hb dX7_adds_38 rfl (lv_at hl 4 rfl) ?_
  obtain ⟨ss8, hc9, h⟩ := bd1_s h
  refine g_callVv (As := [.int v2, .int (2 : Int32), .int p3]) (rest := []) (ws1 := (wMo E a0 a1 a2 a3 a4 a5 a6 a7 ss8 bg kp ik pt st tx ln asd att dn td fo nb)) ⟨hx, hb, hml, hown, hts⟩ (kX7_setParty E l a0 a1 a2 a3 a4 a5 a6 a7 ss6 bg kp ik pt st tx ln asd att dn td fo nb v2 (2 : Int32) p3 ss8 hc9) (cwV 3 hts gX7_adds_X7_setParty rfl rfl rfl (by decide +kernel) ⟨Nat.le_of_ble_eq_true rfl, Nat.le_of_ble_eq_true rfl⟩) hK hP hD hS hA hG hl [0, 1, 2, 3, 4, 5, 6, 7] 0 (by decide) rfl (ci := 7) rfl rfl rfl rfl rfl rfl rfl rfl (Nat.le_of_ble_eq_true rfl) dX7_adds_39 (Nat.zero_le _) (Nat.zero_le _) (fun H locs hP hD hS => ?_)
  refine lv_aload_n hx hb dX7_adds_42 rfl (lv_at hl 1 rfl) ?_
  refine lv_iload hx hb dX7_adds_43 (lv_at hl 0 rfl) ?_
  refine lv_iconst (v := (3 : Int32)) hx hb dX7_adds_45 (by decide) ?_
  refine lv_iconst (v := (0 : Int32)) hx hb dX7_adds_46 (by decide) ?_
  obtain ⟨ss10, hc11, h⟩ := bd1_s h
  refine g_callVv (As := [.int v2, .int (3 : Int32), .int (0 : Int32)]) (rest := []) (ws1 := (wMo E a0 a1 a2 a3 a4 a5 a6 a7 ss10 bg kp ik pt st tx ln asd att dn td fo nb)) ⟨hx, hb, hml, hown, hts⟩ (kX7_setParty E l a0 a1 a2 a3 a4 a5 a6 a7 ss8 bg kp ik pt st tx ln asd att dn td fo nb v2 (3 : Int32) (0 : Int32) ss10 hc11) (cwV 3 hts gX7_adds_X7_setParty rfl rfl rfl (by decide +kernel) ⟨Nat.le_of_ble_eq_true rfl, Nat.le_of_ble_eq_true rfl⟩) hK hP hD hS hA hG hl [0, 1, 2, 3, 4, 5, 6, 7] 0 (by decide) rfl (ci := 7) rfl rfl rfl rfl rfl rfl rfl rfl (Nat.le_of_ble_eq_true rfl) dX7_adds_47 (Nat.zero_le _) (Nat.zero_le _) (fun H locs hP hD hS => ?_)
  refine lv_aload_n hx hb dX7_adds_50 rfl (lv_at hl 1 rfl) ?_
  refine lv_iload hx hb dX7_adds_51 (lv_at hl 0 rfl) ?_
  refine lv_iconst (v := (4 : Int32)) hx hb dX7_adds_53 (by decide) ?_
  refine lv_iconst (v := (0 : Int32)) hx hb dX7_adds_54 (by decide) ?_
  obtain ⟨ss12, hc13, h⟩ := bd1_s h
  refine g_callVv (As := [.int v2, .int (4 : Int32), .int (0 : Int32)]) (rest := []) (ws1 := (wMo E a0 a1 a2 a3 a4 a5 a6 a7 ss12 bg kp ik pt st tx ln asd att dn td fo nb)) ⟨hx, hb, hml, hown, hts⟩ (kX7_setParty E l a0 a1 a2 a3 a4 a5 a6 a7 ss10 bg kp ik pt st tx ln asd att dn td fo nb v2 (4 : Int32) (0 : Int32) ss12 hc13) (cwV 3 hts gX7_adds_X7_setParty rfl rfl rfl (by decide +kernel) ⟨Nat.le_of_ble_eq_true rfl, Nat.le_of_ble_eq_true rfl⟩) hK hP hD hS hA hG hl [0, 1, 2, 3, 4, 5, 6, 7] 0 (by decide) rfl (ci := 7) rfl rfl rfl rfl rfl rfl rfl rfl (Nat.le_of_ble_eq_true rfl) dX7_adds_55 (Nat.zero_le _) (Nat.zero_le _) (fun H locs hP hD hS => ?_)
  refine lv_aload_n hx hb dX7_adds_58 rfl (lv_at hl 1 rfl) ?_
  refine lv_iload hx hb dX7_adds_59 (lv_at hl 0 rfl) ?_
  refine lv_iconst (v := (5 : Int32)) hx hb dX7_adds_61 (by decide) ?_
  refine lv_iconst (v := (0 : Int32)) hx hb dX7_adds_62 (by decide) ?_
  obtain ⟨ss14, hc15, h⟩ := bd1_s h
  refine g_callVv (As := [.int v2, .int (5 : Int32), .int (0 : Int32)]) (rest := []) (ws1 := (wMo E a0 a1 a2 a3 a4 a5 a6 a7 ss14 bg kp ik pt st tx ln asd att dn td fo nb)) ⟨hx, hb, hml, hown, hts⟩ (kX7_setParty E l a0 a1 a2 a3 a4 a5 a6 a7 ss12 bg kp ik pt st tx ln asd att dn td fo nb v2 (5 : Int32) (0 : Int32) ss14 hc15) (cwV 3 hts gX7_adds_X7_setParty rfl rfl rfl (by decide +kernel) ⟨Nat.le_of_ble_eq_true rfl, Nat.le_of_ble_eq_true rfl⟩) hK hP hD hS hA hG hl [0, 1, 2, 3, 4, 5, 6, 7] 0 (by decide) rfl (ci := 7) rfl rfl rfl rfl rfl rfl rfl rfl (Nat.le_of_ble_eq_true rfl) dX7_adds_63 (Nat.zero_le _) (Nat.zero_le _) (fun H locs hP hD hS => ?_)
  exact hret ss14 _ _ _ _ (Option.some.inj h) hP hS dX7_adds_66
set_option maxHeartbeats 4000000 in
set_option maxRecDepth 100000 in
theorem kX7_ofParty (E : gE) (l : Launch) (a0 a1 a2 a3 a4 a5 a6 a7 : Nat) (ss : Nat → Int32) (bg : Nat → Int32) (kp : Nat → Int32) (ik : Int32) (pt : Nat → Int32) (st : Int32) (tx : Nat → Int32) (ln : Int32) (asd : Nat → Int32) (att : Int32) (dn : Int32) (td : Int32) (fo : Int32) (nb : Nat → Int32) (p1 : Int32) (p2 : Int32) (res : Int32) (h : fX7_ofParty ss p1 p2 = some res) : gMI E l yX7_ofParty wsX7_ofParty ({ frames := 0, cells := 0, slots := 0, locals := 0 } : Room) [.ref a0, .int p1, .int p2] (wMo E a0 a1 a2 a3 a4 a5 a6 a7 ss bg kp ik pt st tx ln asd att dn td fo nb) (fun res : Int32 => (wMo E a0 a1 a2 a3 a4 a5 a6 a7 ss bg kp ik pt st tx ln asd att dn td fo nb)) (fun res => res) res := by
  refine g_entI (cc := cX7_ofParty) (maxL := 3) (by decide) rfl (Nat.le_of_ble_eq_true rfl) ?_
  intro p e s m args below meth c A Q ls hx hb hml hown hts hK hP hD hS hA hG hret hl
  unfold fX7_ofParty at h
  replace hl : lv_has ls 3 [(0, .ref a0), (1, .int p1), (2, .int p2)] := hl
  have hiX7 : ∀ w ∈ wsX70, w ∈ wsX7_ofParty := by decide +kernel
  have hw0 := hts (.fieldLink RX7 7 "GlacierHutModel" "s" "[I") (by decide +kernel)
  refine lv_aload_n hx hb dX7_ofParty_0 rfl (lv_at hl 0 rfl) ?_
  refine va_get (D := E.1) (cl := vwCl) (ci := 7) (v := .ref a1) (C := RX7) (T := TX7) (N := 14) hx hb hts hiX7 hown hK hP 0 rfl rfl 0 (by decide) hw0 (fun _ h9 => h9) rfl dX7_ofParty_1 ?_
  refine lv_bipush (v := (101 : Int32)) hx hb dX7_ofParty_4 (by decide) ?_
  refine lv_bipush (v := (6 : Int32)) hx hb dX7_ofParty_6 (by decide) ?_
  refine lv_iload_n hx hb dX7_ofParty_8 rfl (lv_at hl 1 rfl) ?_
  refine lv_imul hx hb dX7_ofParty_9 ?_
  refine lv_iadd hx hb dX7_ofParty_10 ?_
  refine lv_iload_n hx hb dX7_ofParty_11 rfl (lv_at hl 2 rfl) ?_
  refine lv_iadd hx hb dX7_ofParty_12 ?_
  obtain ⟨hg1, h⟩ := gd_s h
  refine va_iald (D := E.1) (cl := vwCl) (tys := gT E) hx hb hK hP 1 0 rfl rfl (inB_in hg1) dX7_ofParty_13 ?_
  exact hret (ss ((((101 : Int32) + ((6 : Int32) * p1)) + p2)).toNatClampNeg) _ _ _ _ _ (Option.some.inj h) hP hS rfl dX7_ofParty_14
set_option maxHeartbeats 4000000 in
set_option maxRecDepth 100000 in
theorem kX7_isStorm (E : gE) (l : Launch) (a0 a1 a2 a3 a4 a5 a6 a7 : Nat) (ss : Nat → Int32) (bg : Nat → Int32) (kp : Nat → Int32) (ik : Int32) (pt : Nat → Int32) (st : Int32) (tx : Nat → Int32) (ln : Int32) (asd : Nat → Int32) (att : Int32) (dn : Int32) (td : Int32) (fo : Int32) (nb : Nat → Int32) (p1 : Int32) (res : Int32) (h : fX7_isStorm ss p1 = some res) : gMI E l yX7_isStorm wsX7_isStorm ({ frames := 0, cells := 0, slots := 0, locals := 0 } : Room) [.ref a0, .int p1] (wMo E a0 a1 a2 a3 a4 a5 a6 a7 ss bg kp ik pt st tx ln asd att dn td fo nb) (fun res : Int32 => (wMo E a0 a1 a2 a3 a4 a5 a6 a7 ss bg kp ik pt st tx ln asd att dn td fo nb)) (fun res => res) res := by
  refine g_entZ (cc := cX7_isStorm) (maxL := 2) (by decide) rfl (Nat.le_of_ble_eq_true rfl) ?_
  intro p e s m args below meth c A Q ls hx hb hml hown hts hK hP hD hS hA hG hret hl
  unfold fX7_isStorm at h
  replace hl : lv_has ls 2 [(0, .ref a0), (1, .int p1)] := hl
  have hiX7 : ∀ w ∈ wsX70, w ∈ wsX7_isStorm := by decide +kernel
  have hw0 := hts (.fieldLink RX7 7 "GlacierHutModel" "s" "[I") (by decide +kernel)
  refine lv_iload_n hx hb dX7_isStorm_0 rfl (lv_at hl 1 rfl) ?_
  refine lv_sipush (v := (396 : Int32)) hx hb dX7_isStorm_1 (by decide) ?_
  refine lv_icmp_ge (tgt := 25) hx hb dX7_isStorm_4 (by decide) (fun hc1 => ?_) (fun hc1 => ?_)
  · replace h := g_it hc1 h
    refine lv_iconst (v := (0 : Int32)) hx hb dX7_isStorm_25 (by decide) ?_
    exact hret (0 : Int32) _ _ _ _ _ (Option.some.inj h) hP hS rfl rfl dX7_isStorm_26
  · replace h := g_if hc1 h
    refine lv_aload_n hx hb dX7_isStorm_7 rfl (lv_at hl 0 rfl) ?_
    refine va_get (D := E.1) (cl := vwCl) (ci := 7) (v := .ref a1) (C := RX7) (T := TX7) (N := 14) hx hb hts hiX7 hown hK hP 0 rfl rfl 0 (by decide) hw0 (fun _ h9 => h9) rfl dX7_isStorm_8 ?_
    refine lv_sipush (v := (203 : Int32)) hx hb dX7_isStorm_11 (by decide) ?_
    refine lv_iload_n hx hb dX7_isStorm_14 rfl (lv_at hl 1 rfl) ?_
    refine lv_iadd hx hb dX7_isStorm_15 ?_
    obtain ⟨hg2, h⟩ := gd_s h
    refine va_iald (D := E.1) (cl := vwCl) (tys := gT E) hx hb hK hP 1 0 rfl rfl (inB_in hg2) dX7_isStorm_16 ?_
    refine lv_iconst (v := (1 : Int32)) hx hb dX7_isStorm_17 (by decide) ?_
    refine lv_icmp_ne (tgt := 25) hx hb dX7_isStorm_18 (by decide) (fun hc3 => ?_) (fun hc3 => ?_)
    · replace h := g_if hc3 h
      refine lv_iconst (v := (0 : Int32)) hx hb dX7_isStorm_25 (by decide) ?_
      exact hret (0 : Int32) _ _ _ _ _ (Option.some.inj h) hP hS rfl rfl dX7_isStorm_26
    · replace h := g_it hc3 h
      refine lv_iconst (v := (1 : Int32)) hx hb dX7_isStorm_21 (by decide) ?_
      refine lv_goto (tgt := 26) hx hb dX7_isStorm_22 (by decide) ?_
      exact hret (1 : Int32) _ _ _ _ _ (Option.some.inj h) hP hS rfl rfl dX7_isStorm_26
set_option maxHeartbeats 4000000 in
set_option maxRecDepth 100000 in
theorem kX7_guests (E : gE) (l : Launch) (a0 a1 a2 a3 a4 a5 a6 a7 : Nat) (ss : Nat → Int32) (bg : Nat → Int32) (kp : Nat → Int32) (ik : Int32) (pt : Nat → Int32) (st : Int32) (tx : Nat → Int32) (ln : Int32) (asd : Nat → Int32) (att : Int32) (dn : Int32) (td : Int32) (fo : Int32) (nb : Nat → Int32)  (res : Int32) (h : fX7_guests ss  = some res) : gMI E l yX7_guests wsX7_guests ({ frames := 1, cells := 0, slots := 0, locals := 22 } : Room) [.ref a0] (wMo E a0 a1 a2 a3 a4 a5 a6 a7 ss bg kp ik pt st tx ln asd att dn td fo nb) (fun res : Int32 => (wMo E a0 a1 a2 a3 a4 a5 a6 a7 ss bg kp ik pt st tx ln asd att dn td fo nb)) (fun res => res) res := by
  refine g_entI (cc := cX7_guests) (maxL := 3) (by decide) rfl (Nat.le_of_ble_eq_true rfl) ?_
  intro p e s m args below meth c A Q ls hx hb hml hown hts hK hP hD hS hA hG hret hl
  unfold fX7_guests at h
  replace hl : lv_has ls 3 [(0, .ref a0)] := hl
  have hiX7 : ∀ w ∈ wsX70, w ∈ wsX7_guests := by decide +kernel
  have hw0 := hts (.fieldLink RX7 7 "GlacierHutModel" "s" "[I") (by decide +kernel)
  refine lv_iconst (v := (0 : Int32)) hx hb dX7_guests_0 (by decide) ?_
  refine lv_istore_n (lv' := [(1, .int (0 : Int32)), (0, .ref a0)]) hx hb dX7_guests_1 rfl hl (by decide) rfl (fun ls hl => ?_)
  refine lv_iconst (v := (0 : Int32)) hx hb dX7_guests_2 (by decide) ?_
  refine lv_istore_n (lv' := [(2, .int (0 : Int32)), (1, .int (0 : Int32)), (0, .ref a0)]) hx hb dX7_guests_3 rfl hl (by decide) rfl (fun ls hl => ?_)
  refine gl2_e h (fun S_rec1 hS_rec1 h => ?_)
  have hL_rec1 : ∀ (nF : Nat) (v2 : Int32) (v3 : Int32) (H : Heap) (locs : List Loc) (ls : Array Slot), va_P E.1 vwCl (wMo E a0 a1 a2 a3 a4 a5 a6 a7 ss bg kp ik pt st tx ln asd att dn td fo nb) H → va_S A s.heap H locs → lv_has ls 3 [(2, .int v2), (1, .int v3), (0, .ref a0)] → gl2 S_rec1 nF v2 v3 = some res → W p l e ({ frames := 1, cells := 0, slots := 0, locals := 22 } : Room) s m args below meth c H locs 0 0 Q (F0 m 4 ls []) := by
    intro nF
    induction nF with
    | zero => intro v2 v3 H locs ls hP hS hl h; exact gl2_z h
    | succ nF ih_rec1 =>
      intro v2 v3 H locs ls hP hS hl h
      replace hD : va_D A (wMo E a0 a1 a2 a3 a4 a5 a6 a7 ss bg kp ik pt st tx ln asd att dn td fo nb) := gD_same hD rfl
      replace h : S_rec1 (gl2 S_rec1 nF) v2 v3 = some res := h
      generalize gl2 S_rec1 nF = rec1 at h ih_rec1
      subst hS_rec1
      unfold sX7_guests_rec1 at h
      refine lv_iload_n hx hb dX7_guests_4 rfl (lv_at hl 0 rfl) ?_
      refine lv_aload_n hx hb dX7_guests_5 rfl (lv_at hl 2 rfl) ?_
      refine va_get (D := E.1) (cl := vwCl) (ci := 7) (v := .ref a1) (C := RX7) (T := TX7) (N := 14) hx hb hts hiX7 hown hK hP 0 rfl rfl 0 (by decide) hw0 (fun _ h9 => h9) rfl dX7_guests_6 ?_
      refine lv_iconst (v := (4 : Int32)) hx hb dX7_guests_9 (by decide) ?_
      obtain ⟨hg4, h⟩ := gd_s h
      refine va_iald (D := E.1) (cl := vwCl) (tys := gT E) hx hb hK hP 1 0 rfl rfl (inB_in hg4) dX7_guests_10 ?_
      refine lv_icmp_ge (tgt := 43) hx hb dX7_guests_11 (by decide) (fun hc5 => ?_) (fun hc5 => ?_)
      · replace h := g_it hc5 h
        refine lv_iload_n hx hb dX7_guests_43 rfl (lv_at hl 1 rfl) ?_
        exact hret v3 _ _ _ _ _ (Option.some.inj h) hP hS rfl dX7_guests_44
      · replace h := g_if hc5 h
        refine lv_iload_n hx hb dX7_guests_14 rfl (lv_at hl 1 rfl) ?_
        refine lv_aload_n hx hb dX7_guests_15 rfl (lv_at hl 2 rfl) ?_
        refine lv_iload_n hx hb dX7_guests_16 rfl (lv_at hl 0 rfl) ?_
        refine lv_iconst (v := (3 : Int32)) hx hb dX7_guests_17 (by decide) ?_
        obtain ⟨r6, hc7, h⟩ := bd1_s h
        refine g_callRi (As := [.int v2, .int (3 : Int32)]) (rest := [.int v3]) (r := r6) ⟨hx, hb, hml, hown, hts⟩ (kX7_ofParty E l a0 a1 a2 a3 a4 a5 a6 a7 ss bg kp ik pt st tx ln asd att dn td fo nb v2 (3 : Int32) r6 hc7) (cwV 2 hts gX7_guests_X7_ofParty rfl rfl rfl (by decide +kernel) ⟨Nat.le_of_ble_eq_true rfl, Nat.le_of_ble_eq_true rfl⟩) hK hP hD hS hA hG hl [0, 1, 2, 3, 4, 5, 6, 7] 0 (by decide) rfl (ci := 7) rfl rfl rfl rfl rfl rfl rfl (Nat.le_of_ble_eq_true rfl) dX7_guests_18 (Nat.zero_le _) (Nat.zero_le _) (fun H locs hP hD hS => ?_)
        refine lv_iconst (v := (1 : Int32)) hx hb dX7_guests_21 (by decide) ?_
        refine lv_icmp_ne (tgt := 34) hx hb dX7_guests_22 (by decide) (fun hc8 => ?_) (fun hc8 => ?_)
        · replace h := g_if hc8 h
          refine lv_iconst (v := (0 : Int32)) hx hb dX7_guests_34 (by decide) ?_
          refine lv_iadd hx hb dX7_guests_35 ?_
          refine lv_topi (fun v9 e_v9 => ?_)
          replace h := jl_s e_v9 h
          refine lv_istore_n (lv' := [(1, .int v9), (2, .int v2), (0, .ref a0)]) hx hb dX7_guests_36 rfl hl (by decide) rfl (fun ls hl => ?_)
          obtain ⟨v10, e_v10⟩ : ∃ y : Int32, y = (v2 + (1 : Int32)) := ⟨_, rfl⟩
          replace h := jl_s e_v10 h
          refine lv_iinc (v := v10) (lv' := [(2, .int v10), (1, .int v9), (0, .ref a0)]) hx hb dX7_guests_37 hl (k := 1) rfl (by rw [e_v10]; rfl) (by decide) rfl (fun ls hl => ?_)
          refine lv_goto (tgt := 4) hx hb dX7_guests_40 (by decide) ?_
          exact ih_rec1 v10 v9 _ _ _ hP hS (lv_sub hl [0, 1, 2] rfl) h
        · replace h := g_it hc8 h
          refine lv_aload_n hx hb dX7_guests_25 rfl (lv_at hl 2 rfl) ?_
          refine lv_iload_n hx hb dX7_guests_26 rfl (lv_at hl 0 rfl) ?_
          refine lv_iconst (v := (0 : Int32)) hx hb dX7_guests_27 (by decide) ?_
          obtain ⟨r11, hc12, h⟩ := bd1_s h
          refine g_callRi (As := [.int v2, .int (0 : Int32)]) (rest := [.int v3]) (r := r11) ⟨hx, hb, hml, hown, hts⟩ (kX7_ofParty E l a0 a1 a2 a3 a4 a5 a6 a7 ss bg kp ik pt st tx ln asd att dn td fo nb v2 (0 : Int32) r11 hc12) (cwV 2 hts gX7_guests_X7_ofParty rfl rfl rfl (by decide +kernel) ⟨Nat.le_of_ble_eq_true rfl, Nat.le_of_ble_eq_true rfl⟩) hK hP hD hS hA hG hl [0, 1, 2, 3, 4, 5, 6, 7] 0 (by decide) rfl (ci := 7) rfl rfl rfl rfl rfl rfl rfl (Nat.le_of_ble_eq_true rfl) dX7_guests_28 (Nat.zero_le _) (Nat.zero_le _) (fun H locs hP hD hS => ?_)
          refine lv_goto (tgt := 35) hx hb dX7_guests_31 (by decide) ?_
          refine lv_iadd hx hb dX7_guests_35 ?_
          refine lv_topi (fun v13 e_v13 => ?_)
          replace h := jl_s e_v13 h
          refine lv_istore_n (lv' := [(1, .int v13), (2, .int v2), (0, .ref a0)]) hx hb dX7_guests_36 rfl hl (by decide) rfl (fun ls hl => ?_)
          obtain ⟨v14, e_v14⟩ : ∃ y : Int32, y = (v2 + (1 : Int32)) := ⟨_, rfl⟩
          replace h := jl_s e_v14 h
          refine lv_iinc (v := v14) (lv' := [(2, .int v14), (1, .int v13), (0, .ref a0)]) hx hb dX7_guests_37 hl (k := 1) rfl (by rw [e_v14]; rfl) (by decide) rfl (fun ls hl => ?_)
          refine lv_goto (tgt := 4) hx hb dX7_guests_40 (by decide) ?_
          exact ih_rec1 v14 v13 _ _ _ hP hS (lv_sub hl [0, 1, 2] rfl) h
  exact hL_rec1 gFU (0 : Int32) (0 : Int32) _ _ _ hP hS (lv_sub hl [0, 1, 2] rfl) h
set_option maxHeartbeats 4000000 in
set_option maxRecDepth 100000 in
theorem kX7_arrives (E : gE) (l : Launch) (a0 a1 a2 a3 a4 a5 a6 a7 : Nat) (ss : Nat → Int32) (bg : Nat → Int32) (kp : Nat → Int32) (ik : Int32) (pt : Nat → Int32) (st : Int32) (tx : Nat → Int32) (ln : Int32) (asd : Nat → Int32) (att : Int32) (dn : Int32) (td : Int32) (fo : Int32) (nb : Nat → Int32) (p1 : Int32) (res : (Nat → Int32)) (h : fX7_arrives ss p1 = some res) : gMV E l yX7_arrives wsX7_arrives ({ frames := 2, cells := 0, slots := 0, locals := 44 } : Room) [.ref a0, .int p1] (wMo E a0 a1 a2 a3 a4 a5 a6 a7 ss bg kp ik pt st tx ln asd att dn td fo nb) (fun res : (Nat → Int32) => (wMo E a0 a1 a2 a3 a4 a5 a6 a7 res bg kp ik pt st tx ln asd att dn td fo nb)) res := by
  refine g_entV (cc := cX7_arrives) (maxL := 3) (by decide) rfl (Nat.le_of_ble_eq_true rfl) ?_
  intro p e s m args below meth c A Q ls hx hb hml hown hts hK hP hD hS hA hG hret hl
  unfold fX7_arrives at h
  replace hl : lv_has ls 3 [(0, .ref a0), (1, .int p1)] := hl
  have hiX7 : ∀ w ∈ wsX70, w ∈ wsX7_arrives := by decide +kernel
  have hw0 := hts (.fieldLink RX7 7 "GlacierHutModel" "s" "[I") (by decide +kernel)
  refine lv_aload_n hx hb dX7_arrives_0 rfl (lv_at hl 0 rfl) ?_
  refine lv_iload_n hx hb dX7_arrives_1 rfl (lv_at hl 1 rfl) ?_
  refine lv_iconst (v := (1 : Int32)) hx hb dX7_arrives_2 (by decide) ?_
  obtain ⟨r1, hc2, h⟩ := bd1_s h
  refine g_callRi (As := [.int p1, .int (1 : Int32)]) (rest := []) (r := r1) ⟨hx, hb, hml, hown, hts⟩ (kX7_ofParty E l a0 a1 a2 a3 a4 a5 a6 a7 ss bg kp ik pt st tx ln asd att dn td fo nb p1 (1 : Int32) r1 hc2) (cwV 2 hts gX7_arrives_X7_ofParty rfl rfl rfl (by decide +kernel) ⟨Nat.le_of_ble_eq_true rfl, Nat.le_of_ble_eq_true rfl⟩) hK hP hD hS hA hG hl [0, 1, 2, 3, 4, 5, 6, 7] 0 (by decide) rfl (ci := 7) rfl rfl rfl rfl rfl rfl rfl (Nat.le_of_ble_eq_true rfl) dX7_arrives_3 (Nat.zero_le _) (Nat.zero_le _) (fun H locs hP hD hS => ?_)
  refine lv_aload_n hx hb dX7_arrives_6 rfl (lv_at hl 0 rfl) ?_
  refine lv_iload_n hx hb dX7_arrives_7 rfl (lv_at hl 1 rfl) ?_
  refine lv_iconst (v := (2 : Int32)) hx hb dX7_arrives_8 (by decide) ?_
  obtain ⟨r3, hc4, h⟩ := bd1_s h
  refine g_callRi (As := [.int p1, .int (2 : Int32)]) (rest := [.int r1]) (r := r3) ⟨hx, hb, hml, hown, hts⟩ (kX7_ofParty E l a0 a1 a2 a3 a4 a5 a6 a7 ss bg kp ik pt st tx ln asd att dn td fo nb p1 (2 : Int32) r3 hc4) (cwV 2 hts gX7_arrives_X7_ofParty rfl rfl rfl (by decide +kernel) ⟨Nat.le_of_ble_eq_true rfl, Nat.le_of_ble_eq_true rfl⟩) hK hP hD hS hA hG hl [0, 1, 2, 3, 4, 5, 6, 7] 0 (by decide) rfl (ci := 7) rfl rfl rfl rfl rfl rfl rfl (Nat.le_of_ble_eq_true rfl) dX7_arrives_9 (Nat.zero_le _) (Nat.zero_le _) (fun H locs hP hD hS => ?_)
  refine lv_iadd hx hb dX7_arrives_12 ?_
  refine lv_aload_n hx hb dX7_arrives_13 rfl (lv_at hl 0 rfl) ?_
  refine va_get (D := E.1) (cl := vwCl) (ci := 7) (v := .ref a1) (C := RX7) (T := TX7) (N := 14) hx hb hts hiX7 hown hK hP 0 rfl rfl 0 (by decide) hw0 (fun _ h9 => h9) rfl dX7_arrives_14 ?_
  refine lv_iconst (v := (0 : Int32)) hx hb dX7_arrives_17 (by decide) ?_
  obtain ⟨hg5, h⟩ := gd_s h
  refine va_iald (D := E.1) (cl := vwCl) (tys := gT E) hx hb hK hP 1 0 rfl rfl (inB_in hg5) dX7_arrives_18 ?_
  refine lv_icmp_gt (tgt := 32) hx hb dX7_arrives_19 (by decide) (fun hc6 => ?_) (fun hc6 => ?_)
  · replace h := g_it hc6 h
    refine lv_aload_n hx hb dX7_arrives_32 rfl (lv_at hl 0 rfl) ?_
    refine lv_aload_n hx hb dX7_arrives_33 rfl (lv_at hl 0 rfl) ?_
    refine va_get (D := E.1) (cl := vwCl) (ci := 7) (v := .ref a1) (C := RX7) (T := TX7) (N := 14) hx hb hts hiX7 hown hK hP 0 rfl rfl 0 (by decide) hw0 (fun _ h9 => h9) rfl dX7_arrives_34 ?_
    refine lv_iconst (v := (0 : Int32)) hx hb dX7_arrives_37 (by decide) ?_
    refine va_iald (D := E.1) (cl := vwCl) (tys := gT E) hx hb hK hP 1 0 rfl rfl (inB_in hg5) dX7_arrives_38 ?_
    obtain ⟨r7, hc8, h⟩ := bd1_s h
    refine g_callRi (As := [.int (ss ((0 : Int32)).toNatClampNeg)]) (rest := []) (r := r7) ⟨hx, hb, hml, hown, hts⟩ (kX7_isStorm E l a0 a1 a2 a3 a4 a5 a6 a7 ss bg kp ik pt st tx ln asd att dn td fo nb (ss ((0 : Int32)).toNatClampNeg) r7 hc8) (cwV 1 hts gX7_arrives_X7_isStorm rfl rfl rfl (by decide +kernel) ⟨Nat.le_of_ble_eq_true rfl, Nat.le_of_ble_eq_true rfl⟩) hK hP hD hS hA hG hl [0, 1, 2, 3, 4, 5, 6, 7] 0 (by decide) rfl (ci := 7) rfl rfl rfl rfl rfl rfl rfl (Nat.le_of_ble_eq_true rfl) dX7_arrives_39 (Nat.zero_le _) (Nat.zero_le _) (fun H locs hP hD hS => ?_)
    refine lv_if_ne (tgt := 128) hx hb dX7_arrives_42 (by decide) (fun hc9 => ?_) (fun hc9 => ?_)
    · replace h := g_if hc9 h
      exact hret ss _ _ _ _ (Option.some.inj h) hP hS dX7_arrives_128
    · replace h := g_it hc9 h
      refine lv_aload_n hx hb dX7_arrives_45 rfl (lv_at hl 0 rfl) ?_
      obtain ⟨r10, hc11, h⟩ := bd1_s h
      refine g_callRi (As := []) (rest := []) (r := r10) ⟨hx, hb, hml, hown, hts⟩ (kX7_guests E l a0 a1 a2 a3 a4 a5 a6 a7 ss bg kp ik pt st tx ln asd att dn td fo nb r10 hc11) (cwV 0 hts gX7_arrives_X7_guests rfl rfl rfl (by decide +kernel) ⟨Nat.le_of_ble_eq_true rfl, Nat.le_of_ble_eq_true rfl⟩) hK hP hD hS hA hG hl [0, 1, 2, 3, 4, 5, 6, 7] 0 (by decide) rfl (ci := 7) rfl rfl rfl rfl rfl rfl rfl (Nat.le_of_ble_eq_true rfl) dX7_arrives_46 (Nat.zero_le _) (Nat.zero_le _) (fun H locs hP hD hS => ?_)
      refine lv_aload_n hx hb dX7_arrives_49 rfl (lv_at hl 0 rfl) ?_
      refine lv_iload_n hx hb dX7_arrives_50 rfl (lv_at hl 1 rfl) ?_
      refine lv_iconst (v := (0 : Int32)) hx hb dX7_arrives_51 (by decide) ?_
      obtain ⟨r12, hc13, h⟩ := bd1_s h
      refine g_callRi (As := [.int p1, .int (0 : Int32)]) (rest := [.int r10]) (r := r12) ⟨hx, hb, hml, hown, hts⟩ (kX7_ofParty E l a0 a1 a2 a3 a4 a5 a6 a7 ss bg kp ik pt st tx ln asd att dn td fo nb p1 (0 : Int32) r12 hc13) (cwV 2 hts gX7_arrives_X7_ofParty rfl rfl rfl (by decide +kernel) ⟨Nat.le_of_ble_eq_true rfl, Nat.le_of_ble_eq_true rfl⟩) hK hP hD hS hA hG hl [0, 1, 2, 3, 4, 5, 6, 7] 0 (by decide) rfl (ci := 7) rfl rfl rfl rfl rfl rfl rfl (Nat.le_of_ble_eq_true rfl) dX7_arrives_52 (Nat.zero_le _) (Nat.zero_le _) (fun H locs hP hD hS => ?_)
      refine lv_iadd hx hb dX7_arrives_55 ?_
      refine lv_aload_n hx hb dX7_arrives_56 rfl (lv_at hl 0 rfl) ?_
      refine va_get (D := E.1) (cl := vwCl) (ci := 7) (v := .ref a1) (C := RX7) (T := TX7) (N := 14) hx hb hts hiX7 hown hK hP 0 rfl rfl 0 (by decide) hw0 (fun _ h9 => h9) rfl dX7_arrives_57 ?_
      refine lv_bipush (v := (10 : Int32)) hx hb dX7_arrives_60 (by decide) ?_
      obtain ⟨hg14, h⟩ := gd_s h
      refine va_iald (D := E.1) (cl := vwCl) (tys := gT E) hx hb hK hP 1 0 rfl rfl (inB_in hg14) dX7_arrives_62 ?_
      refine mrg_e h (fun J16 hK_J16 h => ?_)
      have hJ_J16 : ∀ (v17 : Int32) (H : Heap) (locs : List Loc) (ls : Array Slot), va_P E.1 vwCl (wMo E a0 a1 a2 a3 a4 a5 a6 a7 ss bg kp ik pt st tx ln asd att dn td fo nb) H → va_S A s.heap H locs → lv_has ls 3 [(0, .ref a0), (1, .int p1)] → J16 v17 = some res → W p l e ({ frames := 2, cells := 0, slots := 0, locals := 44 } : Room) s m args below meth c H locs 0 0 Q (F0 m 71 ls [.int v17]) := by
        intro v17 H locs ls hP hS hl h
        replace hD : va_D A (wMo E a0 a1 a2 a3 a4 a5 a6 a7 ss bg kp ik pt st tx ln asd att dn td fo nb) := gD_same hD rfl
        subst hK_J16
        refine lv_istore_n (lv' := [(2, .int v17), (0, .ref a0), (1, .int p1)]) hx hb dX7_arrives_71 rfl hl (by decide) rfl (fun ls hl => ?_)
        refine lv_aload_n hx hb dX7_arrives_72 rfl (lv_at hl 1 rfl) ?_
        refine lv_iload_n hx hb dX7_arrives_73 rfl (lv_at hl 2 rfl) ?_
        refine lv_iconst (v := (3 : Int32)) hx hb dX7_arrives_74 (by decide) ?_
        refine lv_iload_n hx hb dX7_arrives_75 rfl (lv_at hl 0 rfl) ?_
        refine mrg_e h (fun J19 hK_J19 h => ?_)
        have hJ_J19 : ∀ (v20 : Int32) (H : Heap) (locs : List Loc) (ls : Array Slot), va_P E.1 vwCl (wMo E a0 a1 a2 a3 a4 a5 a6 a7 ss bg kp ik pt st tx ln asd att dn td fo nb) H → va_S A s.heap H locs → lv_has ls 3 [(2, .int v17), (0, .ref a0), (1, .int p1)] → J19 v20 = some res → W p l e ({ frames := 2, cells := 0, slots := 0, locals := 44 } : Room) s m args below meth c H locs 0 0 Q (F0 m 84 ls [.int v20, .int (3 : Int32), .int p1, .ref a0]) := by
          intro v20 H locs ls hP hS hl h
          replace hD : va_D A (wMo E a0 a1 a2 a3 a4 a5 a6 a7 ss bg kp ik pt st tx ln asd att dn td fo nb) := gD_same hD rfl
          subst hK_J19
          obtain ⟨ss21, hc22, h⟩ := bd1_s h
          refine g_callVv (As := [.int p1, .int (3 : Int32), .int v20]) (rest := []) (ws1 := (wMo E a0 a1 a2 a3 a4 a5 a6 a7 ss21 bg kp ik pt st tx ln asd att dn td fo nb)) ⟨hx, hb, hml, hown, hts⟩ (kX7_setParty E l a0 a1 a2 a3 a4 a5 a6 a7 ss bg kp ik pt st tx ln asd att dn td fo nb p1 (3 : Int32) v20 ss21 hc22) (cwV 3 hts gX7_arrives_X7_setParty rfl rfl rfl (by decide +kernel) ⟨Nat.le_of_ble_eq_true rfl, Nat.le_of_ble_eq_true rfl⟩) hK hP hD hS hA hG hl [0, 1, 2, 3, 4, 5, 6, 7] 0 (by decide) rfl (ci := 7) rfl rfl rfl rfl rfl rfl rfl rfl (Nat.le_of_ble_eq_true rfl) dX7_arrives_84 (Nat.zero_le _) (Nat.zero_le _) (fun H locs hP hD hS => ?_)
          refine lv_aload_n hx hb dX7_arrives_87 rfl (lv_at hl 1 rfl) ?_
          refine lv_iload_n hx hb dX7_arrives_88 rfl (lv_at hl 2 rfl) ?_
          refine lv_iconst (v := (5 : Int32)) hx hb dX7_arrives_89 (by decide) ?_
          refine lv_iload_n hx hb dX7_arrives_90 rfl (lv_at hl 0 rfl) ?_
          refine mrg_e h (fun J24 hK_J24 h => ?_)
          have hJ_J24 : ∀ (v25 : Int32) (H : Heap) (locs : List Loc) (ls : Array Slot), va_P E.1 vwCl (wMo E a0 a1 a2 a3 a4 a5 a6 a7 ss21 bg kp ik pt st tx ln asd att dn td fo nb) H → va_S A s.heap H locs → lv_has ls 3 [(2, .int v17), (0, .ref a0)] → J24 v25 = some res → W p l e ({ frames := 2, cells := 0, slots := 0, locals := 44 } : Room) s m args below meth c H locs 0 0 Q (F0 m 106 ls [.int v25, .int (5 : Int32), .int p1, .ref a0]) := by
            intro v25 H locs ls hP hS hl h
            replace hD : va_D A (wMo E a0 a1 a2 a3 a4 a5 a6 a7 ss21 bg kp ik pt st tx ln asd att dn td fo nb) := gD_same hD rfl
            subst hK_J24
            obtain ⟨ss26, hc27, h⟩ := bd1_s h
            refine g_callVv (As := [.int p1, .int (5 : Int32), .int v25]) (rest := []) (ws1 := (wMo E a0 a1 a2 a3 a4 a5 a6 a7 ss26 bg kp ik pt st tx ln asd att dn td fo nb)) ⟨hx, hb, hml, hown, hts⟩ (kX7_setParty E l a0 a1 a2 a3 a4 a5 a6 a7 ss21 bg kp ik pt st tx ln asd att dn td fo nb p1 (5 : Int32) v25 ss26 hc27) (cwV 3 hts gX7_arrives_X7_setParty rfl rfl rfl (by decide +kernel) ⟨Nat.le_of_ble_eq_true rfl, Nat.le_of_ble_eq_true rfl⟩) hK hP hD hS hA hG hl [0, 1, 2, 3, 4, 5, 6, 7] 0 (by decide) rfl (ci := 7) rfl rfl rfl rfl rfl rfl rfl rfl (Nat.le_of_ble_eq_true rfl) dX7_arrives_106 (Nat.zero_le _) (Nat.zero_le _) (fun H locs hP hD hS => ?_)
            refine lv_aload_n hx hb dX7_arrives_109 rfl (lv_at hl 1 rfl) ?_
            refine va_get (D := E.1) (cl := vwCl) (ci := 7) (v := .ref a1) (C := RX7) (T := TX7) (N := 14) hx hb hts hiX7 hown hK hP 0 rfl rfl 0 (by decide) hw0 (fun _ h9 => h9) rfl dX7_arrives_110 ?_
            refine lv_bipush (v := (9 : Int32)) hx hb dX7_arrives_113 (by decide) ?_
            refine lv_dup2_11 hx hb dX7_arrives_115 rfl rfl ?_
            obtain ⟨hg28, h⟩ := gd_s h
            refine va_iald (D := E.1) (cl := vwCl) (tys := gT E) hx hb hK hP 1 0 rfl rfl (inB_in hg28) dX7_arrives_116 ?_
            refine lv_iload_n hx hb dX7_arrives_117 rfl (lv_at hl 0 rfl) ?_
            refine lv_if_eq (tgt := 125) hx hb dX7_arrives_118 (by decide) (fun hc29 => ?_) (fun hc29 => ?_)
            · replace h := g_it hc29 h
              refine lv_iconst (v := (1 : Int32)) hx hb dX7_arrives_125 (by decide) ?_
              refine lv_iadd hx hb dX7_arrives_126 ?_
              refine va_iast (D := E.1) (cl := vwCl) (tys := gT E) hx hb hK hP hD hS 1 0 rfl rfl (inB_in hg28) dX7_arrives_127 (fun H locs hP hD hS => ?_)
              obtain ⟨ss30, e_ss30⟩ : ∃ y : Nat → Int32, y = (upd ss26 ((9 : Int32)).toNatClampNeg ((ss26 ((9 : Int32)).toNatClampNeg) + (1 : Int32))) := ⟨_, rfl⟩
              replace h := jl_s e_ss30 h
              replace hP : va_P E.1 vwCl (wMo E a0 a1 a2 a3 a4 a5 a6 a7 ss30 bg kp ik pt st tx ln asd att dn td fo nb) H := (by rw [e_ss30]; exact hP)
              replace hD : va_D A (wMo E a0 a1 a2 a3 a4 a5 a6 a7 ss30 bg kp ik pt st tx ln asd att dn td fo nb) := gD_same hD rfl
              exact hret ss30 _ _ _ _ (Option.some.inj h) hP hS dX7_arrives_128
            · replace h := g_if hc29 h
              refine lv_iconst (v := (0 : Int32)) hx hb dX7_arrives_121 (by decide) ?_
              refine lv_goto (tgt := 126) hx hb dX7_arrives_122 (by decide) ?_
              refine lv_iadd hx hb dX7_arrives_126 ?_
              refine va_iast (D := E.1) (cl := vwCl) (tys := gT E) hx hb hK hP hD hS 1 0 rfl rfl (inB_in hg28) dX7_arrives_127 (fun H locs hP hD hS => ?_)
              obtain ⟨ss31, e_ss31⟩ : ∃ y : Nat → Int32, y = (upd ss26 ((9 : Int32)).toNatClampNeg ((ss26 ((9 : Int32)).toNatClampNeg) + (0 : Int32))) := ⟨_, rfl⟩
              replace h := jl_s e_ss31 h
              replace hP : va_P E.1 vwCl (wMo E a0 a1 a2 a3 a4 a5 a6 a7 ss31 bg kp ik pt st tx ln asd att dn td fo nb) H := (by rw [e_ss31]; exact hP)
              replace hD : va_D A (wMo E a0 a1 a2 a3 a4 a5 a6 a7 ss31 bg kp ik pt st tx ln asd att dn td fo nb) := gD_same hD rfl
              exact hret ss31 _ _ _ _ (Option.some.inj h) hP hS dX7_arrives_128
          refine lv_if_eq (tgt := 105) hx hb dX7_arrives_91 (by decide) (fun hc23 => ?_) (fun hc23 => ?_)
          · replace h := g_it hc23 h
            refine lv_iconst (v := (0 : Int32)) hx hb dX7_arrives_105 (by decide) ?_
            exact hJ_J24 (0 : Int32) _ _ _ hP hS (lv_sub hl [0, 1] rfl) h
          · replace h := g_if hc23 h
            refine lv_aload_n hx hb dX7_arrives_94 rfl (lv_at hl 1 rfl) ?_
            refine va_get (D := E.1) (cl := vwCl) (ci := 7) (v := .ref a1) (C := RX7) (T := TX7) (N := 14) hx hb hts hiX7 hown hK hP 0 rfl rfl 0 (by decide) hw0 (fun _ h9 => h9) rfl dX7_arrives_95 ?_
            refine lv_iconst (v := (0 : Int32)) hx hb dX7_arrives_98 (by decide) ?_
            refine va_iald (D := E.1) (cl := vwCl) (tys := gT E) hx hb hK hP 1 0 rfl rfl (inB_in hg5) dX7_arrives_99 ?_
            refine lv_iconst (v := (1 : Int32)) hx hb dX7_arrives_100 (by decide) ?_
            refine lv_iadd hx hb dX7_arrives_101 ?_
            refine lv_goto (tgt := 106) hx hb dX7_arrives_102 (by decide) ?_
            exact hJ_J24 ((ss21 ((0 : Int32)).toNatClampNeg) + (1 : Int32)) _ _ _ hP hS (lv_sub hl [0, 1] rfl) h
        refine lv_if_eq (tgt := 83) hx hb dX7_arrives_76 (by decide) (fun hc18 => ?_) (fun hc18 => ?_)
        · replace h := g_it hc18 h
          refine lv_iconst (v := (3 : Int32)) hx hb dX7_arrives_83 (by decide) ?_
          exact hJ_J19 (3 : Int32) _ _ _ hP hS (lv_sub hl [0, 1, 2] rfl) h
        · replace h := g_if hc18 h
          refine lv_iconst (v := (1 : Int32)) hx hb dX7_arrives_79 (by decide) ?_
          refine lv_goto (tgt := 84) hx hb dX7_arrives_80 (by decide) ?_
          exact hJ_J19 (1 : Int32) _ _ _ hP hS (lv_sub hl [0, 1, 2] rfl) h
      refine lv_icmp_gt (tgt := 70) hx hb dX7_arrives_63 (by decide) (fun hc15 => ?_) (fun hc15 => ?_)
      · replace h := g_it hc15 h
        refine lv_iconst (v := (0 : Int32)) hx hb dX7_arrives_70 (by decide) ?_
        exact hJ_J16 (0 : Int32) _ _ _ hP hS (lv_sub hl [0, 1] rfl) h
      · replace h := g_if hc15 h
        refine lv_iconst (v := (1 : Int32)) hx hb dX7_arrives_66 (by decide) ?_
        refine lv_goto (tgt := 71) hx hb dX7_arrives_67 (by decide) ?_
        exact hJ_J16 (1 : Int32) _ _ _ hP hS (lv_sub hl [0, 1] rfl) h
  · replace h := g_if hc6 h
    refine lv_aload_n hx hb dX7_arrives_22 rfl (lv_at hl 0 rfl) ?_
    refine lv_iload_n hx hb dX7_arrives_23 rfl (lv_at hl 1 rfl) ?_
    refine lv_iconst (v := (3 : Int32)) hx hb dX7_arrives_24 (by decide) ?_
    refine lv_iconst (v := (3 : Int32)) hx hb dX7_arrives_25 (by decide) ?_
    obtain ⟨ss32, hc33, h⟩ := bd1_s h
    refine g_callVv (As := [.int p1, .int (3 : Int32), .int (3 : Int32)]) (rest := []) (ws1 := (wMo E a0 a1 a2 a3 a4 a5 a6 a7 ss32 bg kp ik pt st tx ln asd att dn td fo nb)) ⟨hx, hb, hml, hown, hts⟩ (kX7_setParty E l a0 a1 a2 a3 a4 a5 a6 a7 ss bg kp ik pt st tx ln asd att dn td fo nb p1 (3 : Int32) (3 : Int32) ss32 hc33) (cwV 3 hts gX7_arrives_X7_setParty rfl rfl rfl (by decide +kernel) ⟨Nat.le_of_ble_eq_true rfl, Nat.le_of_ble_eq_true rfl⟩) hK hP hD hS hA hG hl [0, 1, 2, 3, 4, 5, 6, 7] 0 (by decide) rfl (ci := 7) rfl rfl rfl rfl rfl rfl rfl rfl (Nat.le_of_ble_eq_true rfl) dX7_arrives_26 (Nat.zero_le _) (Nat.zero_le _) (fun H locs hP hD hS => ?_)
    refine lv_goto (tgt := 128) hx hb dX7_arrives_29 (by decide) ?_
    exact hret ss32 _ _ _ _ (Option.some.inj h) hP hS dX7_arrives_128
set_option maxHeartbeats 4000000 in
set_option maxRecDepth 100000 in
theorem kX7_begins (E : gE) (l : Launch) (a0 a1 a2 a3 a4 a5 a6 a7 : Nat) (ss : Nat → Int32) (bg : Nat → Int32) (kp : Nat → Int32) (ik : Int32) (pt : Nat → Int32) (st : Int32) (tx : Nat → Int32) (ln : Int32) (asd : Nat → Int32) (att : Int32) (dn : Int32) (td : Int32) (fo : Int32) (nb : Nat → Int32)  (res : (Nat → Int32)) (h : fX7_begins ss bg  = some res) : gMV E l yX7_begins wsX7_begins ({ frames := 0, cells := 0, slots := 0, locals := 0 } : Room) [.ref a0] (wMo E a0 a1 a2 a3 a4 a5 a6 a7 ss bg kp ik pt st tx ln asd att dn td fo nb) (fun res : (Nat → Int32) => (wMo E a0 a1 a2 a3 a4 a5 a6 a7 ss res kp ik pt st tx ln asd att dn td fo nb)) res := by
  refine g_entV (cc := cX7_begins) (maxL := 2) (by decide) rfl (Nat.le_of_ble_eq_true rfl) ?_
  intro p e s m args below meth c A Q ls hx hb hml hown hts hK hP hD hS hA hG hret hl
  unfold fX7_begins at h
  replace hl : lv_has ls 2 [(0, .ref a0)] := hl
  have hiX7 : ∀ w ∈ wsX70, w ∈ wsX7_begins := by decide +kernel
  have hw0 := hts (.fieldLink RX7 13 "GlacierHutModel" "begun" "[I") (by decide +kernel)
  have hw1 := hts (.fieldLink RX7 7 "GlacierHutModel" "s" "[I") (by decide +kernel)
  refine lv_iconst (v := (0 : Int32)) hx hb dX7_begins_0 (by decide) ?_
  refine lv_istore_n (lv' := [(1, .int (0 : Int32)), (0, .ref a0)]) hx hb dX7_begins_1 rfl hl (by decide) rfl (fun ls hl => ?_)
  refine gl2_e h (fun S_rec1 hS_rec1 h => ?_)
  have hL_rec1 : ∀ (nF : Nat) (v2 : Int32) (bg3 : Nat → Int32) (H : Heap) (locs : List Loc) (ls : Array Slot), va_P E.1 vwCl (wMo E a0 a1 a2 a3 a4 a5 a6 a7 ss bg3 kp ik pt st tx ln asd att dn td fo nb) H → va_S A s.heap H locs → lv_has ls 2 [(1, .int v2), (0, .ref a0)] → gl2 S_rec1 nF v2 bg3 = some res → W p l e ({ frames := 0, cells := 0, slots := 0, locals := 0 } : Room) s m args below meth c H locs 0 0 Q (F0 m 2 ls []) := by
    intro nF
    induction nF with
    | zero => intro v2 bg3 H locs ls hP hS hl h; exact gl2_z h
    | succ nF ih_rec1 =>
      intro v2 bg3 H locs ls hP hS hl h
      replace hD : va_D A (wMo E a0 a1 a2 a3 a4 a5 a6 a7 ss bg3 kp ik pt st tx ln asd att dn td fo nb) := gD_same hD rfl
      replace h : S_rec1 (gl2 S_rec1 nF) v2 bg3 = some res := h
      generalize gl2 S_rec1 nF = rec1 at h ih_rec1
      subst hS_rec1
      unfold sX7_begins_rec1 at h
      refine lv_iload_n hx hb dX7_begins_2 rfl (lv_at hl 0 rfl) ?_
      refine lv_sipush (v := (599 : Int32)) hx hb dX7_begins_3 (by decide) ?_
      refine lv_icmp_ge (tgt := 27) hx hb dX7_begins_6 (by decide) (fun hc4 => ?_) (fun hc4 => ?_)
      · replace h := g_it hc4 h
        exact hret bg3 _ _ _ _ (Option.some.inj h) hP hS dX7_begins_27
      · replace h := g_if hc4 h
        refine lv_aload_n hx hb dX7_begins_9 rfl (lv_at hl 1 rfl) ?_
        refine va_get (D := E.1) (cl := vwCl) (ci := 7) (v := .ref a2) (C := RX7) (T := TX7) (N := 14) hx hb hts hiX7 hown hK hP 0 rfl rfl 1 (by decide) hw0 (fun _ h9 => h9) rfl dX7_begins_10 ?_
        refine lv_iload_n hx hb dX7_begins_13 rfl (lv_at hl 0 rfl) ?_
        refine lv_aload_n hx hb dX7_begins_14 rfl (lv_at hl 1 rfl) ?_
        refine va_get (D := E.1) (cl := vwCl) (ci := 7) (v := .ref a1) (C := RX7) (T := TX7) (N := 14) hx hb hts hiX7 hown hK hP 0 rfl rfl 0 (by decide) hw1 (fun _ h9 => h9) rfl dX7_begins_15 ?_
        refine lv_iload_n hx hb dX7_begins_18 rfl (lv_at hl 0 rfl) ?_
        obtain ⟨hg5, h⟩ := gd_s h
        refine va_iald (D := E.1) (cl := vwCl) (tys := gT E) hx hb hK hP 1 0 rfl rfl (inB_in hg5) dX7_begins_19 ?_
        refine va_iast (D := E.1) (cl := vwCl) (tys := gT E) hx hb hK hP hD hS 2 0 rfl rfl (inB_in hg5) dX7_begins_20 (fun H locs hP hD hS => ?_)
        obtain ⟨bg6, e_bg6⟩ : ∃ y : Nat → Int32, y = (upd bg3 (v2).toNatClampNeg (ss (v2).toNatClampNeg)) := ⟨_, rfl⟩
        replace h := jl_s e_bg6 h
        replace hP : va_P E.1 vwCl (wMo E a0 a1 a2 a3 a4 a5 a6 a7 ss bg6 kp ik pt st tx ln asd att dn td fo nb) H := (by rw [e_bg6]; exact hP)
        replace hD : va_D A (wMo E a0 a1 a2 a3 a4 a5 a6 a7 ss bg6 kp ik pt st tx ln asd att dn td fo nb) := gD_same hD rfl
        obtain ⟨v7, e_v7⟩ : ∃ y : Int32, y = (v2 + (1 : Int32)) := ⟨_, rfl⟩
        replace h := jl_s e_v7 h
        refine lv_iinc (v := v7) (lv' := [(1, .int v7), (0, .ref a0)]) hx hb dX7_begins_21 hl (k := 0) rfl (by rw [e_v7]; rfl) (by decide) rfl (fun ls hl => ?_)
        refine lv_goto (tgt := 2) hx hb dX7_begins_24 (by decide) ?_
        exact ih_rec1 v7 bg6 _ _ _ hP hS (lv_sub hl [0, 1] rfl) h
  exact hL_rec1 gFU (0 : Int32) bg _ _ _ hP hS (lv_sub hl [0, 1] rfl) h
set_option maxHeartbeats 4000000 in
set_option maxRecDepth 100000 in
theorem kX7_in (E : gE) (l : Launch)   (p1 : Int32) (p2 : Int32) (p3 : Int32) (res : Int32) (h : fX7_in  p1 p2 p3 = some res) : gMI E l yX7_in wsX7_in ({ frames := 0, cells := 0, slots := 0, locals := 0 } : Room) [.int p1, .int p2, .int p3] ([] : va_W) (fun res : Int32 => ([] : va_W)) (fun res => res) res := by
  refine g_entZ (cc := cX7_in) (maxL := 3) (by decide) rfl (Nat.le_of_ble_eq_true rfl) ?_
  intro p e s m args below meth c A Q ls hx hb hml hown hts hK hP hD hS hA hG hret hl
  unfold fX7_in at h
  replace hl : lv_has ls 3 [(0, .int p1), (1, .int p2), (2, .int p3)] := hl
  refine lv_iload_n hx hb dX7_in_0 rfl (lv_at hl 0 rfl) ?_
  refine lv_iload_n hx hb dX7_in_1 rfl (lv_at hl 1 rfl) ?_
  refine lv_icmp_lt (tgt := 14) hx hb dX7_in_2 (by decide) (fun hc1 => ?_) (fun hc1 => ?_)
  · replace h := g_it hc1 h
    refine lv_iconst (v := (0 : Int32)) hx hb dX7_in_14 (by decide) ?_
    exact hret (0 : Int32) _ _ _ _ _ (Option.some.inj h) hP hS rfl rfl dX7_in_15
  · replace h := g_if hc1 h
    refine lv_iload_n hx hb dX7_in_5 rfl (lv_at hl 0 rfl) ?_
    refine lv_iload_n hx hb dX7_in_6 rfl (lv_at hl 2 rfl) ?_
    refine lv_icmp_gt (tgt := 14) hx hb dX7_in_7 (by decide) (fun hc2 => ?_) (fun hc2 => ?_)
    · replace h := g_it hc2 h
      refine lv_iconst (v := (0 : Int32)) hx hb dX7_in_14 (by decide) ?_
      exact hret (0 : Int32) _ _ _ _ _ (Option.some.inj h) hP hS rfl rfl dX7_in_15
    · replace h := g_if hc2 h
      refine lv_iconst (v := (1 : Int32)) hx hb dX7_in_10 (by decide) ?_
      refine lv_goto (tgt := 15) hx hb dX7_in_11 (by decide) ?_
      exact hret (1 : Int32) _ _ _ _ _ (Option.some.inj h) hP hS rfl rfl dX7_in_15
set_option maxHeartbeats 4000000 in
set_option maxRecDepth 100000 in
theorem kX7_isStay (E : gE) (l : Launch) (a0 a1 a2 a3 a4 a5 a6 a7 : Nat) (ss : Nat → Int32) (bg : Nat → Int32) (kp : Nat → Int32) (ik : Int32) (pt : Nat → Int32) (st : Int32) (tx : Nat → Int32) (ln : Int32) (asd : Nat → Int32) (att : Int32) (dn : Int32) (td : Int32) (fo : Int32) (nb : Nat → Int32) (p1 : Int32) (p2 : Int32) (res : Int32) (h : fX7_isStay ss p1 p2 = some res) : gMI E l yX7_isStay wsX7_isStay ({ frames := 1, cells := 0, slots := 0, locals := 22 } : Room) [.ref a0, .int p1, .int p2] (wMo E a0 a1 a2 a3 a4 a5 a6 a7 ss bg kp ik pt st tx ln asd att dn td fo nb) (fun res : Int32 => (wMo E a0 a1 a2 a3 a4 a5 a6 a7 ss bg kp ik pt st tx ln asd att dn td fo nb)) (fun res => res) res := by
  refine g_entZ (cc := cX7_isStay) (maxL := 3) (by decide) rfl (Nat.le_of_ble_eq_true rfl) ?_
  intro p e s m args below meth c A Q ls hx hb hml hown hts hK hP hD hS hA hG hret hl
  unfold fX7_isStay at h
  replace hl : lv_has ls 3 [(0, .ref a0), (1, .int p1), (2, .int p2)] := hl
  have hiX7 : ∀ w ∈ wsX70, w ∈ wsX7_isStay := by decide +kernel
  have hw0 := hts (.fieldLink RX7 7 "GlacierHutModel" "s" "[I") (by decide +kernel)
  refine lv_iload_n hx hb dX7_isStay_0 rfl (lv_at hl 1 rfl) ?_
  refine lv_aload_n hx hb dX7_isStay_1 rfl (lv_at hl 0 rfl) ?_
  refine va_get (D := E.1) (cl := vwCl) (ci := 7) (v := .ref a1) (C := RX7) (T := TX7) (N := 14) hx hb hts hiX7 hown hK hP 0 rfl rfl 0 (by decide) hw0 (fun _ h9 => h9) rfl dX7_isStay_2 ?_
  refine lv_iconst (v := (0 : Int32)) hx hb dX7_isStay_5 (by decide) ?_
  obtain ⟨hg1, h⟩ := gd_s h
  refine va_iald (D := E.1) (cl := vwCl) (tys := gT E) hx hb hK hP 1 0 rfl rfl (inB_in hg1) dX7_isStay_6 ?_
  refine lv_sipush (v := (365 : Int32)) hx hb dX7_isStay_7 (by decide) ?_
  obtain ⟨r2, hc3, h⟩ := bd1_s h
  refine g_callSi (As := [.int p1, .int (ss ((0 : Int32)).toNatClampNeg), .int (365 : Int32)]) (rest := []) (r := r2) ⟨hx, hb, hml, hown, hts⟩ (kX7_in E l p1 (ss ((0 : Int32)).toNatClampNeg) (365 : Int32) r2 hc3) (va_cwS 3 hts gX7_isStay_X7_in rfl rfl rfl (by decide +kernel) ⟨Nat.le_of_ble_eq_true rfl, Nat.le_of_ble_eq_true rfl⟩) hK hP hD hS hA hG hl rfl rfl rfl (Nat.le_of_ble_eq_true rfl) dX7_isStay_10 (Nat.zero_le _) (Nat.zero_le _) (fun H locs hP hD hS => ?_)
  refine lv_if_eq (tgt := 30) hx hb dX7_isStay_13 (by decide) (fun hc4 => ?_) (fun hc4 => ?_)
  · replace h := g_it hc4 h
    refine lv_iconst (v := (0 : Int32)) hx hb dX7_isStay_30 (by decide) ?_
    exact hret (0 : Int32) _ _ _ _ _ (Option.some.inj h) hP hS rfl rfl dX7_isStay_31
  · replace h := g_if hc4 h
    refine lv_iload_n hx hb dX7_isStay_16 rfl (lv_at hl 2 rfl) ?_
    refine lv_iconst (v := (1 : Int32)) hx hb dX7_isStay_17 (by decide) ?_
    refine lv_bipush (v := (9 : Int32)) hx hb dX7_isStay_18 (by decide) ?_
    obtain ⟨r5, hc6, h⟩ := bd1_s h
    refine g_callSi (As := [.int p2, .int (1 : Int32), .int (9 : Int32)]) (rest := []) (r := r5) ⟨hx, hb, hml, hown, hts⟩ (kX7_in E l p2 (1 : Int32) (9 : Int32) r5 hc6) (va_cwS 3 hts gX7_isStay_X7_in rfl rfl rfl (by decide +kernel) ⟨Nat.le_of_ble_eq_true rfl, Nat.le_of_ble_eq_true rfl⟩) hK hP hD hS hA hG hl rfl rfl rfl (Nat.le_of_ble_eq_true rfl) dX7_isStay_20 (Nat.zero_le _) (Nat.zero_le _) (fun H locs hP hD hS => ?_)
    refine lv_if_eq (tgt := 30) hx hb dX7_isStay_23 (by decide) (fun hc7 => ?_) (fun hc7 => ?_)
    · replace h := g_it hc7 h
      refine lv_iconst (v := (0 : Int32)) hx hb dX7_isStay_30 (by decide) ?_
      exact hret (0 : Int32) _ _ _ _ _ (Option.some.inj h) hP hS rfl rfl dX7_isStay_31
    · replace h := g_if hc7 h
      refine lv_iconst (v := (1 : Int32)) hx hb dX7_isStay_26 (by decide) ?_
      refine lv_goto (tgt := 31) hx hb dX7_isStay_27 (by decide) ?_
      exact hret (1 : Int32) _ _ _ _ _ (Option.some.inj h) hP hS rfl rfl dX7_isStay_31
set_option maxHeartbeats 4000000 in
set_option maxRecDepth 100000 in
theorem kX7_partiesOf (E : gE) (l : Launch) (a0 a1 a2 a3 a4 a5 a6 a7 : Nat) (ss : Nat → Int32) (bg : Nat → Int32) (kp : Nat → Int32) (ik : Int32) (pt : Nat → Int32) (st : Int32) (tx : Nat → Int32) (ln : Int32) (asd : Nat → Int32) (att : Int32) (dn : Int32) (td : Int32) (fo : Int32) (nb : Nat → Int32) (p1 : Int32) (res : Int32) (h : fX7_partiesOf ss p1 = some res) : gMI E l yX7_partiesOf wsX7_partiesOf ({ frames := 1, cells := 0, slots := 0, locals := 22 } : Room) [.ref a0, .int p1] (wMo E a0 a1 a2 a3 a4 a5 a6 a7 ss bg kp ik pt st tx ln asd att dn td fo nb) (fun res : Int32 => (wMo E a0 a1 a2 a3 a4 a5 a6 a7 ss bg kp ik pt st tx ln asd att dn td fo nb)) (fun res => res) res := by
  refine g_entI (cc := cX7_partiesOf) (maxL := 4) (by decide) rfl (Nat.le_of_ble_eq_true rfl) ?_
  intro p e s m args below meth c A Q ls hx hb hml hown hts hK hP hD hS hA hG hret hl
  unfold fX7_partiesOf at h
  replace hl : lv_has ls 4 [(0, .ref a0), (1, .int p1)] := hl
  have hiX7 : ∀ w ∈ wsX70, w ∈ wsX7_partiesOf := by decide +kernel
  have hw0 := hts (.fieldLink RX7 7 "GlacierHutModel" "s" "[I") (by decide +kernel)
  refine lv_iconst (v := (0 : Int32)) hx hb dX7_partiesOf_0 (by decide) ?_
  refine lv_istore_n (lv' := [(2, .int (0 : Int32)), (0, .ref a0), (1, .int p1)]) hx hb dX7_partiesOf_1 rfl hl (by decide) rfl (fun ls hl => ?_)
  refine lv_iconst (v := (0 : Int32)) hx hb dX7_partiesOf_2 (by decide) ?_
  refine lv_istore_n (lv' := [(3, .int (0 : Int32)), (2, .int (0 : Int32)), (0, .ref a0), (1, .int p1)]) hx hb dX7_partiesOf_3 rfl hl (by decide) rfl (fun ls hl => ?_)
  refine gl2_e h (fun S_rec1 hS_rec1 h => ?_)
  have hL_rec1 : ∀ (nF : Nat) (v2 : Int32) (v3 : Int32) (H : Heap) (locs : List Loc) (ls : Array Slot), va_P E.1 vwCl (wMo E a0 a1 a2 a3 a4 a5 a6 a7 ss bg kp ik pt st tx ln asd att dn td fo nb) H → va_S A s.heap H locs → lv_has ls 4 [(3, .int v2), (2, .int v3), (0, .ref a0), (1, .int p1)] → gl2 S_rec1 nF v2 v3 = some res → W p l e ({ frames := 1, cells := 0, slots := 0, locals := 22 } : Room) s m args below meth c H locs 0 0 Q (F0 m 4 ls []) := by
    intro nF
    induction nF with
    | zero => intro v2 v3 H locs ls hP hS hl h; exact gl2_z h
    | succ nF ih_rec1 =>
      intro v2 v3 H locs ls hP hS hl h
      replace hD : va_D A (wMo E a0 a1 a2 a3 a4 a5 a6 a7 ss bg kp ik pt st tx ln asd att dn td fo nb) := gD_same hD rfl
      replace h : S_rec1 (gl2 S_rec1 nF) v2 v3 = some res := h
      generalize gl2 S_rec1 nF = rec1 at h ih_rec1
      subst hS_rec1
      unfold sX7_partiesOf_rec1 at h
      refine lv_iload_n hx hb dX7_partiesOf_4 rfl (lv_at hl 0 rfl) ?_
      refine lv_aload_n hx hb dX7_partiesOf_5 rfl (lv_at hl 2 rfl) ?_
      refine va_get (D := E.1) (cl := vwCl) (ci := 7) (v := .ref a1) (C := RX7) (T := TX7) (N := 14) hx hb hts hiX7 hown hK hP 0 rfl rfl 0 (by decide) hw0 (fun _ h9 => h9) rfl dX7_partiesOf_6 ?_
      refine lv_iconst (v := (4 : Int32)) hx hb dX7_partiesOf_9 (by decide) ?_
      obtain ⟨hg4, h⟩ := gd_s h
      refine va_iald (D := E.1) (cl := vwCl) (tys := gT E) hx hb hK hP 1 0 rfl rfl (inB_in hg4) dX7_partiesOf_10 ?_
      refine lv_icmp_ge (tgt := 38) hx hb dX7_partiesOf_11 (by decide) (fun hc5 => ?_) (fun hc5 => ?_)
      · replace h := g_it hc5 h
        refine lv_iload_n hx hb dX7_partiesOf_38 rfl (lv_at hl 1 rfl) ?_
        exact hret v3 _ _ _ _ _ (Option.some.inj h) hP hS rfl dX7_partiesOf_39
      · replace h := g_if hc5 h
        refine lv_iload_n hx hb dX7_partiesOf_14 rfl (lv_at hl 1 rfl) ?_
        refine lv_aload_n hx hb dX7_partiesOf_15 rfl (lv_at hl 2 rfl) ?_
        refine lv_iload_n hx hb dX7_partiesOf_16 rfl (lv_at hl 0 rfl) ?_
        refine lv_iconst (v := (3 : Int32)) hx hb dX7_partiesOf_17 (by decide) ?_
        obtain ⟨r6, hc7, h⟩ := bd1_s h
        refine g_callRi (As := [.int v2, .int (3 : Int32)]) (rest := [.int v3]) (r := r6) ⟨hx, hb, hml, hown, hts⟩ (kX7_ofParty E l a0 a1 a2 a3 a4 a5 a6 a7 ss bg kp ik pt st tx ln asd att dn td fo nb v2 (3 : Int32) r6 hc7) (cwV 2 hts gX7_partiesOf_X7_ofParty rfl rfl rfl (by decide +kernel) ⟨Nat.le_of_ble_eq_true rfl, Nat.le_of_ble_eq_true rfl⟩) hK hP hD hS hA hG hl [0, 1, 2, 3, 4, 5, 6, 7] 0 (by decide) rfl (ci := 7) rfl rfl rfl rfl rfl rfl rfl (Nat.le_of_ble_eq_true rfl) dX7_partiesOf_18 (Nat.zero_le _) (Nat.zero_le _) (fun H locs hP hD hS => ?_)
        refine lv_iload_n hx hb dX7_partiesOf_21 rfl (lv_at hl 3 rfl) ?_
        refine lv_icmp_ne (tgt := 29) hx hb dX7_partiesOf_22 (by decide) (fun hc8 => ?_) (fun hc8 => ?_)
        · replace h := g_if hc8 h
          refine lv_iconst (v := (0 : Int32)) hx hb dX7_partiesOf_29 (by decide) ?_
          refine lv_iadd hx hb dX7_partiesOf_30 ?_
          refine lv_topi (fun v9 e_v9 => ?_)
          replace h := jl_s e_v9 h
          refine lv_istore_n (lv' := [(2, .int v9), (3, .int v2), (0, .ref a0), (1, .int p1)]) hx hb dX7_partiesOf_31 rfl hl (by decide) rfl (fun ls hl => ?_)
          obtain ⟨v10, e_v10⟩ : ∃ y : Int32, y = (v2 + (1 : Int32)) := ⟨_, rfl⟩
          replace h := jl_s e_v10 h
          refine lv_iinc (v := v10) (lv' := [(3, .int v10), (2, .int v9), (0, .ref a0), (1, .int p1)]) hx hb dX7_partiesOf_32 hl (k := 1) rfl (by rw [e_v10]; rfl) (by decide) rfl (fun ls hl => ?_)
          refine lv_goto (tgt := 4) hx hb dX7_partiesOf_35 (by decide) ?_
          exact ih_rec1 v10 v9 _ _ _ hP hS (lv_sub hl [0, 1, 2, 3] rfl) h
        · replace h := g_it hc8 h
          refine lv_iconst (v := (1 : Int32)) hx hb dX7_partiesOf_25 (by decide) ?_
          refine lv_goto (tgt := 30) hx hb dX7_partiesOf_26 (by decide) ?_
          refine lv_iadd hx hb dX7_partiesOf_30 ?_
          refine lv_topi (fun v11 e_v11 => ?_)
          replace h := jl_s e_v11 h
          refine lv_istore_n (lv' := [(2, .int v11), (3, .int v2), (0, .ref a0), (1, .int p1)]) hx hb dX7_partiesOf_31 rfl hl (by decide) rfl (fun ls hl => ?_)
          obtain ⟨v12, e_v12⟩ : ∃ y : Int32, y = (v2 + (1 : Int32)) := ⟨_, rfl⟩
          replace h := jl_s e_v12 h
          refine lv_iinc (v := v12) (lv' := [(3, .int v12), (2, .int v11), (0, .ref a0), (1, .int p1)]) hx hb dX7_partiesOf_32 hl (k := 1) rfl (by rw [e_v12]; rfl) (by decide) rfl (fun ls hl => ?_)
          refine lv_goto (tgt := 4) hx hb dX7_partiesOf_35 (by decide) ?_
          exact ih_rec1 v12 v11 _ _ _ hP hS (lv_sub hl [0, 1, 2, 3] rfl) h
  exact hL_rec1 gFU (0 : Int32) (0 : Int32) _ _ _ hP hS (lv_sub hl [0, 1, 2, 3] rfl) h
set_option maxHeartbeats 4000000 in
set_option maxRecDepth 100000 in
theorem kX7_isAny (E : gE) (l : Launch) (a0 a1 a2 a3 a4 a5 a6 a7 : Nat) (ss : Nat → Int32) (bg : Nat → Int32) (kp : Nat → Int32) (ik : Int32) (pt : Nat → Int32) (st : Int32) (tx : Nat → Int32) (ln : Int32) (asd : Nat → Int32) (att : Int32) (dn : Int32) (td : Int32) (fo : Int32) (nb : Nat → Int32)  (res : Int32) (h : fX7_isAny ss  = some res) : gMI E l yX7_isAny wsX7_isAny ({ frames := 2, cells := 0, slots := 0, locals := 45 } : Room) [.ref a0] (wMo E a0 a1 a2 a3 a4 a5 a6 a7 ss bg kp ik pt st tx ln asd att dn td fo nb) (fun res : Int32 => (wMo E a0 a1 a2 a3 a4 a5 a6 a7 ss bg kp ik pt st tx ln asd att dn td fo nb)) (fun res => res) res := by
  refine g_entZ (cc := cX7_isAny) (maxL := 1) (by decide) rfl (Nat.le_of_ble_eq_true rfl) ?_
  intro p e s m args below meth c A Q ls hx hb hml hown hts hK hP hD hS hA hG hret hl
  unfold fX7_isAny at h
  replace hl : lv_has ls 1 [(0, .ref a0)] := hl
  refine lv_aload_n hx hb dX7_isAny_0 rfl (lv_at hl 0 rfl) ?_
  refine lv_iconst (v := (0 : Int32)) hx hb dX7_isAny_1 (by decide) ?_
  obtain ⟨r1, hc2, h⟩ := bd1_s h
  refine g_callRi (As := [.int (0 : Int32)]) (rest := []) (r := r1) ⟨hx, hb, hml, hown, hts⟩ (kX7_partiesOf E l a0 a1 a2 a3 a4 a5 a6 a7 ss bg kp ik pt st tx ln asd att dn td fo nb (0 : Int32) r1 hc2) (cwV 1 hts gX7_isAny_X7_partiesOf rfl rfl rfl (by decide +kernel) ⟨Nat.le_of_ble_eq_true rfl, Nat.le_of_ble_eq_true rfl⟩) hK hP hD hS hA hG hl [0, 1, 2, 3, 4, 5, 6, 7] 0 (by decide) rfl (ci := 7) rfl rfl rfl rfl rfl rfl rfl (Nat.le_of_ble_eq_true rfl) dX7_isAny_2 (Nat.zero_le _) (Nat.zero_le _) (fun H locs hP hD hS => ?_)
  refine lv_aload_n hx hb dX7_isAny_5 rfl (lv_at hl 0 rfl) ?_
  refine lv_iconst (v := (1 : Int32)) hx hb dX7_isAny_6 (by decide) ?_
  obtain ⟨r3, hc4, h⟩ := bd1_s h
  refine g_callRi (As := [.int (1 : Int32)]) (rest := [.int r1]) (r := r3) ⟨hx, hb, hml, hown, hts⟩ (kX7_partiesOf E l a0 a1 a2 a3 a4 a5 a6 a7 ss bg kp ik pt st tx ln asd att dn td fo nb (1 : Int32) r3 hc4) (cwV 1 hts gX7_isAny_X7_partiesOf rfl rfl rfl (by decide +kernel) ⟨Nat.le_of_ble_eq_true rfl, Nat.le_of_ble_eq_true rfl⟩) hK hP hD hS hA hG hl [0, 1, 2, 3, 4, 5, 6, 7] 0 (by decide) rfl (ci := 7) rfl rfl rfl rfl rfl rfl rfl (Nat.le_of_ble_eq_true rfl) dX7_isAny_7 (Nat.zero_le _) (Nat.zero_le _) (fun H locs hP hD hS => ?_)
  refine lv_iadd hx hb dX7_isAny_10 ?_
  refine lv_if_le (tgt := 18) hx hb dX7_isAny_11 (by decide) (fun hc5 => ?_) (fun hc5 => ?_)
  · replace h := g_it hc5 h
    refine lv_iconst (v := (0 : Int32)) hx hb dX7_isAny_18 (by decide) ?_
    exact hret (0 : Int32) _ _ _ _ _ (Option.some.inj h) hP hS rfl rfl dX7_isAny_19
  · replace h := g_if hc5 h
    refine lv_iconst (v := (1 : Int32)) hx hb dX7_isAny_14 (by decide) ?_
    refine lv_goto (tgt := 19) hx hb dX7_isAny_15 (by decide) ?_
    exact hret (1 : Int32) _ _ _ _ _ (Option.some.inj h) hP hS rfl rfl dX7_isAny_19
set_option maxHeartbeats 4000000 in
set_option maxRecDepth 100000 in
theorem kX7_leave (E : gE) (l : Launch) (a0 a1 a2 a3 a4 a5 a6 a7 : Nat) (ss : Nat → Int32) (bg : Nat → Int32) (kp : Nat → Int32) (ik : Int32) (pt : Nat → Int32) (st : Int32) (tx : Nat → Int32) (ln : Int32) (asd : Nat → Int32) (att : Int32) (dn : Int32) (td : Int32) (fo : Int32) (nb : Nat → Int32)  (res : (Nat → Int32)) (h : fX7_leave ss  = some res) : gMV E l yX7_leave wsX7_leave ({ frames := 1, cells := 0, slots := 0, locals := 23 } : Room) [.ref a0] (wMo E a0 a1 a2 a3 a4 a5 a6 a7 ss bg kp ik pt st tx ln asd att dn td fo nb) (fun res : (Nat → Int32) => (wMo E a0 a1 a2 a3 a4 a5 a6 a7 res bg kp ik pt st tx ln asd att dn td fo nb)) res := by
  refine g_entV (cc := cX7_leave) (maxL := 2) (by decide) rfl (Nat.le_of_ble_eq_true rfl) ?_
  intro p e s m args below meth c A Q ls hx hb hml hown hts hK hP hD hS hA hG hret hl
  unfold fX7_leave at h
  replace hl : lv_has ls 2 [(0, .ref a0)] := hl
  have hiX7 : ∀ w ∈ wsX70, w ∈ wsX7_leave := by decide +kernel
  have hw0 := hts (.fieldLink RX7 7 "GlacierHutModel" "s" "[I") (by decide +kernel)
  refine lv_iconst (v := (0 : Int32)) hx hb dX7_leave_0 (by decide) ?_
  refine lv_istore_n (lv' := [(1, .int (0 : Int32)), (0, .ref a0)]) hx hb dX7_leave_1 rfl hl (by decide) rfl (fun ls hl => ?_)
  refine gl2_e h (fun S_rec1 hS_rec1 h => ?_)
  have hL_rec1 : ∀ (nF : Nat) (v2 : Int32) (ss3 : Nat → Int32) (H : Heap) (locs : List Loc) (ls : Array Slot), va_P E.1 vwCl (wMo E a0 a1 a2 a3 a4 a5 a6 a7 ss3 bg kp ik pt st tx ln asd att dn td fo nb) H → va_S A s.heap H locs → lv_has ls 2 [(1, .int v2), (0, .ref a0)] → gl2 S_rec1 nF v2 ss3 = some res → W p l e ({ frames := 1, cells := 0, slots := 0, locals := 23 } : Room) s m args below meth c H locs 0 0 Q (F0 m 2 ls []) := by
    intro nF
    induction nF with
    | zero => intro v2 ss3 H locs ls hP hS hl h; exact gl2_z h
    | succ nF ih_rec1 =>
      intro v2 ss3 H locs ls hP hS hl h
      replace hD : va_D A (wMo E a0 a1 a2 a3 a4 a5 a6 a7 ss3 bg kp ik pt st tx ln asd att dn td fo nb) := gD_same hD rfl
      replace h : S_rec1 (gl2 S_rec1 nF) v2 ss3 = some res := h
      generalize gl2 S_rec1 nF = rec1 at h ih_rec1
      subst hS_rec1
      unfold sX7_leave_rec1 at h
      refine lv_iload_n hx hb dX7_leave_2 rfl (lv_at hl 0 rfl) ?_
      refine lv_aload_n hx hb dX7_leave_3 rfl (lv_at hl 1 rfl) ?_
      refine va_get (D := E.1) (cl := vwCl) (ci := 7) (v := .ref a1) (C := RX7) (T := TX7) (N := 14) hx hb hts hiX7 hown hK hP 0 rfl rfl 0 (by decide) hw0 (fun _ h9 => h9) rfl dX7_leave_4 ?_
      refine lv_iconst (v := (4 : Int32)) hx hb dX7_leave_7 (by decide) ?_
      obtain ⟨hg4, h⟩ := gd_s h
      refine va_iald (D := E.1) (cl := vwCl) (tys := gT E) hx hb hK hP 1 0 rfl rfl (inB_in hg4) dX7_leave_8 ?_
      refine lv_icmp_ge (tgt := 50) hx hb dX7_leave_9 (by decide) (fun hc5 => ?_) (fun hc5 => ?_)
      · replace h := g_it hc5 h
        exact hret ss3 _ _ _ _ (Option.some.inj h) hP hS dX7_leave_50
      · replace h := g_if hc5 h
        refine lv_aload_n hx hb dX7_leave_12 rfl (lv_at hl 1 rfl) ?_
        refine lv_iload_n hx hb dX7_leave_13 rfl (lv_at hl 0 rfl) ?_
        refine lv_iconst (v := (3 : Int32)) hx hb dX7_leave_14 (by decide) ?_
        obtain ⟨r6, hc7, h⟩ := bd1_s h
        refine g_callRi (As := [.int v2, .int (3 : Int32)]) (rest := []) (r := r6) ⟨hx, hb, hml, hown, hts⟩ (kX7_ofParty E l a0 a1 a2 a3 a4 a5 a6 a7 ss3 bg kp ik pt st tx ln asd att dn td fo nb v2 (3 : Int32) r6 hc7) (cwV 2 hts gX7_leave_X7_ofParty rfl rfl rfl (by decide +kernel) ⟨Nat.le_of_ble_eq_true rfl, Nat.le_of_ble_eq_true rfl⟩) hK hP hD hS hA hG hl [0, 1, 2, 3, 4, 5, 6, 7] 0 (by decide) rfl (ci := 7) rfl rfl rfl rfl rfl rfl rfl (Nat.le_of_ble_eq_true rfl) dX7_leave_15 (Nat.zero_le _) (Nat.zero_le _) (fun H locs hP hD hS => ?_)
        refine lv_iconst (v := (1 : Int32)) hx hb dX7_leave_18 (by decide) ?_
        refine lv_icmp_ne (tgt := 44) hx hb dX7_leave_19 (by decide) (fun hc8 => ?_) (fun hc8 => ?_)
        · replace h := g_if hc8 h
          obtain ⟨v9, e_v9⟩ : ∃ y : Int32, y = (v2 + (1 : Int32)) := ⟨_, rfl⟩
          replace h := jl_s e_v9 h
          refine lv_iinc (v := v9) (lv' := [(1, .int v9), (0, .ref a0)]) hx hb dX7_leave_44 hl (k := 0) rfl (by rw [e_v9]; rfl) (by decide) rfl (fun ls hl => ?_)
          refine lv_goto (tgt := 2) hx hb dX7_leave_47 (by decide) ?_
          exact ih_rec1 v9 ss3 _ _ _ hP hS (lv_sub hl [0, 1] rfl) h
        · replace h := g_it hc8 h
          refine lv_aload_n hx hb dX7_leave_22 rfl (lv_at hl 1 rfl) ?_
          refine lv_iload_n hx hb dX7_leave_23 rfl (lv_at hl 0 rfl) ?_
          refine lv_iconst (v := (4 : Int32)) hx hb dX7_leave_24 (by decide) ?_
          obtain ⟨r10, hc11, h⟩ := bd1_s h
          refine g_callRi (As := [.int v2, .int (4 : Int32)]) (rest := []) (r := r10) ⟨hx, hb, hml, hown, hts⟩ (kX7_ofParty E l a0 a1 a2 a3 a4 a5 a6 a7 ss3 bg kp ik pt st tx ln asd att dn td fo nb v2 (4 : Int32) r10 hc11) (cwV 2 hts gX7_leave_X7_ofParty rfl rfl rfl (by decide +kernel) ⟨Nat.le_of_ble_eq_true rfl, Nat.le_of_ble_eq_true rfl⟩) hK hP hD hS hA hG hl [0, 1, 2, 3, 4, 5, 6, 7] 0 (by decide) rfl (ci := 7) rfl rfl rfl rfl rfl rfl rfl (Nat.le_of_ble_eq_true rfl) dX7_leave_25 (Nat.zero_le _) (Nat.zero_le _) (fun H locs hP hD hS => ?_)
          refine lv_aload_n hx hb dX7_leave_28 rfl (lv_at hl 1 rfl) ?_
          refine lv_iload_n hx hb dX7_leave_29 rfl (lv_at hl 0 rfl) ?_
          refine lv_iconst (v := (2 : Int32)) hx hb dX7_leave_30 (by decide) ?_
          obtain ⟨r12, hc13, h⟩ := bd1_s h
          refine g_callRi (As := [.int v2, .int (2 : Int32)]) (rest := [.int r10]) (r := r12) ⟨hx, hb, hml, hown, hts⟩ (kX7_ofParty E l a0 a1 a2 a3 a4 a5 a6 a7 ss3 bg kp ik pt st tx ln asd att dn td fo nb v2 (2 : Int32) r12 hc13) (cwV 2 hts gX7_leave_X7_ofParty rfl rfl rfl (by decide +kernel) ⟨Nat.le_of_ble_eq_true rfl, Nat.le_of_ble_eq_true rfl⟩) hK hP hD hS hA hG hl [0, 1, 2, 3, 4, 5, 6, 7] 0 (by decide) rfl (ci := 7) rfl rfl rfl rfl rfl rfl rfl (Nat.le_of_ble_eq_true rfl) dX7_leave_31 (Nat.zero_le _) (Nat.zero_le _) (fun H locs hP hD hS => ?_)
          refine lv_icmp_lt (tgt := 44) hx hb dX7_leave_34 (by decide) (fun hc14 => ?_) (fun hc14 => ?_)
          · replace h := g_it hc14 h
            obtain ⟨v15, e_v15⟩ : ∃ y : Int32, y = (v2 + (1 : Int32)) := ⟨_, rfl⟩
            replace h := jl_s e_v15 h
            refine lv_iinc (v := v15) (lv' := [(1, .int v15), (0, .ref a0)]) hx hb dX7_leave_44 hl (k := 0) rfl (by rw [e_v15]; rfl) (by decide) rfl (fun ls hl => ?_)
            refine lv_goto (tgt := 2) hx hb dX7_leave_47 (by decide) ?_
            exact ih_rec1 v15 ss3 _ _ _ hP hS (lv_sub hl [0, 1] rfl) h
          · replace h := g_if hc14 h
            refine lv_aload_n hx hb dX7_leave_37 rfl (lv_at hl 1 rfl) ?_
            refine lv_iload_n hx hb dX7_leave_38 rfl (lv_at hl 0 rfl) ?_
            refine lv_iconst (v := (3 : Int32)) hx hb dX7_leave_39 (by decide) ?_
            refine lv_iconst (v := (2 : Int32)) hx hb dX7_leave_40 (by decide) ?_
            obtain ⟨ss16, hc17, h⟩ := bd1_s h
            refine g_callVv (As := [.int v2, .int (3 : Int32), .int (2 : Int32)]) (rest := []) (ws1 := (wMo E a0 a1 a2 a3 a4 a5 a6 a7 ss16 bg kp ik pt st tx ln asd att dn td fo nb)) ⟨hx, hb, hml, hown, hts⟩ (kX7_setParty E l a0 a1 a2 a3 a4 a5 a6 a7 ss3 bg kp ik pt st tx ln asd att dn td fo nb v2 (3 : Int32) (2 : Int32) ss16 hc17) (cwV 3 hts gX7_leave_X7_setParty rfl rfl rfl (by decide +kernel) ⟨Nat.le_of_ble_eq_true rfl, Nat.le_of_ble_eq_true rfl⟩) hK hP hD hS hA hG hl [0, 1, 2, 3, 4, 5, 6, 7] 0 (by decide) rfl (ci := 7) rfl rfl rfl rfl rfl rfl rfl rfl (Nat.le_of_ble_eq_true rfl) dX7_leave_41 (Nat.zero_le _) (Nat.zero_le _) (fun H locs hP hD hS => ?_)
            obtain ⟨v18, e_v18⟩ : ∃ y : Int32, y = (v2 + (1 : Int32)) := ⟨_, rfl⟩
            replace h := jl_s e_v18 h
            refine lv_iinc (v := v18) (lv' := [(1, .int v18), (0, .ref a0)]) hx hb dX7_leave_44 hl (k := 0) rfl (by rw [e_v18]; rfl) (by decide) rfl (fun ls hl => ?_)
            refine lv_goto (tgt := 2) hx hb dX7_leave_47 (by decide) ?_
            exact ih_rec1 v18 ss16 _ _ _ hP hS (lv_sub hl [0, 1] rfl) h
  exact hL_rec1 gFU (0 : Int32) ss _ _ _ hP hS (lv_sub hl [0, 1] rfl) h
set_option maxHeartbeats 4000000 in
set_option maxRecDepth 100000 in
theorem kX7_ofLot (E : gE) (l : Launch) (a0 a1 a2 a3 a4 a5 a6 a7 : Nat) (ss : Nat → Int32) (bg : Nat → Int32) (kp : Nat → Int32) (ik : Int32) (pt : Nat → Int32) (st : Int32) (tx : Nat → Int32) (ln : Int32) (asd : Nat → Int32) (att : Int32) (dn : Int32) (td : Int32) (fo : Int32) (nb : Nat → Int32) (p1 : Int32) (p2 : Int32) (res : Int32) (h : fX7_ofLot ss p1 p2 = some res) : gMI E l yX7_ofLot wsX7_ofLot ({ frames := 0, cells := 0, slots := 0, locals := 0 } : Room) [.ref a0, .int p1, .int p2] (wMo E a0 a1 a2 a3 a4 a5 a6 a7 ss bg kp ik pt st tx ln asd att dn td fo nb) (fun res : Int32 => (wMo E a0 a1 a2 a3 a4 a5 a6 a7 ss bg kp ik pt st tx ln asd att dn td fo nb)) (fun res => res) res := by
  refine g_entI (cc := cX7_ofLot) (maxL := 3) (by decide) rfl (Nat.le_of_ble_eq_true rfl) ?_
  intro p e s m args below meth c A Q ls hx hb hml hown hts hK hP hD hS hA hG hret hl
  unfold fX7_ofLot at h
  replace hl : lv_has ls 3 [(0, .ref a0), (1, .int p1), (2, .int p2)] := hl
  have hiX7 : ∀ w ∈ wsX70, w ∈ wsX7_ofLot := by decide +kernel
  have hw0 := hts (.fieldLink RX7 7 "GlacierHutModel" "s" "[I") (by decide +kernel)
  refine lv_aload_n hx hb dX7_ofLot_0 rfl (lv_at hl 0 rfl) ?_
  refine va_get (D := E.1) (cl := vwCl) (ci := 7) (v := .ref a1) (C := RX7) (T := TX7) (N := 14) hx hb hts hiX7 hown hK hP 0 rfl rfl 0 (by decide) hw0 (fun _ h9 => h9) rfl dX7_ofLot_1 ?_
  refine lv_bipush (v := (41 : Int32)) hx hb dX7_ofLot_4 (by decide) ?_
  refine lv_iconst (v := (3 : Int32)) hx hb dX7_ofLot_6 (by decide) ?_
  refine lv_iload_n hx hb dX7_ofLot_7 rfl (lv_at hl 1 rfl) ?_
  refine lv_imul hx hb dX7_ofLot_8 ?_
  refine lv_iadd hx hb dX7_ofLot_9 ?_
  refine lv_iload_n hx hb dX7_ofLot_10 rfl (lv_at hl 2 rfl) ?_
  refine lv_iadd hx hb dX7_ofLot_11 ?_
  obtain ⟨hg1, h⟩ := gd_s h
  refine va_iald (D := E.1) (cl := vwCl) (tys := gT E) hx hb hK hP 1 0 rfl rfl (inB_in hg1) dX7_ofLot_12 ?_
  exact hret (ss ((((41 : Int32) + ((3 : Int32) * p1)) + p2)).toNatClampNeg) _ _ _ _ _ (Option.some.inj h) hP hS rfl dX7_ofLot_13
