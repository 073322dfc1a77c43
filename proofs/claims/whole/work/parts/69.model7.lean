set_option maxHeartbeats 4000000 in
set_option maxRecDepth 100000 in
theorem kX7_type (E : gE) (l : Launch) (a0 a1 a2 a3 a4 a5 a6 a7 : Nat) (ss : Nat → Int32) (bg : Nat → Int32) (kp : Nat → Int32) (ik : Int32) (pt : Nat → Int32) (st : Int32) (tx : Nat → Int32) (ln : Int32) (asd : Nat → Int32) (att : Int32) (dn : Int32) (td : Int32) (fo : Int32) (nb : Nat → Int32) (p1 : Int32) (res : Int32 × (Nat → Int32) × Int32) (h : fX7_type tx ln p1 = some res) : gMI E l yX7_type wsX7_type ({ frames := 1, cells := 0, slots := 0, locals := 22 } : Room) [.ref a0, .int p1] (wMo E a0 a1 a2 a3 a4 a5 a6 a7 ss bg kp ik pt st tx ln asd att dn td fo nb) (fun res : Int32 × (Nat → Int32) × Int32 => (wMo E a0 a1 a2 a3 a4 a5 a6 a7 ss bg kp ik pt st res.2.1 res.2.2 asd att dn td fo nb)) (fun res => res.1) res := by
  refine g_entI (cc := cX7_type) (maxL := 2) (by decide) rfl (Nat.le_of_ble_eq_true rfl) ?_
  intro p e s m args below meth c A Q ls hx hb hml hown hts hK hP hD hS hA hG hret hl
  unfold fX7_type at h
  replace hl : lv_has ls 2 [(0, .ref a0), (1, .int p1)] := hl
  have hiX7 : ∀ w ∈ wsX70, w ∈ wsX7_type := by decide +kernel
  have hw0 := hts (.fieldLink RX7 153 "GlacierHutModel" "length" "I") (by decide +kernel)
  have hw1 := hts (.fieldLink RX7 22 "GlacierHutModel" "text" "[I") (by decide +kernel)
  refine lv_iload_n hx hb dX7_type_0 rfl (lv_at hl 1 rfl) ?_
  refine lv_bipush (v := (32 : Int32)) hx hb dX7_type_1 (by decide) ?_
  refine lv_bipush (v := (126 : Int32)) hx hb dX7_type_3 (by decide) ?_
  obtain ⟨r1, hc2, h⟩ := bd1_s h
  refine g_callSi (As := [.int p1, .int (32 : Int32), .int (126 : Int32)]) (rest := []) (r := r1) ⟨hx, hb, hml, hown, hts⟩ (kX7_in E l p1 (32 : Int32) (126 : Int32) r1 hc2) (va_cwS 3 hts gX7_type_X7_in rfl rfl rfl (by decide +kernel) ⟨Nat.le_of_ble_eq_true rfl, Nat.le_of_ble_eq_true rfl⟩) hK hP hD hS hA hG hl rfl rfl rfl (Nat.le_of_ble_eq_true rfl) dX7_type_5 (Nat.zero_le _) (Nat.zero_le _) (fun H locs hP hD hS => ?_)
  refine lv_if_ne (tgt := 13) hx hb dX7_type_8 (by decide) (fun hc3 => ?_) (fun hc3 => ?_)
  · replace h := g_if hc3 h
    refine lv_aload_n hx hb dX7_type_13 rfl (lv_at hl 0 rfl) ?_
    refine va_get (D := E.1) (cl := vwCl) (ci := 7) (v := .int ln) (C := RX7) (T := TX7) (N := 14) hx hb hts hiX7 hown hK hP 0 rfl rfl 7 (by decide) hw0 (fun _ h9 => h9) rfl dX7_type_14 ?_
    refine lv_bipush (v := (60 : Int32)) hx hb dX7_type_17 (by decide) ?_
    refine lv_icmp_ne (tgt := 25) hx hb dX7_type_19 (by decide) (fun hc4 => ?_) (fun hc4 => ?_)
    · replace h := g_if hc4 h
      refine lv_aload_n hx hb dX7_type_25 rfl (lv_at hl 0 rfl) ?_
      refine va_get (D := E.1) (cl := vwCl) (ci := 7) (v := .ref a5) (C := RX7) (T := TX7) (N := 14) hx hb hts hiX7 hown hK hP 0 rfl rfl 6 (by decide) hw1 (fun _ h9 => h9) rfl dX7_type_26 ?_
      refine lv_aload_n hx hb dX7_type_29 rfl (lv_at hl 0 rfl) ?_
      refine va_get (D := E.1) (cl := vwCl) (ci := 7) (v := .int ln) (C := RX7) (T := TX7) (N := 14) hx hb hts hiX7 hown hK hP 0 rfl rfl 7 (by decide) hw0 (fun _ h9 => h9) rfl dX7_type_30 ?_
      refine lv_iload_n hx hb dX7_type_33 rfl (lv_at hl 1 rfl) ?_
      obtain ⟨hg5, h⟩ := gd_s h
      refine va_iast (D := E.1) (cl := vwCl) (tys := gT E) hx hb hK hP hD hS 5 0 rfl rfl (inB_in hg5) dX7_type_34 (fun H locs hP hD hS => ?_)
      obtain ⟨tx6, e_tx6⟩ : ∃ y : Nat → Int32, y = (upd tx (ln).toNatClampNeg p1) := ⟨_, rfl⟩
      replace h := jl_s e_tx6 h
      replace hP : va_P E.1 vwCl (wMo E a0 a1 a2 a3 a4 a5 a6 a7 ss bg kp ik pt st tx6 ln asd att dn td fo nb) H := (by rw [e_tx6]; exact hP)
      replace hD : va_D A (wMo E a0 a1 a2 a3 a4 a5 a6 a7 ss bg kp ik pt st tx6 ln asd att dn td fo nb) := gD_same hD rfl
      refine lv_aload_n hx hb dX7_type_35 rfl (lv_at hl 0 rfl) ?_
      refine lv_dup hx hb dX7_type_36 rfl ?_
      refine va_get (D := E.1) (cl := vwCl) (ci := 7) (v := .int ln) (C := RX7) (T := TX7) (N := 14) hx hb hts hiX7 hown hK hP 0 rfl rfl 7 (by decide) hw0 (fun _ h9 => h9) rfl dX7_type_37 ?_
      refine lv_iconst (v := (1 : Int32)) hx hb dX7_type_40 (by decide) ?_
      refine lv_iadd hx hb dX7_type_41 ?_
      refine lv_topi (fun v7 e_v7 => ?_)
      replace h := jl_s e_v7 h
      refine va_put (D := E.1) (cl := vwCl) (ci := 7) (v := .int v7) (ty := .int) (C := RX7) (T := TX7) (N := 14) hx hb hts hiX7 tyX7 tyX7_ok nmX7 hown hK hP hD hS 0 rfl rfl 7 (by decide) hw0 (fun _ h9 => h9) rfl (by decide +kernel) rfl rfl (Nat.le_of_ble_eq_true rfl) dX7_type_42 (fun H locs hP hD hS => ?_)
      replace hP : va_P E.1 vwCl (wMo E a0 a1 a2 a3 a4 a5 a6 a7 ss bg kp ik pt st tx6 v7 asd att dn td fo nb) H := hP
      replace hD : va_D A (wMo E a0 a1 a2 a3 a4 a5 a6 a7 ss bg kp ik pt st tx6 v7 asd att dn td fo nb) := hD
      refine lv_aload_n hx hb dX7_type_45 rfl (lv_at hl 0 rfl) ?_
      refine va_get (D := E.1) (cl := vwCl) (ci := 7) (v := .int v7) (C := RX7) (T := TX7) (N := 14) hx hb hts hiX7 hown hK hP 0 rfl rfl 7 (by decide) hw0 (fun _ h9 => h9) rfl dX7_type_46 ?_
      exact hret (v7, tx6, v7) _ _ _ _ _ (Option.some.inj h) hP hS rfl dX7_type_49
    · replace h := g_it hc4 h
      refine lv_bipush (v := (-3 : Int32)) hx hb dX7_type_22 (by decide) ?_
      exact hret ((-3 : Int32), tx, ln) _ _ _ _ _ (Option.some.inj h) hP hS rfl dX7_type_24
  · replace h := g_it hc3 h
    refine lv_iconst (v := (-1 : Int32)) hx hb dX7_type_11 (by decide) ?_
    exact hret ((-1 : Int32), tx, ln) _ _ _ _ _ (Option.some.inj h) hP hS rfl dX7_type_12
set_option maxHeartbeats 4000000 in
set_option maxRecDepth 100000 in
theorem kX7_undo (E : gE) (l : Launch) (a0 a1 a2 a3 a4 a5 a6 a7 : Nat) (ss : Nat → Int32) (bg : Nat → Int32) (kp : Nat → Int32) (ik : Int32) (pt : Nat → Int32) (st : Int32) (tx : Nat → Int32) (ln : Int32) (asd : Nat → Int32) (att : Int32) (dn : Int32) (td : Int32) (fo : Int32) (nb : Nat → Int32)  (res : Int32 × (Nat → Int32) × Int32) (h : fX7_undo ss pt st  = some res) : gMI E l yX7_undo wsX7_undo ({ frames := 0, cells := 0, slots := 0, locals := 0 } : Room) [.ref a0] (wMo E a0 a1 a2 a3 a4 a5 a6 a7 ss bg kp ik pt st tx ln asd att dn td fo nb) (fun res : Int32 × (Nat → Int32) × Int32 => (wMo E a0 a1 a2 a3 a4 a5 a6 a7 res.2.1 bg kp ik pt res.2.2 tx ln asd att dn td fo nb)) (fun res => res.1) res := by
  refine g_entI (cc := cX7_undo) (maxL := 2) (by decide) rfl (Nat.le_of_ble_eq_true rfl) ?_
  intro p e s m args below meth c A Q ls hx hb hml hown hts hK hP hD hS hA hG hret hl
  unfold fX7_undo at h
  replace hl : lv_has ls 2 [(0, .ref a0)] := hl
  have hiX7 : ∀ w ∈ wsX70, w ∈ wsX7_undo := by decide +kernel
  have hw0 := hts (.fieldLink RX7 34 "GlacierHutModel" "states" "I") (by decide +kernel)
  have hw1 := hts (.fieldLink RX7 7 "GlacierHutModel" "s" "[I") (by decide +kernel)
  have hw2 := hts (.fieldLink RX7 19 "GlacierHutModel" "past" "[I") (by decide +kernel)
  refine lv_aload_n hx hb dX7_undo_0 rfl (lv_at hl 0 rfl) ?_
  refine va_get (D := E.1) (cl := vwCl) (ci := 7) (v := .int st) (C := RX7) (T := TX7) (N := 14) hx hb hts hiX7 hown hK hP 0 rfl rfl 5 (by decide) hw0 (fun _ h9 => h9) rfl dX7_undo_1 ?_
  refine lv_if_ne (tgt := 10) hx hb dX7_undo_4 (by decide) (fun hc1 => ?_) (fun hc1 => ?_)
  · replace h := g_if hc1 h
    refine lv_aload_n hx hb dX7_undo_10 rfl (lv_at hl 0 rfl) ?_
    refine lv_dup hx hb dX7_undo_11 rfl ?_
    refine va_get (D := E.1) (cl := vwCl) (ci := 7) (v := .int st) (C := RX7) (T := TX7) (N := 14) hx hb hts hiX7 hown hK hP 0 rfl rfl 5 (by decide) hw0 (fun _ h9 => h9) rfl dX7_undo_12 ?_
    refine lv_iconst (v := (1 : Int32)) hx hb dX7_undo_15 (by decide) ?_
    refine lv_isub hx hb dX7_undo_16 ?_
    refine lv_topi (fun v2 e_v2 => ?_)
    replace h := jl_s e_v2 h
    refine va_put (D := E.1) (cl := vwCl) (ci := 7) (v := .int v2) (ty := .int) (C := RX7) (T := TX7) (N := 14) hx hb hts hiX7 tyX7 tyX7_ok nmX7 hown hK hP hD hS 0 rfl rfl 5 (by decide) hw0 (fun _ h9 => h9) rfl (by decide +kernel) rfl rfl (Nat.le_of_ble_eq_true rfl) dX7_undo_17 (fun H locs hP hD hS => ?_)
    replace hP : va_P E.1 vwCl (wMo E a0 a1 a2 a3 a4 a5 a6 a7 ss bg kp ik pt v2 tx ln asd att dn td fo nb) H := hP
    replace hD : va_D A (wMo E a0 a1 a2 a3 a4 a5 a6 a7 ss bg kp ik pt v2 tx ln asd att dn td fo nb) := hD
    refine lv_iconst (v := (0 : Int32)) hx hb dX7_undo_20 (by decide) ?_
    refine lv_istore_n (lv' := [(1, .int (0 : Int32)), (0, .ref a0)]) hx hb dX7_undo_21 rfl hl (by decide) rfl (fun ls hl => ?_)
    refine gl2_e h (fun S_rec3 hS_rec3 h => ?_)
    have hL_rec3 : ∀ (nF : Nat) (v4 : Int32) (ss5 : Nat → Int32) (H : Heap) (locs : List Loc) (ls : Array Slot), va_P E.1 vwCl (wMo E a0 a1 a2 a3 a4 a5 a6 a7 ss5 bg kp ik pt v2 tx ln asd att dn td fo nb) H → va_S A s.heap H locs → lv_has ls 2 [(1, .int v4), (0, .ref a0)] → gl2 S_rec3 nF v4 ss5 = some res → W p l e ({ frames := 0, cells := 0, slots := 0, locals := 0 } : Room) s m args below meth c H locs 0 0 Q (F0 m 22 ls []) := by
      intro nF
      induction nF with
      | zero => intro v4 ss5 H locs ls hP hS hl h; exact gl2_z h
      | succ nF ih_rec3 =>
        intro v4 ss5 H locs ls hP hS hl h
        replace hD : va_D A (wMo E a0 a1 a2 a3 a4 a5 a6 a7 ss5 bg kp ik pt v2 tx ln asd att dn td fo nb) := gD_same hD rfl
        replace h : S_rec3 (gl2 S_rec3 nF) v4 ss5 = some res := h
        generalize gl2 S_rec3 nF = rec3 at h ih_rec3
        subst hS_rec3
        unfold sX7_undo_rec3 at h
        refine lv_iload_n hx hb dX7_undo_22 rfl (lv_at hl 0 rfl) ?_
        refine lv_sipush (v := (599 : Int32)) hx hb dX7_undo_23 (by decide) ?_
        refine lv_icmp_ge (tgt := 56) hx hb dX7_undo_26 (by decide) (fun hc6 => ?_) (fun hc6 => ?_)
        · replace h := g_it hc6 h
          refine lv_aload_n hx hb dX7_undo_56 rfl (lv_at hl 1 rfl) ?_
          refine va_get (D := E.1) (cl := vwCl) (ci := 7) (v := .int v2) (C := RX7) (T := TX7) (N := 14) hx hb hts hiX7 hown hK hP 0 rfl rfl 5 (by decide) hw0 (fun _ h9 => h9) rfl dX7_undo_57 ?_
          exact hret (v2, ss5, v2) _ _ _ _ _ (Option.some.inj h) hP hS rfl dX7_undo_60
        · replace h := g_if hc6 h
          refine lv_aload_n hx hb dX7_undo_29 rfl (lv_at hl 1 rfl) ?_
          refine va_get (D := E.1) (cl := vwCl) (ci := 7) (v := .ref a1) (C := RX7) (T := TX7) (N := 14) hx hb hts hiX7 hown hK hP 0 rfl rfl 0 (by decide) hw1 (fun _ h9 => h9) rfl dX7_undo_30 ?_
          refine lv_iload_n hx hb dX7_undo_33 rfl (lv_at hl 0 rfl) ?_
          refine lv_aload_n hx hb dX7_undo_34 rfl (lv_at hl 1 rfl) ?_
          refine va_get (D := E.1) (cl := vwCl) (ci := 7) (v := .ref a4) (C := RX7) (T := TX7) (N := 14) hx hb hts hiX7 hown hK hP 0 rfl rfl 4 (by decide) hw2 (fun _ h9 => h9) rfl dX7_undo_35 ?_
          refine lv_sipush (v := (599 : Int32)) hx hb dX7_undo_38 (by decide) ?_
          refine lv_aload_n hx hb dX7_undo_41 rfl (lv_at hl 1 rfl) ?_
          refine va_get (D := E.1) (cl := vwCl) (ci := 7) (v := .int v2) (C := RX7) (T := TX7) (N := 14) hx hb hts hiX7 hown hK hP 0 rfl rfl 5 (by decide) hw0 (fun _ h9 => h9) rfl dX7_undo_42 ?_
          refine lv_imul hx hb dX7_undo_45 ?_
          refine lv_iload_n hx hb dX7_undo_46 rfl (lv_at hl 0 rfl) ?_
          refine lv_iadd hx hb dX7_undo_47 ?_
          obtain ⟨hg7, h⟩ := gd_s h
          refine va_iald (D := E.1) (cl := vwCl) (tys := gT E) hx hb hK hP 4 0 rfl rfl (inB_in hg7) dX7_undo_48 ?_
          obtain ⟨hg8, h⟩ := gd_s h
          refine va_iast (D := E.1) (cl := vwCl) (tys := gT E) hx hb hK hP hD hS 1 0 rfl rfl (inB_in hg8) dX7_undo_49 (fun H locs hP hD hS => ?_)
          obtain ⟨ss9, e_ss9⟩ : ∃ y : Nat → Int32, y = (upd ss5 (v4).toNatClampNeg (pt ((((599 : Int32) * v2) + v4)).toNatClampNeg)) := ⟨_, rfl⟩
          replace h := jl_s e_ss9 h
          replace hP : va_P E.1 vwCl (wMo E a0 a1 a2 a3 a4 a5 a6 a7 ss9 bg kp ik pt v2 tx ln asd att dn td fo nb) H := (by rw [e_ss9]; exact hP)
          replace hD : va_D A (wMo E a0 a1 a2 a3 a4 a5 a6 a7 ss9 bg kp ik pt v2 tx ln asd att dn td fo nb) := gD_same hD rfl
          obtain ⟨v10, e_v10⟩ : ∃ y : Int32, y = (v4 + (1 : Int32)) := ⟨_, rfl⟩
          replace h := jl_s e_v10 h
          refine lv_iinc (v := v10) (lv' := [(1, .int v10), (0, .ref a0)]) hx hb dX7_undo_50 hl (k := 0) rfl (by rw [e_v10]; rfl) (by decide) rfl (fun ls hl => ?_)
          refine lv_goto (tgt := 22) hx hb dX7_undo_53 (by decide) ?_
          exact ih_rec3 v10 ss9 _ _ _ hP hS (lv_sub hl [0, 1] rfl) h
    exact hL_rec3 gFU (0 : Int32) ss _ _ _ hP hS (lv_sub hl [0, 1] rfl) h
  · replace h := g_it hc1 h
    refine lv_bipush (v := (-2 : Int32)) hx hb dX7_undo_7 (by decide) ?_
    exact hret ((-2 : Int32), ss, st) _ _ _ _ _ (Option.some.inj h) hP hS rfl dX7_undo_9
