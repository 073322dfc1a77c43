set_option maxHeartbeats 4000000 in
set_option maxRecDepth 100000 in
theorem kX7_loadedOf (E : gE) (l : Launch) (a0 a1 a2 a3 a4 a5 a6 a7 : Nat) (ss : Nat → Int32) (bg : Nat → Int32) (kp : Nat → Int32) (ik : Int32) (pt : Nat → Int32) (st : Int32) (tx : Nat → Int32) (ln : Int32) (asd : Nat → Int32) (att : Int32) (dn : Int32) (td : Int32) (fo : Int32) (nb : Nat → Int32) (p1 : Int32) (res : Int32) (h : fX7_loadedOf ss p1 = some res) : gMI E l yX7_loadedOf wsX7_loadedOf ({ frames := 0, cells := 0, slots := 0, locals := 0 } : Room) [.ref a0, .int p1] (wMo E a0 a1 a2 a3 a4 a5 a6 a7 ss bg kp ik pt st tx ln asd att dn td fo nb) (fun res : Int32 => (wMo E a0 a1 a2 a3 a4 a5 a6 a7 ss bg kp ik pt st tx ln asd att dn td fo nb)) (fun res => res) res := by
  refine g_entI (cc := cX7_loadedOf) (maxL := 4) (by decide) rfl (Nat.le_of_ble_eq_true rfl) ?_
  intro p e s m args below meth c A Q ls hx hb hml hown hts hK hP hD hS hA hG hret hl
  unfold fX7_loadedOf at h
  replace hl : lv_has ls 4 [(0, .ref a0), (1, .int p1)] := hl
  have hiX7 : ∀ w ∈ wsX70, w ∈ wsX7_loadedOf := by decide +kernel
  have hw0 := hts (.fieldLink RX7 7 "GlacierHutModel" "s" "[I") (by decide +kernel)
  refine lv_iconst (v := (0 : Int32)) hx hb dX7_loadedOf_0 (by decide) ?_
  refine lv_istore_n (lv' := [(2, .int (0 : Int32)), (0, .ref a0), (1, .int p1)]) hx hb dX7_loadedOf_1 rfl hl (by decide) rfl (fun ls hl => ?_)
  refine lv_iconst (v := (0 : Int32)) hx hb dX7_loadedOf_2 (by decide) ?_
  refine lv_istore_n (lv' := [(3, .int (0 : Int32)), (2, .int (0 : Int32)), (0, .ref a0), (1, .int p1)]) hx hb dX7_loadedOf_3 rfl hl (by decide) rfl (fun ls hl => ?_)
  refine gl2_e h (fun S_rec1 hS_rec1 h => ?_)
  have hL_rec1 : ∀ (nF : Nat) (v2 : Int32) (v3 : Int32) (H : Heap) (locs : List Loc) (ls : Array Slot), va_P E.1 vwCl (wMo E a0 a1 a2 a3 a4 a5 a6 a7 ss bg kp ik pt st tx ln asd att dn td fo nb) H → va_S A s.heap H locs → lv_has ls 4 [(3, .int v2), (2, .int v3), (0, .ref a0), (1, .int p1)] → gl2 S_rec1 nF v2 v3 = some res → W p l e ({ frames := 0, cells := 0, slots := 0, locals := 0 } : Room) s m args below meth c H locs 0 0 Q (F0 m 4 ls []) := by
    intro nF
    induction nF with
    | zero => intro v2 v3 H locs ls hP hS hl h; exact gl2_z h
    | succ nF ih_rec1 =>
      intro v2 v3 H locs ls hP hS hl h
      replace hD : va_D A (wMo E a0 a1 a2 a3 a4 a5 a6 a7 ss bg kp ik pt st tx ln asd att dn td fo nb) := gD_same hD rfl
      replace h : S_rec1 (gl2 S_rec1 nF) v2 v3 = some res := h
      generalize gl2 S_rec1 nF = rec1 at h ih_rec1
      subst hS_rec1
      unfold sX7_loadedOf_rec1 at h
      refine lv_iload_n hx hb dX7_loadedOf_4 rfl (lv_at hl 0 rfl) ?_
      refine lv_aload_n hx hb dX7_loadedOf_5 rfl (lv_at hl 2 rfl) ?_
      refine va_get (D := E.1) (cl := vwCl) (ci := 7) (v := .ref a1) (C := RX7) (T := TX7) (N := 14) hx hb hts hiX7 hown hK hP 0 rfl rfl 0 (by decide) hw0 (fun _ h9 => h9) rfl dX7_loadedOf_6 ?_
      refine lv_iconst (v := (3 : Int32)) hx hb dX7_loadedOf_9 (by decide) ?_
      obtain ⟨hg4, h⟩ := gd_s h
      refine va_iald (D := E.1) (cl := vwCl) (tys := gT E) hx hb hK hP 1 0 rfl rfl (inB_in hg4) dX7_loadedOf_10 ?_
      refine lv_icmp_ge (tgt := 55) hx hb dX7_loadedOf_11 (by decide) (fun hc5 => ?_) (fun hc5 => ?_)
      · replace h := g_it hc5 h
        refine lv_iload_n hx hb dX7_loadedOf_55 rfl (lv_at hl 1 rfl) ?_
        exact hret v3 _ _ _ _ _ (Option.some.inj h) hP hS rfl dX7_loadedOf_56
      · replace h := g_if hc5 h
        refine lv_iload_n hx hb dX7_loadedOf_14 rfl (lv_at hl 1 rfl) ?_
        refine lv_aload_n hx hb dX7_loadedOf_15 rfl (lv_at hl 2 rfl) ?_
        refine va_get (D := E.1) (cl := vwCl) (ci := 7) (v := .ref a1) (C := RX7) (T := TX7) (N := 14) hx hb hts hiX7 hown hK hP 0 rfl rfl 0 (by decide) hw0 (fun _ h9 => h9) rfl dX7_loadedOf_16 ?_
        refine lv_bipush (v := (23 : Int32)) hx hb dX7_loadedOf_19 (by decide) ?_
        refine lv_iconst (v := (3 : Int32)) hx hb dX7_loadedOf_21 (by decide) ?_
        refine lv_iload_n hx hb dX7_loadedOf_22 rfl (lv_at hl 0 rfl) ?_
        refine lv_imul hx hb dX7_loadedOf_23 ?_
        refine lv_iadd hx hb dX7_loadedOf_24 ?_
        obtain ⟨hg6, h⟩ := gd_s h
        refine va_iald (D := E.1) (cl := vwCl) (tys := gT E) hx hb hK hP 1 0 rfl rfl (inB_in hg6) dX7_loadedOf_25 ?_
        refine lv_iload_n hx hb dX7_loadedOf_26 rfl (lv_at hl 3 rfl) ?_
        refine lv_icmp_ne (tgt := 46) hx hb dX7_loadedOf_27 (by decide) (fun hc7 => ?_) (fun hc7 => ?_)
        · replace h := g_if hc7 h
          refine lv_iconst (v := (0 : Int32)) hx hb dX7_loadedOf_46 (by decide) ?_
          refine lv_iadd hx hb dX7_loadedOf_47 ?_
          refine lv_topi (fun v8 e_v8 => ?_)
          replace h := jl_s e_v8 h
          refine lv_istore_n (lv' := [(2, .int v8), (3, .int v2), (0, .ref a0), (1, .int p1)]) hx hb dX7_loadedOf_48 rfl hl (by decide) rfl (fun ls hl => ?_)
          obtain ⟨v9, e_v9⟩ : ∃ y : Int32, y = (v2 + (1 : Int32)) := ⟨_, rfl⟩
          replace h := jl_s e_v9 h
          refine lv_iinc (v := v9) (lv' := [(3, .int v9), (2, .int v8), (0, .ref a0), (1, .int p1)]) hx hb dX7_loadedOf_49 hl (k := 1) rfl (by rw [e_v9]; rfl) (by decide) rfl (fun ls hl => ?_)
          refine lv_goto (tgt := 4) hx hb dX7_loadedOf_52 (by decide) ?_
          exact ih_rec1 v9 v8 _ _ _ hP hS (lv_sub hl [0, 1, 2, 3] rfl) h
        · replace h := g_it hc7 h
          refine lv_aload_n hx hb dX7_loadedOf_30 rfl (lv_at hl 2 rfl) ?_
          refine va_get (D := E.1) (cl := vwCl) (ci := 7) (v := .ref a1) (C := RX7) (T := TX7) (N := 14) hx hb hts hiX7 hown hK hP 0 rfl rfl 0 (by decide) hw0 (fun _ h9 => h9) rfl dX7_loadedOf_31 ?_
          refine lv_bipush (v := (23 : Int32)) hx hb dX7_loadedOf_34 (by decide) ?_
          refine lv_iconst (v := (3 : Int32)) hx hb dX7_loadedOf_36 (by decide) ?_
          refine lv_iload_n hx hb dX7_loadedOf_37 rfl (lv_at hl 0 rfl) ?_
          refine lv_imul hx hb dX7_loadedOf_38 ?_
          refine lv_iadd hx hb dX7_loadedOf_39 ?_
          refine lv_iconst (v := (1 : Int32)) hx hb dX7_loadedOf_40 (by decide) ?_
          refine lv_iadd hx hb dX7_loadedOf_41 ?_
          obtain ⟨hg10, h⟩ := gd_s h
          refine va_iald (D := E.1) (cl := vwCl) (tys := gT E) hx hb hK hP 1 0 rfl rfl (inB_in hg10) dX7_loadedOf_42 ?_
          refine lv_goto (tgt := 47) hx hb dX7_loadedOf_43 (by decide) ?_
          refine lv_iadd hx hb dX7_loadedOf_47 ?_
          refine lv_topi (fun v11 e_v11 => ?_)
          replace h := jl_s e_v11 h
          refine lv_istore_n (lv' := [(2, .int v11), (3, .int v2), (0, .ref a0), (1, .int p1)]) hx hb dX7_loadedOf_48 rfl hl (by decide) rfl (fun ls hl => ?_)
          obtain ⟨v12, e_v12⟩ : ∃ y : Int32, y = (v2 + (1 : Int32)) := ⟨_, rfl⟩
          replace h := jl_s e_v12 h
          refine lv_iinc (v := v12) (lv' := [(3, .int v12), (2, .int v11), (0, .ref a0), (1, .int p1)]) hx hb dX7_loadedOf_49 hl (k := 1) rfl (by rw [e_v12]; rfl) (by decide) rfl (fun ls hl => ?_)
          refine lv_goto (tgt := 4) hx hb dX7_loadedOf_52 (by decide) ?_
          exact ih_rec1 v12 v11 _ _ _ hP hS (lv_sub hl [0, 1, 2, 3] rfl) h
  exact hL_rec1 gFU (0 : Int32) (0 : Int32) _ _ _ hP hS (lv_sub hl [0, 1, 2, 3] rfl) h
set_option maxHeartbeats 4000000 in
set_option maxRecDepth 100000 in
theorem kX7_lotOf (E : gE) (l : Launch) (a0 a1 a2 a3 a4 a5 a6 a7 : Nat) (ss : Nat → Int32) (bg : Nat → Int32) (kp : Nat → Int32) (ik : Int32) (pt : Nat → Int32) (st : Int32) (tx : Nat → Int32) (ln : Int32) (asd : Nat → Int32) (att : Int32) (dn : Int32) (td : Int32) (fo : Int32) (nb : Nat → Int32) (p1 : Int32) (p2 : Int32) (p3 : Int32) (res : Int32) (h : fX7_lotOf ss p1 p2 p3 = some res) : gMI E l yX7_lotOf wsX7_lotOf ({ frames := 1, cells := 0, slots := 0, locals := 22 } : Room) [.ref a0, .int p1, .int p2, .int p3] (wMo E a0 a1 a2 a3 a4 a5 a6 a7 ss bg kp ik pt st tx ln asd att dn td fo nb) (fun res : Int32 => (wMo E a0 a1 a2 a3 a4 a5 a6 a7 ss bg kp ik pt st tx ln asd att dn td fo nb)) (fun res => res) res := by
  refine g_entI (cc := cX7_lotOf) (maxL := 7) (by decide) rfl (Nat.le_of_ble_eq_true rfl) ?_
  intro p e s m args below meth c A Q ls hx hb hml hown hts hK hP hD hS hA hG hret hl
  unfold fX7_lotOf at h
  replace hl : lv_has ls 7 [(0, .ref a0), (1, .int p1), (2, .int p2), (3, .int p3)] := hl
  have hiX7 : ∀ w ∈ wsX70, w ∈ wsX7_lotOf := by decide +kernel
  have hw0 := hts (.fieldLink RX7 7 "GlacierHutModel" "s" "[I") (by decide +kernel)
  refine lv_iload_n hx hb dX7_lotOf_0 rfl (lv_at hl 1 rfl) ?_
  refine lv_iconst (v := (0 : Int32)) hx hb dX7_lotOf_1 (by decide) ?_
  refine lv_iconst (v := (2 : Int32)) hx hb dX7_lotOf_2 (by decide) ?_
  obtain ⟨r1, hc2, h⟩ := bd1_s h
  refine g_callSi (As := [.int p1, .int (0 : Int32), .int (2 : Int32)]) (rest := []) (r := r1) ⟨hx, hb, hml, hown, hts⟩ (kX7_in E l p1 (0 : Int32) (2 : Int32) r1 hc2) (va_cwS 3 hts gX7_lotOf_X7_in rfl rfl rfl (by decide +kernel) ⟨Nat.le_of_ble_eq_true rfl, Nat.le_of_ble_eq_true rfl⟩) hK hP hD hS hA hG hl rfl rfl rfl (Nat.le_of_ble_eq_true rfl) dX7_lotOf_3 (Nat.zero_le _) (Nat.zero_le _) (fun H locs hP hD hS => ?_)
  refine lv_if_eq (tgt := 22) hx hb dX7_lotOf_6 (by decide) (fun hc3 => ?_) (fun hc3 => ?_)
  · replace h := g_it hc3 h
    refine lv_iconst (v := (-1 : Int32)) hx hb dX7_lotOf_22 (by decide) ?_
    exact hret (-1 : Int32) _ _ _ _ _ (Option.some.inj h) hP hS rfl dX7_lotOf_23
  · replace h := g_if hc3 h
    refine lv_iload_n hx hb dX7_lotOf_9 rfl (lv_at hl 2 rfl) ?_
    refine lv_if_lt (tgt := 22) hx hb dX7_lotOf_10 (by decide) (fun hc4 => ?_) (fun hc4 => ?_)
    · replace h := g_it hc4 h
      refine lv_iconst (v := (-1 : Int32)) hx hb dX7_lotOf_22 (by decide) ?_
      exact hret (-1 : Int32) _ _ _ _ _ (Option.some.inj h) hP hS rfl dX7_lotOf_23
    · replace h := g_if hc4 h
      refine lv_iload_n hx hb dX7_lotOf_13 rfl (lv_at hl 3 rfl) ?_
      refine lv_iconst (v := (0 : Int32)) hx hb dX7_lotOf_14 (by decide) ?_
      refine lv_iconst (v := (1 : Int32)) hx hb dX7_lotOf_15 (by decide) ?_
      obtain ⟨r5, hc6, h⟩ := bd1_s h
      refine g_callSi (As := [.int p3, .int (0 : Int32), .int (1 : Int32)]) (rest := []) (r := r5) ⟨hx, hb, hml, hown, hts⟩ (kX7_in E l p3 (0 : Int32) (1 : Int32) r5 hc6) (va_cwS 3 hts gX7_lotOf_X7_in rfl rfl rfl (by decide +kernel) ⟨Nat.le_of_ble_eq_true rfl, Nat.le_of_ble_eq_true rfl⟩) hK hP hD hS hA hG hl rfl rfl rfl (Nat.le_of_ble_eq_true rfl) dX7_lotOf_16 (Nat.zero_le _) (Nat.zero_le _) (fun H locs hP hD hS => ?_)
      refine lv_if_ne (tgt := 24) hx hb dX7_lotOf_19 (by decide) (fun hc7 => ?_) (fun hc7 => ?_)
      · replace h := g_if hc7 h
        refine lv_iload_n hx hb dX7_lotOf_24 rfl (lv_at hl 2 rfl) ?_
        refine lv_istore (lv' := [(4, .int p2), (0, .ref a0), (1, .int p1), (2, .int p2), (3, .int p3)]) hx hb dX7_lotOf_25 hl (by decide) rfl (fun ls hl => ?_)
        refine lv_iconst (v := (0 : Int32)) hx hb dX7_lotOf_27 (by decide) ?_
        refine lv_istore (lv' := [(5, .int (0 : Int32)), (4, .int p2), (0, .ref a0), (1, .int p1), (2, .int p2), (3, .int p3)]) hx hb dX7_lotOf_28 hl (by decide) rfl (fun ls hl => ?_)
        refine gl2_e h (fun S_rec8 hS_rec8 h => ?_)
        have hL_rec8 : ∀ (nF : Nat) (v9 : Int32) (v10 : Int32) (H : Heap) (locs : List Loc) (ls : Array Slot), va_P E.1 vwCl (wMo E a0 a1 a2 a3 a4 a5 a6 a7 ss bg kp ik pt st tx ln asd att dn td fo nb) H → va_S A s.heap H locs → lv_has ls 7 [(5, .int v9), (4, .int v10), (0, .ref a0), (1, .int p1), (3, .int p3)] → gl2 S_rec8 nF v9 v10 = some res → W p l e ({ frames := 1, cells := 0, slots := 0, locals := 22 } : Room) s m args below meth c H locs 0 0 Q (F0 m 30 ls []) := by
          intro nF
          induction nF with
          | zero => intro v9 v10 H locs ls hP hS hl h; exact gl2_z h
          | succ nF ih_rec8 =>
            intro v9 v10 H locs ls hP hS hl h
            replace hD : va_D A (wMo E a0 a1 a2 a3 a4 a5 a6 a7 ss bg kp ik pt st tx ln asd att dn td fo nb) := gD_same hD rfl
            replace h : S_rec8 (gl2 S_rec8 nF) v9 v10 = some res := h
            generalize gl2 S_rec8 nF = rec8 at h ih_rec8
            subst hS_rec8
            unfold sX7_lotOf_rec8 at h
            refine lv_iload hx hb dX7_lotOf_30 (lv_at hl 0 rfl) ?_
            refine lv_aload_n hx hb dX7_lotOf_32 rfl (lv_at hl 2 rfl) ?_
            refine va_get (D := E.1) (cl := vwCl) (ci := 7) (v := .ref a1) (C := RX7) (T := TX7) (N := 14) hx hb hts hiX7 hown hK hP 0 rfl rfl 0 (by decide) hw0 (fun _ h9 => h9) rfl dX7_lotOf_33 ?_
            refine lv_iconst (v := (2 : Int32)) hx hb dX7_lotOf_36 (by decide) ?_
            obtain ⟨hg11, h⟩ := gd_s h
            refine va_iald (D := E.1) (cl := vwCl) (tys := gT E) hx hb hK hP 1 0 rfl rfl (inB_in hg11) dX7_lotOf_37 ?_
            refine lv_icmp_ge (tgt := 100) hx hb dX7_lotOf_38 (by decide) (fun hc12 => ?_) (fun hc12 => ?_)
            · replace h := g_it hc12 h
              refine lv_bipush (v := (-4 : Int32)) hx hb dX7_lotOf_100 (by decide) ?_
              exact hret (-4 : Int32) _ _ _ _ _ (Option.some.inj h) hP hS rfl dX7_lotOf_102
            · replace h := g_if hc12 h
              refine lv_aload_n hx hb dX7_lotOf_41 rfl (lv_at hl 2 rfl) ?_
              refine lv_iload hx hb dX7_lotOf_42 (lv_at hl 0 rfl) ?_
              refine lv_iconst (v := (0 : Int32)) hx hb dX7_lotOf_44 (by decide) ?_
              obtain ⟨r13, hc14, h⟩ := bd1_s h
              refine g_callRi (As := [.int v9, .int (0 : Int32)]) (rest := []) (r := r13) ⟨hx, hb, hml, hown, hts⟩ (kX7_ofLot E l a0 a1 a2 a3 a4 a5 a6 a7 ss bg kp ik pt st tx ln asd att dn td fo nb v9 (0 : Int32) r13 hc14) (cwV 2 hts gX7_lotOf_X7_ofLot rfl rfl rfl (by decide +kernel) ⟨Nat.le_of_ble_eq_true rfl, Nat.le_of_ble_eq_true rfl⟩) hK hP hD hS hA hG hl [0, 1, 2, 3, 4, 5, 6, 7] 0 (by decide) rfl (ci := 7) rfl rfl rfl rfl rfl rfl rfl (Nat.le_of_ble_eq_true rfl) dX7_lotOf_45 (Nat.zero_le _) (Nat.zero_le _) (fun H locs hP hD hS => ?_)
              refine lv_iload_n hx hb dX7_lotOf_48 rfl (lv_at hl 3 rfl) ?_
              refine mrg_e h (fun J16 hK_J16 h => ?_)
              have hJ_J16 : ∀ (v17 : Int32) (H : Heap) (locs : List Loc) (ls : Array Slot), va_P E.1 vwCl (wMo E a0 a1 a2 a3 a4 a5 a6 a7 ss bg kp ik pt st tx ln asd att dn td fo nb) H → va_S A s.heap H locs → lv_has ls 7 [(5, .int v9), (4, .int v10), (0, .ref a0), (1, .int p1), (3, .int p3)] → J16 v17 = some res → W p l e ({ frames := 1, cells := 0, slots := 0, locals := 22 } : Room) s m args below meth c H locs 0 0 Q (F0 m 57 ls [.int v17]) := by
                intro v17 H locs ls hP hS hl h
                replace hD : va_D A (wMo E a0 a1 a2 a3 a4 a5 a6 a7 ss bg kp ik pt st tx ln asd att dn td fo nb) := gD_same hD rfl
                subst hK_J16
                refine lv_istore (lv' := [(6, .int v17), (5, .int v9), (4, .int v10), (0, .ref a0), (1, .int p1), (3, .int p3)]) hx hb dX7_lotOf_57 hl (by decide) rfl (fun ls hl => ?_)
                refine lv_iload hx hb dX7_lotOf_59 (lv_at hl 0 rfl) ?_
                refine mrg_e h (fun J19 hK_J19 h => ?_)
                have hJ_J19 : ∀ (_ : Unit) (H : Heap) (locs : List Loc) (ls : Array Slot), va_P E.1 vwCl (wMo E a0 a1 a2 a3 a4 a5 a6 a7 ss bg kp ik pt st tx ln asd att dn td fo nb) H → va_S A s.heap H locs → lv_has ls 7 [(6, .int v17), (5, .int v9), (4, .int v10), (0, .ref a0), (1, .int p1), (3, .int p3)] → J19 () = some res → W p l e ({ frames := 1, cells := 0, slots := 0, locals := 22 } : Room) s m args below meth c H locs 0 0 Q (F0 m 79 ls []) := by
                  intro _ H locs ls hP hS hl h
                  replace hD : va_D A (wMo E a0 a1 a2 a3 a4 a5 a6 a7 ss bg kp ik pt st tx ln asd att dn td fo nb) := gD_same hD rfl
                  subst hK_J19
                  refine lv_iload hx hb dX7_lotOf_79 (lv_at hl 2 rfl) ?_
                  refine lv_iload hx hb dX7_lotOf_81 (lv_at hl 0 rfl) ?_
                  refine lv_if_eq (tgt := 90) hx hb dX7_lotOf_83 (by decide) (fun hc23 => ?_) (fun hc23 => ?_)
                  · replace h := g_it hc23 h
                    refine lv_iconst (v := (0 : Int32)) hx hb dX7_lotOf_90 (by decide) ?_
                    refine lv_isub hx hb dX7_lotOf_91 ?_
                    refine lv_topi (fun v24 e_v24 => ?_)
                    replace h := jl_s e_v24 h
                    refine lv_istore (lv' := [(4, .int v24), (6, .int v17), (5, .int v9), (0, .ref a0), (1, .int p1), (3, .int p3)]) hx hb dX7_lotOf_92 hl (by decide) rfl (fun ls hl => ?_)
                    obtain ⟨v25, e_v25⟩ : ∃ y : Int32, y = (v9 + (1 : Int32)) := ⟨_, rfl⟩
                    replace h := jl_s e_v25 h
                    refine lv_iinc (v := v25) (lv' := [(5, .int v25), (4, .int v24), (6, .int v17), (0, .ref a0), (1, .int p1), (3, .int p3)]) hx hb dX7_lotOf_94 hl (k := 2) rfl (by rw [e_v25]; rfl) (by decide) rfl (fun ls hl => ?_)
                    refine lv_goto (tgt := 30) hx hb dX7_lotOf_97 (by decide) ?_
                    exact ih_rec8 v25 v24 _ _ _ hP hS (lv_sub hl [0, 1, 3, 4, 5] rfl) h
                  · replace h := g_if hc23 h
                    refine lv_iconst (v := (1 : Int32)) hx hb dX7_lotOf_86 (by decide) ?_
                    refine lv_goto (tgt := 91) hx hb dX7_lotOf_87 (by decide) ?_
                    refine lv_isub hx hb dX7_lotOf_91 ?_
                    refine lv_topi (fun v26 e_v26 => ?_)
                    replace h := jl_s e_v26 h
                    refine lv_istore (lv' := [(4, .int v26), (6, .int v17), (5, .int v9), (0, .ref a0), (1, .int p1), (3, .int p3)]) hx hb dX7_lotOf_92 hl (by decide) rfl (fun ls hl => ?_)
                    obtain ⟨v27, e_v27⟩ : ∃ y : Int32, y = (v9 + (1 : Int32)) := ⟨_, rfl⟩
                    replace h := jl_s e_v27 h
                    refine lv_iinc (v := v27) (lv' := [(5, .int v27), (4, .int v26), (6, .int v17), (0, .ref a0), (1, .int p1), (3, .int p3)]) hx hb dX7_lotOf_94 hl (k := 2) rfl (by rw [e_v27]; rfl) (by decide) rfl (fun ls hl => ?_)
                    refine lv_goto (tgt := 30) hx hb dX7_lotOf_97 (by decide) ?_
                    exact ih_rec8 v27 v26 _ _ _ hP hS (lv_sub hl [0, 1, 3, 4, 5] rfl) h
                refine lv_if_eq (tgt := 79) hx hb dX7_lotOf_61 (by decide) (fun hc18 => ?_) (fun hc18 => ?_)
                · replace h := g_it hc18 h
                  exact hJ_J19 () _ _ _ hP hS (lv_sub hl [0, 1, 2, 3, 4, 5] rfl) h
                · replace h := g_if hc18 h
                  refine lv_iload hx hb dX7_lotOf_64 (lv_at hl 2 rfl) ?_
                  refine lv_if_ne (tgt := 79) hx hb dX7_lotOf_66 (by decide) (fun hc20 => ?_) (fun hc20 => ?_)
                  · replace h := g_if hc20 h
                    exact hJ_J19 () _ _ _ hP hS (lv_sub hl [0, 1, 2, 3, 4, 5] rfl) h
                  · replace h := g_it hc20 h
                    refine lv_aload_n hx hb dX7_lotOf_69 rfl (lv_at hl 3 rfl) ?_
                    refine lv_iload hx hb dX7_lotOf_70 (lv_at hl 1 rfl) ?_
                    refine lv_iload_n hx hb dX7_lotOf_72 rfl (lv_at hl 5 rfl) ?_
                    refine lv_iconst (v := (1 : Int32)) hx hb dX7_lotOf_73 (by decide) ?_
                    refine lv_iadd hx hb dX7_lotOf_74 ?_
                    obtain ⟨r21, hc22, h⟩ := bd1_s h
                    refine g_callRi (As := [.int v9, .int (p3 + (1 : Int32))]) (rest := []) (r := r21) ⟨hx, hb, hml, hown, hts⟩ (kX7_ofLot E l a0 a1 a2 a3 a4 a5 a6 a7 ss bg kp ik pt st tx ln asd att dn td fo nb v9 (p3 + (1 : Int32)) r21 hc22) (cwV 2 hts gX7_lotOf_X7_ofLot rfl rfl rfl (by decide +kernel) ⟨Nat.le_of_ble_eq_true rfl, Nat.le_of_ble_eq_true rfl⟩) hK hP hD hS hA hG hl [0, 1, 2, 3, 4, 5, 6, 7] 0 (by decide) rfl (ci := 7) rfl rfl rfl rfl rfl rfl rfl (Nat.le_of_ble_eq_true rfl) dX7_lotOf_75 (Nat.zero_le _) (Nat.zero_le _) (fun H locs hP hD hS => ?_)
                    exact hret r21 _ _ _ _ _ (Option.some.inj h) hP hS rfl dX7_lotOf_78
              refine lv_icmp_ne (tgt := 56) hx hb dX7_lotOf_49 (by decide) (fun hc15 => ?_) (fun hc15 => ?_)
              · replace h := g_if hc15 h
                refine lv_iconst (v := (0 : Int32)) hx hb dX7_lotOf_56 (by decide) ?_
                exact hJ_J16 (0 : Int32) _ _ _ hP hS (lv_sub hl [0, 1, 2, 3, 4] rfl) h
              · replace h := g_it hc15 h
                refine lv_iconst (v := (1 : Int32)) hx hb dX7_lotOf_52 (by decide) ?_
                refine lv_goto (tgt := 57) hx hb dX7_lotOf_53 (by decide) ?_
                exact hJ_J16 (1 : Int32) _ _ _ hP hS (lv_sub hl [0, 1, 2, 3, 4] rfl) h
        exact hL_rec8 gFU (0 : Int32) p2 _ _ _ hP hS (lv_sub hl [0, 1, 2, 3, 5] rfl) h
      · replace h := g_it hc7 h
        refine lv_iconst (v := (-1 : Int32)) hx hb dX7_lotOf_22 (by decide) ?_
        exact hret (-1 : Int32) _ _ _ _ _ (Option.some.inj h) hP hS rfl dX7_lotOf_23
set_option maxHeartbeats 4000000 in
set_option maxRecDepth 100000 in
theorem kX7_lotsOf (E : gE) (l : Launch) (a0 a1 a2 a3 a4 a5 a6 a7 : Nat) (ss : Nat → Int32) (bg : Nat → Int32) (kp : Nat → Int32) (ik : Int32) (pt : Nat → Int32) (st : Int32) (tx : Nat → Int32) (ln : Int32) (asd : Nat → Int32) (att : Int32) (dn : Int32) (td : Int32) (fo : Int32) (nb : Nat → Int32) (p1 : Int32) (res : Int32) (h : fX7_lotsOf ss p1 = some res) : gMI E l yX7_lotsOf wsX7_lotsOf ({ frames := 1, cells := 0, slots := 0, locals := 22 } : Room) [.ref a0, .int p1] (wMo E a0 a1 a2 a3 a4 a5 a6 a7 ss bg kp ik pt st tx ln asd att dn td fo nb) (fun res : Int32 => (wMo E a0 a1 a2 a3 a4 a5 a6 a7 ss bg kp ik pt st tx ln asd att dn td fo nb)) (fun res => res) res := by
  refine g_entI (cc := cX7_lotsOf) (maxL := 4) (by decide) rfl (Nat.le_of_ble_eq_true rfl) ?_
  intro p e s m args below meth c A Q ls hx hb hml hown hts hK hP hD hS hA hG hret hl
  unfold fX7_lotsOf at h
  replace hl : lv_has ls 4 [(0, .ref a0), (1, .int p1)] := hl
  have hiX7 : ∀ w ∈ wsX70, w ∈ wsX7_lotsOf := by decide +kernel
  have hw0 := hts (.fieldLink RX7 7 "GlacierHutModel" "s" "[I") (by decide +kernel)
  refine lv_iconst (v := (0 : Int32)) hx hb dX7_lotsOf_0 (by decide) ?_
  refine lv_istore_n (lv' := [(2, .int (0 : Int32)), (0, .ref a0), (1, .int p1)]) hx hb dX7_lotsOf_1 rfl hl (by decide) rfl (fun ls hl => ?_)
  refine lv_iconst (v := (0 : Int32)) hx hb dX7_lotsOf_2 (by decide) ?_
  refine lv_istore_n (lv' := [(3, .int (0 : Int32)), (2, .int (0 : Int32)), (0, .ref a0), (1, .int p1)]) hx hb dX7_lotsOf_3 rfl hl (by decide) rfl (fun ls hl => ?_)
  refine gl2_e h (fun S_rec1 hS_rec1 h => ?_)
  have hL_rec1 : ∀ (nF : Nat) (v2 : Int32) (v3 : Int32) (H : Heap) (locs : List Loc) (ls : Array Slot), va_P E.1 vwCl (wMo E a0 a1 a2 a3 a4 a5 a6 a7 ss bg kp ik pt st tx ln asd att dn td fo nb) H → va_S A s.heap H locs → lv_has ls 4 [(3, .int v2), (2, .int v3), (0, .ref a0), (1, .int p1)] → gl2 S_rec1 nF v2 v3 = some res → W p l e ({ frames := 1, cells := 0, slots := 0, locals := 22 } : Room) s m args below meth c H locs 0 0 Q (F0 m 4 ls []) := by
    intro nF
    induction nF with
    | zero => intro v2 v3 H locs ls hP hS hl h; exact gl2_z h
    | succ nF ih_rec1 =>
      intro v2 v3 H locs ls hP hS hl h
      replace hD : va_D A (wMo E a0 a1 a2 a3 a4 a5 a6 a7 ss bg kp ik pt st tx ln asd att dn td fo nb) := gD_same hD rfl
      replace h : S_rec1 (gl2 S_rec1 nF) v2 v3 = some res := h
      generalize gl2 S_rec1 nF = rec1 at h ih_rec1
      subst hS_rec1
      unfold sX7_lotsOf_rec1 at h
      refine lv_iload_n hx hb dX7_lotsOf_4 rfl (lv_at hl 0 rfl) ?_
      refine lv_aload_n hx hb dX7_lotsOf_5 rfl (lv_at hl 2 rfl) ?_
      refine va_get (D := E.1) (cl := vwCl) (ci := 7) (v := .ref a1) (C := RX7) (T := TX7) (N := 14) hx hb hts hiX7 hown hK hP 0 rfl rfl 0 (by decide) hw0 (fun _ h9 => h9) rfl dX7_lotsOf_6 ?_
      refine lv_iconst (v := (2 : Int32)) hx hb dX7_lotsOf_9 (by decide) ?_
      obtain ⟨hg4, h⟩ := gd_s h
      refine va_iald (D := E.1) (cl := vwCl) (tys := gT E) hx hb hK hP 1 0 rfl rfl (inB_in hg4) dX7_lotsOf_10 ?_
      refine lv_icmp_ge (tgt := 38) hx hb dX7_lotsOf_11 (by decide) (fun hc5 => ?_) (fun hc5 => ?_)
      · replace h := g_it hc5 h
        refine lv_iload_n hx hb dX7_lotsOf_38 rfl (lv_at hl 1 rfl) ?_
        exact hret v3 _ _ _ _ _ (Option.some.inj h) hP hS rfl dX7_lotsOf_39
      · replace h := g_if hc5 h
        refine lv_iload_n hx hb dX7_lotsOf_14 rfl (lv_at hl 1 rfl) ?_
        refine lv_aload_n hx hb dX7_lotsOf_15 rfl (lv_at hl 2 rfl) ?_
        refine lv_iload_n hx hb dX7_lotsOf_16 rfl (lv_at hl 0 rfl) ?_
        refine lv_iconst (v := (0 : Int32)) hx hb dX7_lotsOf_17 (by decide) ?_
        obtain ⟨r6, hc7, h⟩ := bd1_s h
        refine g_callRi (As := [.int v2, .int (0 : Int32)]) (rest := [.int v3]) (r := r6) ⟨hx, hb, hml, hown, hts⟩ (kX7_ofLot E l a0 a1 a2 a3 a4 a5 a6 a7 ss bg kp ik pt st tx ln asd att dn td fo nb v2 (0 : Int32) r6 hc7) (cwV 2 hts gX7_lotsOf_X7_ofLot rfl rfl rfl (by decide +kernel) ⟨Nat.le_of_ble_eq_true rfl, Nat.le_of_ble_eq_true rfl⟩) hK hP hD hS hA hG hl [0, 1, 2, 3, 4, 5, 6, 7] 0 (by decide) rfl (ci := 7) rfl rfl rfl rfl rfl rfl rfl (Nat.le_of_ble_eq_true rfl) dX7_lotsOf_18 (Nat.zero_le _) (Nat.zero_le _) (fun H locs hP hD hS => ?_)
        refine lv_iload_n hx hb dX7_lotsOf_21 rfl (lv_at hl 3 rfl) ?_
        refine lv_icmp_ne (tgt := 29) hx hb dX7_lotsOf_22 (by decide) (fun hc8 => ?_) (fun hc8 => ?_)
        · replace h := g_if hc8 h
          refine lv_iconst (v := (0 : Int32)) hx hb dX7_lotsOf_29 (by decide) ?_
          refine lv_iadd hx hb dX7_lotsOf_30 ?_
          refine lv_topi (fun v9 e_v9 => ?_)
          replace h := jl_s e_v9 h
          refine lv_istore_n (lv' := [(2, .int v9), (3, .int v2), (0, .ref a0), (1, .int p1)]) hx hb dX7_lotsOf_31 rfl hl (by decide) rfl (fun ls hl => ?_)
          obtain ⟨v10, e_v10⟩ : ∃ y : Int32, y = (v2 + (1 : Int32)) := ⟨_, rfl⟩
          replace h := jl_s e_v10 h
          refine lv_iinc (v := v10) (lv' := [(3, .int v10), (2, .int v9), (0, .ref a0), (1, .int p1)]) hx hb dX7_lotsOf_32 hl (k := 1) rfl (by rw [e_v10]; rfl) (by decide) rfl (fun ls hl => ?_)
          refine lv_goto (tgt := 4) hx hb dX7_lotsOf_35 (by decide) ?_
          exact ih_rec1 v10 v9 _ _ _ hP hS (lv_sub hl [0, 1, 2, 3] rfl) h
        · replace h := g_it hc8 h
          refine lv_iconst (v := (1 : Int32)) hx hb dX7_lotsOf_25 (by decide) ?_
          refine lv_goto (tgt := 30) hx hb dX7_lotsOf_26 (by decide) ?_
          refine lv_iadd hx hb dX7_lotsOf_30 ?_
          refine lv_topi (fun v11 e_v11 => ?_)
          replace h := jl_s e_v11 h
          refine lv_istore_n (lv' := [(2, .int v11), (3, .int v2), (0, .ref a0), (1, .int p1)]) hx hb dX7_lotsOf_31 rfl hl (by decide) rfl (fun ls hl => ?_)
          obtain ⟨v12, e_v12⟩ : ∃ y : Int32, y = (v2 + (1 : Int32)) := ⟨_, rfl⟩
          replace h := jl_s e_v12 h
          refine lv_iinc (v := v12) (lv' := [(3, .int v12), (2, .int v11), (0, .ref a0), (1, .int p1)]) hx hb dX7_lotsOf_32 hl (k := 1) rfl (by rw [e_v12]; rfl) (by decide) rfl (fun ls hl => ?_)
          refine lv_goto (tgt := 4) hx hb dX7_lotsOf_35 (by decide) ?_
          exact ih_rec1 v12 v11 _ _ _ hP hS (lv_sub hl [0, 1, 2, 3] rfl) h
  exact hL_rec1 gFU (0 : Int32) (0 : Int32) _ _ _ hP hS (lv_sub hl [0, 1, 2, 3] rfl) h
set_option maxHeartbeats 4000000 in
set_option maxRecDepth 100000 in
theorem kX7_most (E : gE) (l : Launch) (a0 a1 a2 a3 a4 a5 a6 a7 : Nat) (ss : Nat → Int32) (bg : Nat → Int32) (kp : Nat → Int32) (ik : Int32) (pt : Nat → Int32) (st : Int32) (tx : Nat → Int32) (ln : Int32) (asd : Nat → Int32) (att : Int32) (dn : Int32) (td : Int32) (fo : Int32) (nb : Nat → Int32) (p1 : Int32) (p2 : Int32) (res : Int32 × (Nat → Int32) × (Nat → Int32)) (h : fX7_most ss asd p1 p2 = some res) : gMI E l yX7_most wsX7_most ({ frames := 6, cells := 0, slots := 0, locals := 141 } : Room) [.ref a0, .int p1, .int p2] (wMo E a0 a1 a2 a3 a4 a5 a6 a7 ss bg kp ik pt st tx ln asd att dn td fo nb) (fun res : Int32 × (Nat → Int32) × (Nat → Int32) => (wMo E a0 a1 a2 a3 a4 a5 a6 a7 res.2.1 bg kp ik pt st tx ln res.2.2 att dn td fo nb)) (fun res => res.1) res := by
  refine g_entI (cc := cX7_most) (maxL := 4) (by decide) rfl (Nat.le_of_ble_eq_true rfl) ?_
  intro p e s m args below meth c A Q ls hx hb hml hown hts hK hP hD hS hA hG hret hl
  unfold fX7_most at h
  replace hl : lv_has ls 4 [(0, .ref a0), (1, .int p1), (2, .int p2)] := hl
  have hiX7 : ∀ w ∈ wsX70, w ∈ wsX7_most := by decide +kernel
  have hw0 := hts (.fieldLink RX7 7 "GlacierHutModel" "s" "[I") (by decide +kernel)
  refine lv_aload_n hx hb dX7_most_0 rfl (lv_at hl 0 rfl) ?_
  refine lv_iload_n hx hb dX7_most_1 rfl (lv_at hl 1 rfl) ?_
  refine lv_iload_n hx hb dX7_most_2 rfl (lv_at hl 2 rfl) ?_
  obtain ⟨r1, hc2, h⟩ := bd1_s h
  refine g_callRi (As := [.int p1, .int p2]) (rest := []) (r := r1) ⟨hx, hb, hml, hown, hts⟩ (kX7_isStay E l a0 a1 a2 a3 a4 a5 a6 a7 ss bg kp ik pt st tx ln asd att dn td fo nb p1 p2 r1 hc2) (cwV 2 hts gX7_most_X7_isStay rfl rfl rfl (by decide +kernel) ⟨Nat.le_of_ble_eq_true rfl, Nat.le_of_ble_eq_true rfl⟩) hK hP hD hS hA hG hl [0, 1, 2, 3, 4, 5, 6, 7] 0 (by decide) rfl (ci := 7) rfl rfl rfl rfl rfl rfl rfl (Nat.le_of_ble_eq_true rfl) dX7_most_3 (Nat.zero_le _) (Nat.zero_le _) (fun H locs hP hD hS => ?_)
  refine lv_if_ne (tgt := 11) hx hb dX7_most_6 (by decide) (fun hc3 => ?_) (fun hc3 => ?_)
  · replace h := g_if hc3 h
    refine lv_aload_n hx hb dX7_most_11 rfl (lv_at hl 0 rfl) ?_
    refine va_get (D := E.1) (cl := vwCl) (ci := 7) (v := .ref a1) (C := RX7) (T := TX7) (N := 14) hx hb hts hiX7 hown hK hP 0 rfl rfl 0 (by decide) hw0 (fun _ h9 => h9) rfl dX7_most_12 ?_
    refine lv_iconst (v := (4 : Int32)) hx hb dX7_most_15 (by decide) ?_
    obtain ⟨hg4, h⟩ := gd_s h
    refine va_iald (D := E.1) (cl := vwCl) (tys := gT E) hx hb hK hP 1 0 rfl rfl (inB_in hg4) dX7_most_16 ?_
    refine lv_bipush (v := (16 : Int32)) hx hb dX7_most_17 (by decide) ?_
    refine lv_icmp_ne (tgt := 25) hx hb dX7_most_19 (by decide) (fun hc5 => ?_) (fun hc5 => ?_)
    · replace h := g_if hc5 h
      refine lv_bipush (v := (6 : Int32)) hx hb dX7_most_25 (by decide) ?_
      refine lv_istore_n (lv' := [(3, .int (6 : Int32)), (0, .ref a0), (1, .int p1), (2, .int p2)]) hx hb dX7_most_27 rfl hl (by decide) rfl (fun ls hl => ?_)
      refine gl3_e h (fun S_rec6 hS_rec6 h => ?_)
      have hL_rec6 : ∀ (nF : Nat) (v7 : Int32) (ss8 : Nat → Int32) (asd9 : Nat → Int32) (H : Heap) (locs : List Loc) (ls : Array Slot), va_P E.1 vwCl (wMo E a0 a1 a2 a3 a4 a5 a6 a7 ss8 bg kp ik pt st tx ln asd9 att dn td fo nb) H → va_S A s.heap H locs → lv_has ls 4 [(3, .int v7), (0, .ref a0), (1, .int p1), (2, .int p2)] → gl3 S_rec6 nF v7 ss8 asd9 = some res → W p l e ({ frames := 6, cells := 0, slots := 0, locals := 141 } : Room) s m args below meth c H locs 0 0 Q (F0 m 28 ls []) := by
        intro nF
        induction nF with
        | zero => intro v7 ss8 asd9 H locs ls hP hS hl h; exact gl3_z h
        | succ nF ih_rec6 =>
          intro v7 ss8 asd9 H locs ls hP hS hl h
          replace hD : va_D A (wMo E a0 a1 a2 a3 a4 a5 a6 a7 ss8 bg kp ik pt st tx ln asd9 att dn td fo nb) := gD_same hD rfl
          replace h : S_rec6 (gl3 S_rec6 nF) v7 ss8 asd9 = some res := h
          generalize gl3 S_rec6 nF = rec6 at h ih_rec6
          subst hS_rec6
          unfold sX7_most_rec6 at h
          refine lv_iload_n hx hb dX7_most_28 rfl (lv_at hl 0 rfl) ?_
          refine lv_if_le (tgt := 48) hx hb dX7_most_29 (by decide) (fun hc10 => ?_) (fun hc10 => ?_)
          · replace h := g_it hc10 h
            refine lv_iload_n hx hb dX7_most_48 rfl (lv_at hl 0 rfl) ?_
            exact hret (v7, ss8, asd9) _ _ _ _ _ (Option.some.inj h) hP hS rfl dX7_most_49
          · replace h := g_if hc10 h
            refine lv_aload_n hx hb dX7_most_32 rfl (lv_at hl 1 rfl) ?_
            refine lv_iload_n hx hb dX7_most_33 rfl (lv_at hl 0 rfl) ?_
            refine lv_iload_n hx hb dX7_most_34 rfl (lv_at hl 2 rfl) ?_
            refine lv_iload_n hx hb dX7_most_35 rfl (lv_at hl 3 rfl) ?_
            obtain ⟨r11, ss12, asd13, hc14, h⟩ := bd3_s h
            refine g_callVi (As := [.int v7, .int p1, .int p2]) (rest := []) (r := r11) (ws1 := (wMo E a0 a1 a2 a3 a4 a5 a6 a7 ss12 bg kp ik pt st tx ln asd13 att dn td fo nb)) ⟨hx, hb, hml, hown, hts⟩ (kX7_isTaken E l a0 a1 a2 a3 a4 a5 a6 a7 ss8 bg kp ik pt st tx ln asd9 att dn td fo nb v7 p1 p2 (r11, ss12, asd13) hc14) (cwV 3 hts gX7_most_X7_isTaken rfl rfl rfl (by decide +kernel) ⟨Nat.le_of_ble_eq_true rfl, Nat.le_of_ble_eq_true rfl⟩) hK hP hD hS hA hG hl [0, 1, 2, 3, 4, 5, 6, 7] 0 (by decide) rfl (ci := 7) rfl rfl rfl rfl rfl rfl rfl rfl rfl (Nat.le_of_ble_eq_true rfl) dX7_most_36 (Nat.zero_le _) (Nat.zero_le _) (fun H locs hP hD hS => ?_)
            refine lv_if_ne (tgt := 48) hx hb dX7_most_39 (by decide) (fun hc15 => ?_) (fun hc15 => ?_)
            · replace h := g_if hc15 h
              refine lv_iload_n hx hb dX7_most_48 rfl (lv_at hl 0 rfl) ?_
              exact hret (v7, ss12, asd13) _ _ _ _ _ (Option.some.inj h) hP hS rfl dX7_most_49
            · replace h := g_it hc15 h
              obtain ⟨v16, e_v16⟩ : ∃ y : Int32, y = (v7 + (-1 : Int32)) := ⟨_, rfl⟩
              replace h := jl_s e_v16 h
              refine lv_iinc (v := v16) (lv' := [(3, .int v16), (0, .ref a0), (1, .int p1), (2, .int p2)]) hx hb dX7_most_42 hl (k := 0) rfl (by rw [e_v16]; rfl) (by decide) rfl (fun ls hl => ?_)
              refine lv_goto (tgt := 28) hx hb dX7_most_45 (by decide) ?_
              exact ih_rec6 v16 ss12 asd13 _ _ _ hP hS (lv_sub hl [0, 1, 2, 3] rfl) h
      exact hL_rec6 gFU (6 : Int32) ss asd _ _ _ hP hS (lv_sub hl [0, 1, 2, 3] rfl) h
    · replace h := g_it hc5 h
      refine lv_bipush (v := (-3 : Int32)) hx hb dX7_most_22 (by decide) ?_
      exact hret ((-3 : Int32), ss, asd) _ _ _ _ _ (Option.some.inj h) hP hS rfl dX7_most_24
  · replace h := g_it hc3 h
    refine lv_iconst (v := (-1 : Int32)) hx hb dX7_most_9 (by decide) ?_
    exact hret ((-1 : Int32), ss, asd) _ _ _ _ _ (Option.some.inj h) hP hS rfl dX7_most_10
set_option maxHeartbeats 4000000 in
set_option maxRecDepth 100000 in
theorem kX7_outOn (E : gE) (l : Launch) (a0 a1 a2 a3 a4 a5 a6 a7 : Nat) (ss : Nat → Int32) (bg : Nat → Int32) (kp : Nat → Int32) (ik : Int32) (pt : Nat → Int32) (st : Int32) (tx : Nat → Int32) (ln : Int32) (asd : Nat → Int32) (att : Int32) (dn : Int32) (td : Int32) (fo : Int32) (nb : Nat → Int32) (p1 : Int32) (res : Int32 × (Nat → Int32) × (Nat → Int32)) (h : fX7_outOn ss bg p1 = some res) : gMI E l yX7_outOn wsX7_outOn ({ frames := 5, cells := 0, slots := 0, locals := 116 } : Room) [.ref a0, .int p1] (wMo E a0 a1 a2 a3 a4 a5 a6 a7 ss bg kp ik pt st tx ln asd att dn td fo nb) (fun res : Int32 × (Nat → Int32) × (Nat → Int32) => (wMo E a0 a1 a2 a3 a4 a5 a6 a7 res.2.1 res.2.2 kp ik pt st tx ln asd att dn td fo nb)) (fun res => res.1) res := by
  refine g_entI (cc := cX7_outOn) (maxL := 3) (by decide) rfl (Nat.le_of_ble_eq_true rfl) ?_
  intro p e s m args below meth c A Q ls hx hb hml hown hts hK hP hD hS hA hG hret hl
  unfold fX7_outOn at h
  replace hl : lv_has ls 3 [(0, .ref a0), (1, .int p1)] := hl
  have hiX7 : ∀ w ∈ wsX70, w ∈ wsX7_outOn := by decide +kernel
  have hw0 := hts (.fieldLink RX7 7 "GlacierHutModel" "s" "[I") (by decide +kernel)
  refine lv_iload_n hx hb dX7_outOn_0 rfl (lv_at hl 1 rfl) ?_
  refine lv_iconst (v := (0 : Int32)) hx hb dX7_outOn_1 (by decide) ?_
  refine lv_iconst (v := (2 : Int32)) hx hb dX7_outOn_2 (by decide) ?_
  obtain ⟨r1, hc2, h⟩ := bd1_s h
  refine g_callSi (As := [.int p1, .int (0 : Int32), .int (2 : Int32)]) (rest := []) (r := r1) ⟨hx, hb, hml, hown, hts⟩ (kX7_in E l p1 (0 : Int32) (2 : Int32) r1 hc2) (va_cwS 3 hts gX7_outOn_X7_in rfl rfl rfl (by decide +kernel) ⟨Nat.le_of_ble_eq_true rfl, Nat.le_of_ble_eq_true rfl⟩) hK hP hD hS hA hG hl rfl rfl rfl (Nat.le_of_ble_eq_true rfl) dX7_outOn_3 (Nat.zero_le _) (Nat.zero_le _) (fun H locs hP hD hS => ?_)
  refine lv_if_ne (tgt := 11) hx hb dX7_outOn_6 (by decide) (fun hc3 => ?_) (fun hc3 => ?_)
  · replace h := g_if hc3 h
    refine lv_aload_n hx hb dX7_outOn_11 rfl (lv_at hl 0 rfl) ?_
    obtain ⟨bg4, hc5, h⟩ := bd1_s h
    refine g_callVv (As := []) (rest := []) (ws1 := (wMo E a0 a1 a2 a3 a4 a5 a6 a7 ss bg4 kp ik pt st tx ln asd att dn td fo nb)) ⟨hx, hb, hml, hown, hts⟩ (kX7_begins E l a0 a1 a2 a3 a4 a5 a6 a7 ss bg kp ik pt st tx ln asd att dn td fo nb bg4 hc5) (cwV 0 hts gX7_outOn_X7_begins rfl rfl rfl (by decide +kernel) ⟨Nat.le_of_ble_eq_true rfl, Nat.le_of_ble_eq_true rfl⟩) hK hP hD hS hA hG hl [0, 1, 2, 3, 4, 5, 6, 7] 0 (by decide) rfl (ci := 7) rfl rfl rfl rfl rfl rfl rfl rfl (Nat.le_of_ble_eq_true rfl) dX7_outOn_12 (Nat.zero_le _) (Nat.zero_le _) (fun H locs hP hD hS => ?_)
    refine lv_bipush (v := (-4 : Int32)) hx hb dX7_outOn_15 (by decide) ?_
    refine lv_istore_n (lv' := [(2, .int (-4 : Int32)), (0, .ref a0), (1, .int p1)]) hx hb dX7_outOn_17 rfl hl (by decide) rfl (fun ls hl => ?_)
    refine gl2_e h (fun S_rec6 hS_rec6 h => ?_)
    have hL_rec6 : ∀ (nF : Nat) (v7 : Int32) (ss8 : Nat → Int32) (H : Heap) (locs : List Loc) (ls : Array Slot), va_P E.1 vwCl (wMo E a0 a1 a2 a3 a4 a5 a6 a7 ss8 bg4 kp ik pt st tx ln asd att dn td fo nb) H → va_S A s.heap H locs → lv_has ls 3 [(2, .int v7), (0, .ref a0), (1, .int p1)] → gl2 S_rec6 nF v7 ss8 = some res → W p l e ({ frames := 5, cells := 0, slots := 0, locals := 116 } : Room) s m args below meth c H locs 0 0 Q (F0 m 18 ls []) := by
      intro nF
      induction nF with
      | zero => intro v7 ss8 H locs ls hP hS hl h; exact gl2_z h
      | succ nF ih_rec6 =>
        intro v7 ss8 H locs ls hP hS hl h
        replace hD : va_D A (wMo E a0 a1 a2 a3 a4 a5 a6 a7 ss8 bg4 kp ik pt st tx ln asd att dn td fo nb) := gD_same hD rfl
        replace h : S_rec6 (gl2 S_rec6 nF) v7 ss8 = some res := h
        generalize gl2 S_rec6 nF = rec6 at h ih_rec6
        subst hS_rec6
        unfold sX7_outOn_rec6 at h
        refine lv_iload_n hx hb dX7_outOn_18 rfl (lv_at hl 0 rfl) ?_
        refine mrg_e h (fun J10 hK_J10 h => ?_)
        have hJ_J10 : ∀ (_ : Unit) (H : Heap) (locs : List Loc) (ls : Array Slot), va_P E.1 vwCl (wMo E a0 a1 a2 a3 a4 a5 a6 a7 ss8 bg4 kp ik pt st tx ln asd att dn td fo nb) H → va_S A s.heap H locs → lv_has ls 3 [(2, .int v7), (0, .ref a0)] → J10 () = some res → W p l e ({ frames := 5, cells := 0, slots := 0, locals := 116 } : Room) s m args below meth c H locs 0 0 Q (F0 m 58 ls []) := by
          intro _ H locs ls hP hS hl h
          replace hD : va_D A (wMo E a0 a1 a2 a3 a4 a5 a6 a7 ss8 bg4 kp ik pt st tx ln asd att dn td fo nb) := gD_same hD rfl
          subst hK_J10
          refine lv_aload_n hx hb dX7_outOn_58 rfl (lv_at hl 1 rfl) ?_
          obtain ⟨ss21, hc22, h⟩ := bd1_s h
          refine g_callVv (As := []) (rest := []) (ws1 := (wMo E a0 a1 a2 a3 a4 a5 a6 a7 ss21 bg4 kp ik pt st tx ln asd att dn td fo nb)) ⟨hx, hb, hml, hown, hts⟩ (kX7_returns E l a0 a1 a2 a3 a4 a5 a6 a7 ss8 bg4 kp ik pt st tx ln asd att dn td fo nb ss21 hc22) (cwV 0 hts gX7_outOn_X7_returns rfl rfl rfl (by decide +kernel) ⟨Nat.le_of_ble_eq_true rfl, Nat.le_of_ble_eq_true rfl⟩) hK hP hD hS hA hG hl [0, 1, 2, 3, 4, 5, 6, 7] 0 (by decide) rfl (ci := 7) rfl rfl rfl rfl rfl rfl rfl rfl (Nat.le_of_ble_eq_true rfl) dX7_outOn_59 (Nat.zero_le _) (Nat.zero_le _) (fun H locs hP hD hS => ?_)
          refine lv_iload_n hx hb dX7_outOn_62 rfl (lv_at hl 0 rfl) ?_
          exact hret (v7, ss21, bg4) _ _ _ _ _ (Option.some.inj h) hP hS rfl dX7_outOn_63
        refine lv_if_ge (tgt := 58) hx hb dX7_outOn_19 (by decide) (fun hc9 => ?_) (fun hc9 => ?_)
        · replace h := g_it hc9 h
          exact hJ_J10 () _ _ _ hP hS (lv_sub hl [0, 1] rfl) h
        · replace h := g_if hc9 h
          refine lv_aload_n hx hb dX7_outOn_22 rfl (lv_at hl 1 rfl) ?_
          obtain ⟨r11, hc12, h⟩ := bd1_s h
          refine g_callRi (As := []) (rest := []) (r := r11) ⟨hx, hb, hml, hown, hts⟩ (kX7_isAny E l a0 a1 a2 a3 a4 a5 a6 a7 ss8 bg4 kp ik pt st tx ln asd att dn td fo nb r11 hc12) (cwV 0 hts gX7_outOn_X7_isAny rfl rfl rfl (by decide +kernel) ⟨Nat.le_of_ble_eq_true rfl, Nat.le_of_ble_eq_true rfl⟩) hK hP hD hS hA hG hl [0, 1, 2, 3, 4, 5, 6, 7] 0 (by decide) rfl (ci := 7) rfl rfl rfl rfl rfl rfl rfl (Nat.le_of_ble_eq_true rfl) dX7_outOn_23 (Nat.zero_le _) (Nat.zero_le _) (fun H locs hP hD hS => ?_)
          refine lv_if_eq (tgt := 58) hx hb dX7_outOn_26 (by decide) (fun hc13 => ?_) (fun hc13 => ?_)
          · replace h := g_it hc13 h
            exact hJ_J10 () _ _ _ hP hS (lv_sub hl [0, 1] rfl) h
          · replace h := g_if hc13 h
            refine lv_aload_n hx hb dX7_outOn_29 rfl (lv_at hl 1 rfl) ?_
            obtain ⟨ss14, hc15, h⟩ := bd1_s h
            refine g_callVv (As := []) (rest := []) (ws1 := (wMo E a0 a1 a2 a3 a4 a5 a6 a7 ss14 bg4 kp ik pt st tx ln asd att dn td fo nb)) ⟨hx, hb, hml, hown, hts⟩ (kX7_night E l a0 a1 a2 a3 a4 a5 a6 a7 ss8 bg4 kp ik pt st tx ln asd att dn td fo nb ss14 hc15) (cwV 0 hts gX7_outOn_X7_night rfl rfl rfl (by decide +kernel) ⟨Nat.le_of_ble_eq_true rfl, Nat.le_of_ble_eq_true rfl⟩) hK hP hD hS hA hG hl [0, 1, 2, 3, 4, 5, 6, 7] 0 (by decide) rfl (ci := 7) rfl rfl rfl rfl rfl rfl rfl rfl (Nat.le_of_ble_eq_true rfl) dX7_outOn_30 (Nat.zero_le _) (Nat.zero_le _) (fun H locs hP hD hS => ?_)
            refine lv_aload_n hx hb dX7_outOn_33 rfl (lv_at hl 1 rfl) ?_
            refine lv_iload_n hx hb dX7_outOn_34 rfl (lv_at hl 2 rfl) ?_
            obtain ⟨r16, hc17, h⟩ := bd1_s h
            refine g_callRi (As := [.int p1]) (rest := []) (r := r16) ⟨hx, hb, hml, hown, hts⟩ (kX7_stock E l a0 a1 a2 a3 a4 a5 a6 a7 ss14 bg4 kp ik pt st tx ln asd att dn td fo nb p1 r16 hc17) (cwV 1 hts gX7_outOn_X7_stock rfl rfl rfl (by decide +kernel) ⟨Nat.le_of_ble_eq_true rfl, Nat.le_of_ble_eq_true rfl⟩) hK hP hD hS hA hG hl [0, 1, 2, 3, 4, 5, 6, 7] 0 (by decide) rfl (ci := 7) rfl rfl rfl rfl rfl rfl rfl (Nat.le_of_ble_eq_true rfl) dX7_outOn_35 (Nat.zero_le _) (Nat.zero_le _) (fun H locs hP hD hS => ?_)
            refine lv_if_ne (tgt := 52) hx hb dX7_outOn_38 (by decide) (fun hc18 => ?_) (fun hc18 => ?_)
            · replace h := g_if hc18 h
              refine lv_bipush (v := (-4 : Int32)) hx hb dX7_outOn_52 (by decide) ?_
              refine lv_istore_n (lv' := [(2, .int (-4 : Int32)), (0, .ref a0), (1, .int p1)]) hx hb dX7_outOn_54 rfl hl (by decide) rfl (fun ls hl => ?_)
              refine lv_goto (tgt := 18) hx hb dX7_outOn_55 (by decide) ?_
              exact ih_rec6 (-4 : Int32) ss14 _ _ _ hP hS (lv_sub hl [0, 1, 2] rfl) h
            · replace h := g_it hc18 h
              refine lv_aload_n hx hb dX7_outOn_41 rfl (lv_at hl 1 rfl) ?_
              refine va_get (D := E.1) (cl := vwCl) (ci := 7) (v := .ref a1) (C := RX7) (T := TX7) (N := 14) hx hb hts hiX7 hown hK hP 0 rfl rfl 0 (by decide) hw0 (fun _ h9 => h9) rfl dX7_outOn_42 ?_
              refine lv_iconst (v := (0 : Int32)) hx hb dX7_outOn_45 (by decide) ?_
              obtain ⟨hg19, h⟩ := gd_s h
              refine va_iald (D := E.1) (cl := vwCl) (tys := gT E) hx hb hK hP 1 0 rfl rfl (inB_in hg19) dX7_outOn_46 ?_
              refine lv_iconst (v := (1 : Int32)) hx hb dX7_outOn_47 (by decide) ?_
              refine lv_isub hx hb dX7_outOn_48 ?_
              refine lv_goto (tgt := 54) hx hb dX7_outOn_49 (by decide) ?_
              refine lv_topi (fun v20 e_v20 => ?_)
              replace h := jl_s e_v20 h
              refine lv_istore_n (lv' := [(2, .int v20), (0, .ref a0), (1, .int p1)]) hx hb dX7_outOn_54 rfl hl (by decide) rfl (fun ls hl => ?_)
              refine lv_goto (tgt := 18) hx hb dX7_outOn_55 (by decide) ?_
              exact ih_rec6 v20 ss14 _ _ _ hP hS (lv_sub hl [0, 1, 2] rfl) h
    exact hL_rec6 gFU (-4 : Int32) ss _ _ _ hP hS (lv_sub hl [0, 1, 2] rfl) h
  · replace h := g_it hc3 h
    refine lv_iconst (v := (-1 : Int32)) hx hb dX7_outOn_9 (by decide) ?_
    exact hret ((-1 : Int32), ss, bg) _ _ _ _ _ (Option.some.inj h) hP hS rfl dX7_outOn_10
set_option maxHeartbeats 4000000 in
set_option maxRecDepth 100000 in
theorem kX7_partyOf (E : gE) (l : Launch) (a0 a1 a2 a3 a4 a5 a6 a7 : Nat) (ss : Nat → Int32) (bg : Nat → Int32) (kp : Nat → Int32) (ik : Int32) (pt : Nat → Int32) (st : Int32) (tx : Nat → Int32) (ln : Int32) (asd : Nat → Int32) (att : Int32) (dn : Int32) (td : Int32) (fo : Int32) (nb : Nat → Int32) (p1 : Int32) (p2 : Int32) (res : Int32) (h : fX7_partyOf ss p1 p2 = some res) : gMI E l yX7_partyOf wsX7_partyOf ({ frames := 2, cells := 0, slots := 0, locals := 43 } : Room) [.ref a0, .int p1, .int p2] (wMo E a0 a1 a2 a3 a4 a5 a6 a7 ss bg kp ik pt st tx ln asd att dn td fo nb) (fun res : Int32 => (wMo E a0 a1 a2 a3 a4 a5 a6 a7 ss bg kp ik pt st tx ln asd att dn td fo nb)) (fun res => res) res := by
  refine g_entI (cc := cX7_partyOf) (maxL := 4) (by decide) rfl (Nat.le_of_ble_eq_true rfl) ?_
  intro p e s m args below meth c A Q ls hx hb hml hown hts hK hP hD hS hA hG hret hl
  unfold fX7_partyOf at h
  replace hl : lv_has ls 4 [(0, .ref a0), (1, .int p1), (2, .int p2)] := hl
  refine lv_aload_n hx hb dX7_partyOf_0 rfl (lv_at hl 0 rfl) ?_
  refine lv_iload_n hx hb dX7_partyOf_1 rfl (lv_at hl 1 rfl) ?_
  obtain ⟨r1, hc2, h⟩ := bd1_s h
  refine g_callRi (As := [.int p1]) (rest := []) (r := r1) ⟨hx, hb, hml, hown, hts⟩ (kX7_isParty E l a0 a1 a2 a3 a4 a5 a6 a7 ss bg kp ik pt st tx ln asd att dn td fo nb p1 r1 hc2) (cwV 1 hts gX7_partyOf_X7_isParty rfl rfl rfl (by decide +kernel) ⟨Nat.le_of_ble_eq_true rfl, Nat.le_of_ble_eq_true rfl⟩) hK hP hD hS hA hG hl [0, 1, 2, 3, 4, 5, 6, 7] 0 (by decide) rfl (ci := 7) rfl rfl rfl rfl rfl rfl rfl (Nat.le_of_ble_eq_true rfl) dX7_partyOf_2 (Nat.zero_le _) (Nat.zero_le _) (fun H locs hP hD hS => ?_)
  refine lv_if_eq (tgt := 18) hx hb dX7_partyOf_5 (by decide) (fun hc3 => ?_) (fun hc3 => ?_)
  · replace h := g_it hc3 h
    refine lv_iconst (v := (-1 : Int32)) hx hb dX7_partyOf_18 (by decide) ?_
    exact hret (-1 : Int32) _ _ _ _ _ (Option.some.inj h) hP hS rfl dX7_partyOf_19
  · replace h := g_if hc3 h
    refine lv_iload_n hx hb dX7_partyOf_8 rfl (lv_at hl 2 rfl) ?_
    refine lv_iconst (v := (0 : Int32)) hx hb dX7_partyOf_9 (by decide) ?_
    refine lv_bipush (v := (6 : Int32)) hx hb dX7_partyOf_10 (by decide) ?_
    obtain ⟨r4, hc5, h⟩ := bd1_s h
    refine g_callSi (As := [.int p2, .int (0 : Int32), .int (6 : Int32)]) (rest := []) (r := r4) ⟨hx, hb, hml, hown, hts⟩ (kX7_in E l p2 (0 : Int32) (6 : Int32) r4 hc5) (va_cwS 3 hts gX7_partyOf_X7_in rfl rfl rfl (by decide +kernel) ⟨Nat.le_of_ble_eq_true rfl, Nat.le_of_ble_eq_true rfl⟩) hK hP hD hS hA hG hl rfl rfl rfl (Nat.le_of_ble_eq_true rfl) dX7_partyOf_12 (Nat.zero_le _) (Nat.zero_le _) (fun H locs hP hD hS => ?_)
    refine lv_if_ne (tgt := 20) hx hb dX7_partyOf_15 (by decide) (fun hc6 => ?_) (fun hc6 => ?_)
    · replace h := g_if hc6 h
      refine lv_aload_n hx hb dX7_partyOf_20 rfl (lv_at hl 0 rfl) ?_
      refine lv_iload_n hx hb dX7_partyOf_21 rfl (lv_at hl 1 rfl) ?_
      refine lv_iconst (v := (4 : Int32)) hx hb dX7_partyOf_22 (by decide) ?_
      obtain ⟨r7, hc8, h⟩ := bd1_s h
      refine g_callRi (As := [.int p1, .int (4 : Int32)]) (rest := []) (r := r7) ⟨hx, hb, hml, hown, hts⟩ (kX7_ofParty E l a0 a1 a2 a3 a4 a5 a6 a7 ss bg kp ik pt st tx ln asd att dn td fo nb p1 (4 : Int32) r7 hc8) (cwV 2 hts gX7_partyOf_X7_ofParty rfl rfl rfl (by decide +kernel) ⟨Nat.le_of_ble_eq_true rfl, Nat.le_of_ble_eq_true rfl⟩) hK hP hD hS hA hG hl [0, 1, 2, 3, 4, 5, 6, 7] 0 (by decide) rfl (ci := 7) rfl rfl rfl rfl rfl rfl rfl (Nat.le_of_ble_eq_true rfl) dX7_partyOf_23 (Nat.zero_le _) (Nat.zero_le _) (fun H locs hP hD hS => ?_)
      refine lv_aload_n hx hb dX7_partyOf_26 rfl (lv_at hl 0 rfl) ?_
      refine lv_iload_n hx hb dX7_partyOf_27 rfl (lv_at hl 1 rfl) ?_
      refine lv_iconst (v := (2 : Int32)) hx hb dX7_partyOf_28 (by decide) ?_
      obtain ⟨r9, hc10, h⟩ := bd1_s h
      refine g_callRi (As := [.int p1, .int (2 : Int32)]) (rest := [.int r7]) (r := r9) ⟨hx, hb, hml, hown, hts⟩ (kX7_ofParty E l a0 a1 a2 a3 a4 a5 a6 a7 ss bg kp ik pt st tx ln asd att dn td fo nb p1 (2 : Int32) r9 hc10) (cwV 2 hts gX7_partyOf_X7_ofParty rfl rfl rfl (by decide +kernel) ⟨Nat.le_of_ble_eq_true rfl, Nat.le_of_ble_eq_true rfl⟩) hK hP hD hS hA hG hl [0, 1, 2, 3, 4, 5, 6, 7] 0 (by decide) rfl (ci := 7) rfl rfl rfl rfl rfl rfl rfl (Nat.le_of_ble_eq_true rfl) dX7_partyOf_29 (Nat.zero_le _) (Nat.zero_le _) (fun H locs hP hD hS => ?_)
      refine lv_isub hx hb dX7_partyOf_32 ?_
      refine lv_topi (fun v11 e_v11 => ?_)
      replace h := jl_s e_v11 h
      refine lv_istore_n (lv' := [(3, .int v11), (0, .ref a0), (1, .int p1), (2, .int p2)]) hx hb dX7_partyOf_33 rfl hl (by decide) rfl (fun ls hl => ?_)
      refine lv_iload_n hx hb dX7_partyOf_34 rfl (lv_at hl 3 rfl) ?_
      by_cases hk12 : p2 = (5 : Int32)
      · replace h := g_it hk12 h
        refine lv_lookup (tgt := 60) (off := 25) hx hb dX7_partyOf_35 (by decide) (by rw [hk12]; rfl) (by decide) ?_
        refine lv_aload_n hx hb dX7_partyOf_60 rfl (lv_at hl 1 rfl) ?_
        refine lv_iload_n hx hb dX7_partyOf_61 rfl (lv_at hl 2 rfl) ?_
        refine lv_iconst (v := (5 : Int32)) hx hb dX7_partyOf_62 (by decide) ?_
        obtain ⟨r14, hc15, h⟩ := bd1_s h
        refine g_callRi (As := [.int p1, .int (5 : Int32)]) (rest := []) (r := r14) ⟨hx, hb, hml, hown, hts⟩ (kX7_ofParty E l a0 a1 a2 a3 a4 a5 a6 a7 ss bg kp ik pt st tx ln asd att dn td fo nb p1 (5 : Int32) r14 hc15) (cwV 2 hts gX7_partyOf_X7_ofParty rfl rfl rfl (by decide +kernel) ⟨Nat.le_of_ble_eq_true rfl, Nat.le_of_ble_eq_true rfl⟩) hK hP hD hS hA hG hl [0, 1, 2, 3, 4, 5, 6, 7] 0 (by decide) rfl (ci := 7) rfl rfl rfl rfl rfl rfl rfl (Nat.le_of_ble_eq_true rfl) dX7_partyOf_63 (Nat.zero_le _) (Nat.zero_le _) (fun H locs hP hD hS => ?_)
        refine lv_if_ne (tgt := 74) hx hb dX7_partyOf_66 (by decide) (fun hc16 => ?_) (fun hc16 => ?_)
        · replace h := g_if hc16 h
          refine lv_aload_n hx hb dX7_partyOf_74 rfl (lv_at hl 1 rfl) ?_
          refine lv_iload_n hx hb dX7_partyOf_75 rfl (lv_at hl 2 rfl) ?_
          refine lv_iconst (v := (5 : Int32)) hx hb dX7_partyOf_76 (by decide) ?_
          obtain ⟨r17, hc18, h⟩ := bd1_s h
          refine g_callRi (As := [.int p1, .int (5 : Int32)]) (rest := []) (r := r17) ⟨hx, hb, hml, hown, hts⟩ (kX7_ofParty E l a0 a1 a2 a3 a4 a5 a6 a7 ss bg kp ik pt st tx ln asd att dn td fo nb p1 (5 : Int32) r17 hc18) (cwV 2 hts gX7_partyOf_X7_ofParty rfl rfl rfl (by decide +kernel) ⟨Nat.le_of_ble_eq_true rfl, Nat.le_of_ble_eq_true rfl⟩) hK hP hD hS hA hG hl [0, 1, 2, 3, 4, 5, 6, 7] 0 (by decide) rfl (ci := 7) rfl rfl rfl rfl rfl rfl rfl (Nat.le_of_ble_eq_true rfl) dX7_partyOf_77 (Nat.zero_le _) (Nat.zero_le _) (fun H locs hP hD hS => ?_)
          refine lv_iconst (v := (1 : Int32)) hx hb dX7_partyOf_80 (by decide) ?_
          refine lv_isub hx hb dX7_partyOf_81 ?_
          exact hret (r17 - (1 : Int32)) _ _ _ _ _ (Option.some.inj h) hP hS rfl dX7_partyOf_82
        · replace h := g_it hc16 h
          refine lv_bipush (v := (-4 : Int32)) hx hb dX7_partyOf_69 (by decide) ?_
          refine lv_goto (tgt := 82) hx hb dX7_partyOf_71 (by decide) ?_
          exact hret (-4 : Int32) _ _ _ _ _ (Option.some.inj h) hP hS rfl dX7_partyOf_82
      replace h := g_if hk12 h
      by_cases hk13 : p2 = (6 : Int32)
      · replace h := g_it hk13 h
        refine lv_lookup (tgt := 83) (off := 48) hx hb dX7_partyOf_35 (by decide) (by rw [hk13]; rfl) (by decide) ?_
        refine lv_iload_n hx hb dX7_partyOf_83 rfl (lv_at hl 0 rfl) ?_
        refine lv_if_ge (tgt := 91) hx hb dX7_partyOf_84 (by decide) (fun hc19 => ?_) (fun hc19 => ?_)
        · replace h := g_it hc19 h
          refine lv_iload_n hx hb dX7_partyOf_91 rfl (lv_at hl 0 rfl) ?_
          exact hret v11 _ _ _ _ _ (Option.some.inj h) hP hS rfl dX7_partyOf_92
        · replace h := g_if hc19 h
          refine lv_iconst (v := (0 : Int32)) hx hb dX7_partyOf_87 (by decide) ?_
          refine lv_goto (tgt := 92) hx hb dX7_partyOf_88 (by decide) ?_
          exact hret (0 : Int32) _ _ _ _ _ (Option.some.inj h) hP hS rfl dX7_partyOf_92
      replace h := g_if hk13 h
      refine lv_lookup (tgt := 93) (off := 58) hx hb dX7_partyOf_35 (by decide) (by show Op.lookupswitch.offset [(5, 25), (6, 48)] 58 _ = _; rw [lv_osw hk12 (by decide), lv_osw hk13 (by decide)]; rfl) (by decide) ?_
      refine lv_aload_n hx hb dX7_partyOf_93 rfl (lv_at hl 1 rfl) ?_
      refine lv_iload_n hx hb dX7_partyOf_94 rfl (lv_at hl 2 rfl) ?_
      refine lv_iload_n hx hb dX7_partyOf_95 rfl (lv_at hl 3 rfl) ?_
      obtain ⟨r20, hc21, h⟩ := bd1_s h
      refine g_callRi (As := [.int p1, .int p2]) (rest := []) (r := r20) ⟨hx, hb, hml, hown, hts⟩ (kX7_ofParty E l a0 a1 a2 a3 a4 a5 a6 a7 ss bg kp ik pt st tx ln asd att dn td fo nb p1 p2 r20 hc21) (cwV 2 hts gX7_partyOf_X7_ofParty rfl rfl rfl (by decide +kernel) ⟨Nat.le_of_ble_eq_true rfl, Nat.le_of_ble_eq_true rfl⟩) hK hP hD hS hA hG hl [0, 1, 2, 3, 4, 5, 6, 7] 0 (by decide) rfl (ci := 7) rfl rfl rfl rfl rfl rfl rfl (Nat.le_of_ble_eq_true rfl) dX7_partyOf_96 (Nat.zero_le _) (Nat.zero_le _) (fun H locs hP hD hS => ?_)
      exact hret r20 _ _ _ _ _ (Option.some.inj h) hP hS rfl dX7_partyOf_99
    · replace h := g_it hc6 h
      refine lv_iconst (v := (-1 : Int32)) hx hb dX7_partyOf_18 (by decide) ?_
      exact hret (-1 : Int32) _ _ _ _ _ (Option.some.inj h) hP hS rfl dX7_partyOf_19
set_option maxHeartbeats 4000000 in
set_option maxRecDepth 100000 in
theorem kX7_play (E : gE) (l : Launch) (a0 a1 a2 a3 a4 a5 a6 a7 : Nat) (ss : Nat → Int32) (bg : Nat → Int32) (kp : Nat → Int32) (ik : Int32) (pt : Nat → Int32) (st : Int32) (tx : Nat → Int32) (ln : Int32) (asd : Nat → Int32) (att : Int32) (dn : Int32) (td : Int32) (fo : Int32) (nb : Nat → Int32)  (res : Int32 × (Nat → Int32) × (Nat → Int32) × (Nat → Int32) × Int32 × (Nat → Int32) × Int32 × Int32 × Int32 × Int32 × (Nat → Int32)) (h : fX7_play ss bg pt st tx ln asd td fo nb  = some res) : gMI E l yX7_play wsX7_play ({ frames := 9, cells := 0, slots := 0, locals := 208 } : Room) [.ref a0] (wMo E a0 a1 a2 a3 a4 a5 a6 a7 ss bg kp ik pt st tx ln asd att dn td fo nb) (fun res : Int32 × (Nat → Int32) × (Nat → Int32) × (Nat → Int32) × Int32 × (Nat → Int32) × Int32 × Int32 × Int32 × Int32 × (Nat → Int32) => (wMo E a0 a1 a2 a3 a4 a5 a6 a7 res.2.1 res.2.2.1 kp ik res.2.2.2.1 res.2.2.2.2.1 tx ln res.2.2.2.2.2.1 res.2.2.2.2.2.2.1 res.2.2.2.2.2.2.2.1 res.2.2.2.2.2.2.2.2.1 res.2.2.2.2.2.2.2.2.2.1 res.2.2.2.2.2.2.2.2.2.2)) (fun res => res.1) res := by
  refine g_entI (cc := cX7_play) (maxL := 1) (by decide) rfl (Nat.le_of_ble_eq_true rfl) ?_
  intro p e s m args below meth c A Q ls hx hb hml hown hts hK hP hD hS hA hG hret hl
  unfold fX7_play at h
  replace hl : lv_has ls 1 [(0, .ref a0)] := hl
  have hiX7 : ∀ w ∈ wsX70, w ∈ wsX7_play := by decide +kernel
  have hw0 := hts (.fieldLink RX7 172 "GlacierHutModel" "done" "I") (by decide +kernel)
  refine lv_aload_n hx hb dX7_play_0 rfl (lv_at hl 0 rfl) ?_
  obtain ⟨bg1, hc2, h⟩ := bd1_s h
  refine g_callVv (As := []) (rest := []) (ws1 := (wMo E a0 a1 a2 a3 a4 a5 a6 a7 ss bg1 kp ik pt st tx ln asd att dn td fo nb)) ⟨hx, hb, hml, hown, hts⟩ (kX7_begins E l a0 a1 a2 a3 a4 a5 a6 a7 ss bg kp ik pt st tx ln asd att dn td fo nb bg1 hc2) (cwV 0 hts gX7_play_X7_begins rfl rfl rfl (by decide +kernel) ⟨Nat.le_of_ble_eq_true rfl, Nat.le_of_ble_eq_true rfl⟩) hK hP hD hS hA hG hl [0, 1, 2, 3, 4, 5, 6, 7] 0 (by decide) rfl (ci := 7) rfl rfl rfl rfl rfl rfl rfl rfl (Nat.le_of_ble_eq_true rfl) dX7_play_1 (Nat.zero_le _) (Nat.zero_le _) (fun H locs hP hD hS => ?_)
  refine lv_aload_n hx hb dX7_play_4 rfl (lv_at hl 0 rfl) ?_
  refine lv_aload_n hx hb dX7_play_5 rfl (lv_at hl 0 rfl) ?_
  obtain ⟨r3, ss4, asd5, att6, dn7, td8, fo9, nb10, hc11, h⟩ := bd8_s h
  refine g_callVi (As := []) (rest := [.ref a0]) (r := r3) (ws1 := (wMo E a0 a1 a2 a3 a4 a5 a6 a7 ss4 bg1 kp ik pt st tx ln asd5 att6 dn7 td8 fo9 nb10)) ⟨hx, hb, hml, hown, hts⟩ (kX7_does E l a0 a1 a2 a3 a4 a5 a6 a7 ss bg1 kp ik pt st tx ln asd att dn td fo nb (r3, ss4, asd5, att6, dn7, td8, fo9, nb10) hc11) (cwV 0 hts gX7_play_X7_does rfl rfl rfl (by decide +kernel) ⟨Nat.le_of_ble_eq_true rfl, Nat.le_of_ble_eq_true rfl⟩) hK hP hD hS hA hG hl [0, 1, 2, 3, 4, 5, 6, 7] 0 (by decide) rfl (ci := 7) rfl rfl rfl rfl rfl rfl rfl rfl rfl (Nat.le_of_ble_eq_true rfl) dX7_play_6 (Nat.zero_le _) (Nat.zero_le _) (fun H locs hP hD hS => ?_)
  refine lv_if_ge (tgt := 19) hx hb dX7_play_9 (by decide) (fun hc12 => ?_) (fun hc12 => ?_)
  · replace h := g_it hc12 h
    refine lv_bipush (v := (-2 : Int32)) hx hb dX7_play_19 (by decide) ?_
    obtain ⟨r13, ss14, pt15, st16, hc17, h⟩ := bd4_s h
    refine g_callVi (As := [.int (-2 : Int32)]) (rest := []) (r := r13) (ws1 := (wMo E a0 a1 a2 a3 a4 a5 a6 a7 ss14 bg1 kp ik pt15 st16 tx ln asd5 att6 dn7 td8 fo9 nb10)) ⟨hx, hb, hml, hown, hts⟩ (kX7_acted E l a0 a1 a2 a3 a4 a5 a6 a7 ss4 bg1 kp ik pt st tx ln asd5 att6 dn7 td8 fo9 nb10 (-2 : Int32) (r13, ss14, pt15, st16) hc17) (cwV 1 hts gX7_play_X7_acted rfl rfl rfl (by decide +kernel) ⟨Nat.le_of_ble_eq_true rfl, Nat.le_of_ble_eq_true rfl⟩) hK hP hD hS hA hG hl [0, 1, 2, 3, 4, 5, 6, 7] 0 (by decide) rfl (ci := 7) rfl rfl rfl rfl rfl rfl rfl rfl rfl (Nat.le_of_ble_eq_true rfl) dX7_play_21 (Nat.zero_le _) (Nat.zero_le _) (fun H locs hP hD hS => ?_)
    exact hret (r13, ss14, bg1, pt15, st16, asd5, att6, dn7, td8, fo9, nb10) _ _ _ _ _ (Option.some.inj h) hP hS rfl dX7_play_24
  · replace h := g_if hc12 h
    refine lv_aload_n hx hb dX7_play_12 rfl (lv_at hl 0 rfl) ?_
    refine va_get (D := E.1) (cl := vwCl) (ci := 7) (v := .int dn7) (C := RX7) (T := TX7) (N := 14) hx hb hts hiX7 hown hK hP 0 rfl rfl 10 (by decide) hw0 (fun _ h9 => h9) rfl dX7_play_13 ?_
    refine lv_goto (tgt := 21) hx hb dX7_play_16 (by decide) ?_
    obtain ⟨r18, ss19, pt20, st21, hc22, h⟩ := bd4_s h
    refine g_callVi (As := [.int dn7]) (rest := []) (r := r18) (ws1 := (wMo E a0 a1 a2 a3 a4 a5 a6 a7 ss19 bg1 kp ik pt20 st21 tx ln asd5 att6 dn7 td8 fo9 nb10)) ⟨hx, hb, hml, hown, hts⟩ (kX7_acted E l a0 a1 a2 a3 a4 a5 a6 a7 ss4 bg1 kp ik pt st tx ln asd5 att6 dn7 td8 fo9 nb10 dn7 (r18, ss19, pt20, st21) hc22) (cwV 1 hts gX7_play_X7_acted rfl rfl rfl (by decide +kernel) ⟨Nat.le_of_ble_eq_true rfl, Nat.le_of_ble_eq_true rfl⟩) hK hP hD hS hA hG hl [0, 1, 2, 3, 4, 5, 6, 7] 0 (by decide) rfl (ci := 7) rfl rfl rfl rfl rfl rfl rfl rfl rfl (Nat.le_of_ble_eq_true rfl) dX7_play_21 (Nat.zero_le _) (Nat.zero_le _) (fun H locs hP hD hS => ?_)
    exact hret (r18, ss19, bg1, pt20, st21, asd5, att6, dn7, td8, fo9, nb10) _ _ _ _ _ (Option.some.inj h) hP hS rfl dX7_play_24
set_option maxHeartbeats 4000000 in
set_option maxRecDepth 100000 in
theorem kX7_restore (E : gE) (l : Launch) (a0 a1 a2 a3 a4 a5 a6 a7 : Nat) (ss : Nat → Int32) (bg : Nat → Int32) (kp : Nat → Int32) (ik : Int32) (pt : Nat → Int32) (st : Int32) (tx : Nat → Int32) (ln : Int32) (asd : Nat → Int32) (att : Int32) (dn : Int32) (td : Int32) (fo : Int32) (nb : Nat → Int32)  (res : Int32 × (Nat → Int32) × (Nat → Int32) × (Nat → Int32) × Int32) (h : fX7_restore ss bg kp ik pt st  = some res) : gMI E l yX7_restore wsX7_restore ({ frames := 2, cells := 0, slots := 0, locals := 43 } : Room) [.ref a0] (wMo E a0 a1 a2 a3 a4 a5 a6 a7 ss bg kp ik pt st tx ln asd att dn td fo nb) (fun res : Int32 × (Nat → Int32) × (Nat → Int32) × (Nat → Int32) × Int32 => (wMo E a0 a1 a2 a3 a4 a5 a6 a7 res.2.1 res.2.2.1 kp ik res.2.2.2.1 res.2.2.2.2 tx ln asd att dn td fo nb)) (fun res => res.1) res := by
  refine g_entI (cc := cX7_restore) (maxL := 2) (by decide) rfl (Nat.le_of_ble_eq_true rfl) ?_
  intro p e s m args below meth c A Q ls hx hb hml hown hts hK hP hD hS hA hG hret hl
  unfold fX7_restore at h
  replace hl : lv_has ls 2 [(0, .ref a0)] := hl
  have hiX7 : ∀ w ∈ wsX70, w ∈ wsX7_restore := by decide +kernel
  have hw0 := hts (.fieldLink RX7 156 "GlacierHutModel" "isKept" "Z") (by decide +kernel)
  have hw1 := hts (.fieldLink RX7 7 "GlacierHutModel" "s" "[I") (by decide +kernel)
  have hw2 := hts (.fieldLink RX7 16 "GlacierHutModel" "kept" "[I") (by decide +kernel)
  refine lv_aload_n hx hb dX7_restore_0 rfl (lv_at hl 0 rfl) ?_
  obtain ⟨bg1, hc2, h⟩ := bd1_s h
  refine g_callVv (As := []) (rest := []) (ws1 := (wMo E a0 a1 a2 a3 a4 a5 a6 a7 ss bg1 kp ik pt st tx ln asd att dn td fo nb)) ⟨hx, hb, hml, hown, hts⟩ (kX7_begins E l a0 a1 a2 a3 a4 a5 a6 a7 ss bg kp ik pt st tx ln asd att dn td fo nb bg1 hc2) (cwV 0 hts gX7_restore_X7_begins rfl rfl rfl (by decide +kernel) ⟨Nat.le_of_ble_eq_true rfl, Nat.le_of_ble_eq_true rfl⟩) hK hP hD hS hA hG hl [0, 1, 2, 3, 4, 5, 6, 7] 0 (by decide) rfl (ci := 7) rfl rfl rfl rfl rfl rfl rfl rfl (Nat.le_of_ble_eq_true rfl) dX7_restore_1 (Nat.zero_le _) (Nat.zero_le _) (fun H locs hP hD hS => ?_)
  refine lv_aload_n hx hb dX7_restore_4 rfl (lv_at hl 0 rfl) ?_
  refine va_get (D := E.1) (cl := vwCl) (ci := 7) (v := .int ik) (C := RX7) (T := TX7) (N := 14) hx hb hts hiX7 hown hK hP 0 rfl rfl 3 (by decide) hw0 (fun _ h9 => h9) rfl dX7_restore_5 ?_
  refine lv_if_ne (tgt := 14) hx hb dX7_restore_8 (by decide) (fun hc3 => ?_) (fun hc3 => ?_)
  · replace h := g_if hc3 h
    refine lv_iconst (v := (0 : Int32)) hx hb dX7_restore_14 (by decide) ?_
    refine lv_istore_n (lv' := [(1, .int (0 : Int32)), (0, .ref a0)]) hx hb dX7_restore_15 rfl hl (by decide) rfl (fun ls hl => ?_)
    refine gl2_e h (fun S_rec4 hS_rec4 h => ?_)
    have hL_rec4 : ∀ (nF : Nat) (v5 : Int32) (ss6 : Nat → Int32) (H : Heap) (locs : List Loc) (ls : Array Slot), va_P E.1 vwCl (wMo E a0 a1 a2 a3 a4 a5 a6 a7 ss6 bg1 kp ik pt st tx ln asd att dn td fo nb) H → va_S A s.heap H locs → lv_has ls 2 [(1, .int v5), (0, .ref a0)] → gl2 S_rec4 nF v5 ss6 = some res → W p l e ({ frames := 2, cells := 0, slots := 0, locals := 43 } : Room) s m args below meth c H locs 0 0 Q (F0 m 16 ls []) := by
      intro nF
      induction nF with
      | zero => intro v5 ss6 H locs ls hP hS hl h; exact gl2_z h
      | succ nF ih_rec4 =>
        intro v5 ss6 H locs ls hP hS hl h
        replace hD : va_D A (wMo E a0 a1 a2 a3 a4 a5 a6 a7 ss6 bg1 kp ik pt st tx ln asd att dn td fo nb) := gD_same hD rfl
        replace h : S_rec4 (gl2 S_rec4 nF) v5 ss6 = some res := h
        generalize gl2 S_rec4 nF = rec4 at h ih_rec4
        subst hS_rec4
        unfold sX7_restore_rec4 at h
        refine lv_iload_n hx hb dX7_restore_16 rfl (lv_at hl 0 rfl) ?_
        refine lv_sipush (v := (599 : Int32)) hx hb dX7_restore_17 (by decide) ?_
        refine lv_icmp_ge (tgt := 41) hx hb dX7_restore_20 (by decide) (fun hc7 => ?_) (fun hc7 => ?_)
        · replace h := g_it hc7 h
          refine lv_aload_n hx hb dX7_restore_41 rfl (lv_at hl 1 rfl) ?_
          refine lv_aload_n hx hb dX7_restore_42 rfl (lv_at hl 1 rfl) ?_
          refine va_get (D := E.1) (cl := vwCl) (ci := 7) (v := .ref a1) (C := RX7) (T := TX7) (N := 14) hx hb hts hiX7 hown hK hP 0 rfl rfl 0 (by decide) hw1 (fun _ h9 => h9) rfl dX7_restore_43 ?_
          refine lv_iconst (v := (0 : Int32)) hx hb dX7_restore_46 (by decide) ?_
          obtain ⟨hg8, h⟩ := gd_s h
          refine va_iald (D := E.1) (cl := vwCl) (tys := gT E) hx hb hK hP 1 0 rfl rfl (inB_in hg8) dX7_restore_47 ?_
          obtain ⟨r9, ss10, pt11, st12, hc13, h⟩ := bd4_s h
          refine g_callVi (As := [.int (ss6 ((0 : Int32)).toNatClampNeg)]) (rest := []) (r := r9) (ws1 := (wMo E a0 a1 a2 a3 a4 a5 a6 a7 ss10 bg1 kp ik pt11 st12 tx ln asd att dn td fo nb)) ⟨hx, hb, hml, hown, hts⟩ (kX7_acted E l a0 a1 a2 a3 a4 a5 a6 a7 ss6 bg1 kp ik pt st tx ln asd att dn td fo nb (ss6 ((0 : Int32)).toNatClampNeg) (r9, ss10, pt11, st12) hc13) (cwV 1 hts gX7_restore_X7_acted rfl rfl rfl (by decide +kernel) ⟨Nat.le_of_ble_eq_true rfl, Nat.le_of_ble_eq_true rfl⟩) hK hP hD hS hA hG hl [0, 1, 2, 3, 4, 5, 6, 7] 0 (by decide) rfl (ci := 7) rfl rfl rfl rfl rfl rfl rfl rfl rfl (Nat.le_of_ble_eq_true rfl) dX7_restore_48 (Nat.zero_le _) (Nat.zero_le _) (fun H locs hP hD hS => ?_)
          exact hret (r9, ss10, bg1, pt11, st12) _ _ _ _ _ (Option.some.inj h) hP hS rfl dX7_restore_51
        · replace h := g_if hc7 h
          refine lv_aload_n hx hb dX7_restore_23 rfl (lv_at hl 1 rfl) ?_
          refine va_get (D := E.1) (cl := vwCl) (ci := 7) (v := .ref a1) (C := RX7) (T := TX7) (N := 14) hx hb hts hiX7 hown hK hP 0 rfl rfl 0 (by decide) hw1 (fun _ h9 => h9) rfl dX7_restore_24 ?_
          refine lv_iload_n hx hb dX7_restore_27 rfl (lv_at hl 0 rfl) ?_
          refine lv_aload_n hx hb dX7_restore_28 rfl (lv_at hl 1 rfl) ?_
          refine va_get (D := E.1) (cl := vwCl) (ci := 7) (v := .ref a3) (C := RX7) (T := TX7) (N := 14) hx hb hts hiX7 hown hK hP 0 rfl rfl 2 (by decide) hw2 (fun _ h9 => h9) rfl dX7_restore_29 ?_
          refine lv_iload_n hx hb dX7_restore_32 rfl (lv_at hl 0 rfl) ?_
          obtain ⟨hg14, h⟩ := gd_s h
          refine va_iald (D := E.1) (cl := vwCl) (tys := gT E) hx hb hK hP 3 0 rfl rfl (inB_in hg14) dX7_restore_33 ?_
          refine va_iast (D := E.1) (cl := vwCl) (tys := gT E) hx hb hK hP hD hS 1 0 rfl rfl (inB_in hg14) dX7_restore_34 (fun H locs hP hD hS => ?_)
          obtain ⟨ss15, e_ss15⟩ : ∃ y : Nat → Int32, y = (upd ss6 (v5).toNatClampNeg (kp (v5).toNatClampNeg)) := ⟨_, rfl⟩
          replace h := jl_s e_ss15 h
          replace hP : va_P E.1 vwCl (wMo E a0 a1 a2 a3 a4 a5 a6 a7 ss15 bg1 kp ik pt st tx ln asd att dn td fo nb) H := (by rw [e_ss15]; exact hP)
          replace hD : va_D A (wMo E a0 a1 a2 a3 a4 a5 a6 a7 ss15 bg1 kp ik pt st tx ln asd att dn td fo nb) := gD_same hD rfl
          obtain ⟨v16, e_v16⟩ : ∃ y : Int32, y = (v5 + (1 : Int32)) := ⟨_, rfl⟩
          replace h := jl_s e_v16 h
          refine lv_iinc (v := v16) (lv' := [(1, .int v16), (0, .ref a0)]) hx hb dX7_restore_35 hl (k := 0) rfl (by rw [e_v16]; rfl) (by decide) rfl (fun ls hl => ?_)
          refine lv_goto (tgt := 16) hx hb dX7_restore_38 (by decide) ?_
          exact ih_rec4 v16 ss15 _ _ _ hP hS (lv_sub hl [0, 1] rfl) h
    exact hL_rec4 gFU (0 : Int32) ss _ _ _ hP hS (lv_sub hl [0, 1] rfl) h
  · replace h := g_it hc3 h
    refine lv_bipush (v := (-2 : Int32)) hx hb dX7_restore_11 (by decide) ?_
    exact hret ((-2 : Int32), ss, bg1, pt, st) _ _ _ _ _ (Option.some.inj h) hP hS rfl dX7_restore_13
set_option maxHeartbeats 4000000 in
set_option maxRecDepth 100000 in
theorem kX7_set (E : gE) (l : Launch) (a0 a1 a2 a3 a4 a5 a6 a7 : Nat) (ss : Nat → Int32) (bg : Nat → Int32) (kp : Nat → Int32) (ik : Int32) (pt : Nat → Int32) (st : Int32) (tx : Nat → Int32) (ln : Int32) (asd : Nat → Int32) (att : Int32) (dn : Int32) (td : Int32) (fo : Int32) (nb : Nat → Int32) (p1 : Int32) (p2 : Int32) (res : Int32 × (Nat → Int32) × (Nat → Int32) × (Nat → Int32) × Int32) (h : fX7_set ss bg pt st p1 p2 = some res) : gMI E l yX7_set wsX7_set ({ frames := 2, cells := 0, slots := 0, locals := 43 } : Room) [.ref a0, .int p1, .int p2] (wMo E a0 a1 a2 a3 a4 a5 a6 a7 ss bg kp ik pt st tx ln asd att dn td fo nb) (fun res : Int32 × (Nat → Int32) × (Nat → Int32) × (Nat → Int32) × Int32 => (wMo E a0 a1 a2 a3 a4 a5 a6 a7 res.2.1 res.2.2.1 kp ik res.2.2.2.1 res.2.2.2.2 tx ln asd att dn td fo nb)) (fun res => res.1) res := by
  refine g_entI (cc := cX7_set) (maxL := 4) (by decide) rfl (Nat.le_of_ble_eq_true rfl) ?_
  intro p e s m args below meth c A Q ls hx hb hml hown hts hK hP hD hS hA hG hret hl
  unfold fX7_set at h
  replace hl : lv_has ls 4 [(0, .ref a0), (1, .int p1), (2, .int p2)] := hl
  have hiX7 : ∀ w ∈ wsX70, w ∈ wsX7_set := by decide +kernel
  have hw0 := hts (.fieldLink RX7 7 "GlacierHutModel" "s" "[I") (by decide +kernel)
  refine lv_aload_n hx hb dX7_set_0 rfl (lv_at hl 0 rfl) ?_
  obtain ⟨bg1, hc2, h⟩ := bd1_s h
  refine g_callVv (As := []) (rest := []) (ws1 := (wMo E a0 a1 a2 a3 a4 a5 a6 a7 ss bg1 kp ik pt st tx ln asd att dn td fo nb)) ⟨hx, hb, hml, hown, hts⟩ (kX7_begins E l a0 a1 a2 a3 a4 a5 a6 a7 ss bg kp ik pt st tx ln asd att dn td fo nb bg1 hc2) (cwV 0 hts gX7_set_X7_begins rfl rfl rfl (by decide +kernel) ⟨Nat.le_of_ble_eq_true rfl, Nat.le_of_ble_eq_true rfl⟩) hK hP hD hS hA hG hl [0, 1, 2, 3, 4, 5, 6, 7] 0 (by decide) rfl (ci := 7) rfl rfl rfl rfl rfl rfl rfl rfl (Nat.le_of_ble_eq_true rfl) dX7_set_1 (Nat.zero_le _) (Nat.zero_le _) (fun H locs hP hD hS => ?_)
  refine lv_iload_n hx hb dX7_set_4 rfl (lv_at hl 1 rfl) ?_
  refine lv_iload_n hx hb dX7_set_5 rfl (lv_at hl 2 rfl) ?_
  obtain ⟨r3, hc4, h⟩ := bd1_s h
  refine g_callSi (As := [.int p1, .int p2]) (rest := []) (r := r3) ⟨hx, hb, hml, hown, hts⟩ (kX7_isSetting E l p1 p2 r3 hc4) (va_cwS 2 hts gX7_set_X7_isSetting rfl rfl rfl (by decide +kernel) ⟨Nat.le_of_ble_eq_true rfl, Nat.le_of_ble_eq_true rfl⟩) hK hP hD hS hA hG hl rfl rfl rfl (Nat.le_of_ble_eq_true rfl) dX7_set_6 (Nat.zero_le _) (Nat.zero_le _) (fun H locs hP hD hS => ?_)
  refine lv_if_ne (tgt := 14) hx hb dX7_set_9 (by decide) (fun hc5 => ?_) (fun hc5 => ?_)
  · replace h := g_if hc5 h
    refine lv_aload_n hx hb dX7_set_14 rfl (lv_at hl 0 rfl) ?_
    refine va_get (D := E.1) (cl := vwCl) (ci := 7) (v := .ref a1) (C := RX7) (T := TX7) (N := 14) hx hb hts hiX7 hown hK hP 0 rfl rfl 0 (by decide) hw0 (fun _ h9 => h9) rfl dX7_set_15 ?_
    refine lv_bipush (v := (10 : Int32)) hx hb dX7_set_18 (by decide) ?_
    refine lv_iload_n hx hb dX7_set_20 rfl (lv_at hl 1 rfl) ?_
    refine lv_iadd hx hb dX7_set_21 ?_
    obtain ⟨hg6, h⟩ := gd_s h
    refine va_iald (D := E.1) (cl := vwCl) (tys := gT E) hx hb hK hP 1 0 rfl rfl (inB_in hg6) dX7_set_22 ?_
    refine lv_topi (fun v7 e_v7 => ?_)
    replace h := jl_s e_v7 h
    refine lv_istore_n (lv' := [(3, .int v7), (0, .ref a0), (1, .int p1), (2, .int p2)]) hx hb dX7_set_23 rfl hl (by decide) rfl (fun ls hl => ?_)
    refine lv_aload_n hx hb dX7_set_24 rfl (lv_at hl 1 rfl) ?_
    refine va_get (D := E.1) (cl := vwCl) (ci := 7) (v := .ref a1) (C := RX7) (T := TX7) (N := 14) hx hb hts hiX7 hown hK hP 0 rfl rfl 0 (by decide) hw0 (fun _ h9 => h9) rfl dX7_set_25 ?_
    refine lv_bipush (v := (10 : Int32)) hx hb dX7_set_28 (by decide) ?_
    refine lv_iload_n hx hb dX7_set_30 rfl (lv_at hl 2 rfl) ?_
    refine lv_iadd hx hb dX7_set_31 ?_
    refine lv_iload_n hx hb dX7_set_32 rfl (lv_at hl 3 rfl) ?_
    refine va_iast (D := E.1) (cl := vwCl) (tys := gT E) hx hb hK hP hD hS 1 0 rfl rfl (inB_in hg6) dX7_set_33 (fun H locs hP hD hS => ?_)
    obtain ⟨ss8, e_ss8⟩ : ∃ y : Nat → Int32, y = (upd ss (((10 : Int32) + p1)).toNatClampNeg p2) := ⟨_, rfl⟩
    replace h := jl_s e_ss8 h
    replace hP : va_P E.1 vwCl (wMo E a0 a1 a2 a3 a4 a5 a6 a7 ss8 bg1 kp ik pt st tx ln asd att dn td fo nb) H := (by rw [e_ss8]; exact hP)
    replace hD : va_D A (wMo E a0 a1 a2 a3 a4 a5 a6 a7 ss8 bg1 kp ik pt st tx ln asd att dn td fo nb) := gD_same hD rfl
    refine lv_aload_n hx hb dX7_set_34 rfl (lv_at hl 1 rfl) ?_
    refine lv_iload_n hx hb dX7_set_35 rfl (lv_at hl 0 rfl) ?_
    obtain ⟨r9, ss10, pt11, st12, hc13, h⟩ := bd4_s h
    refine g_callVi (As := [.int v7]) (rest := []) (r := r9) (ws1 := (wMo E a0 a1 a2 a3 a4 a5 a6 a7 ss10 bg1 kp ik pt11 st12 tx ln asd att dn td fo nb)) ⟨hx, hb, hml, hown, hts⟩ (kX7_acted E l a0 a1 a2 a3 a4 a5 a6 a7 ss8 bg1 kp ik pt st tx ln asd att dn td fo nb v7 (r9, ss10, pt11, st12) hc13) (cwV 1 hts gX7_set_X7_acted rfl rfl rfl (by decide +kernel) ⟨Nat.le_of_ble_eq_true rfl, Nat.le_of_ble_eq_true rfl⟩) hK hP hD hS hA hG hl [0, 1, 2, 3, 4, 5, 6, 7] 0 (by decide) rfl (ci := 7) rfl rfl rfl rfl rfl rfl rfl rfl rfl (Nat.le_of_ble_eq_true rfl) dX7_set_36 (Nat.zero_le _) (Nat.zero_le _) (fun H locs hP hD hS => ?_)
    exact hret (r9, ss10, bg1, pt11, st12) _ _ _ _ _ (Option.some.inj h) hP hS rfl dX7_set_39
  · replace h := g_it hc5 h
    refine lv_iconst (v := (-1 : Int32)) hx hb dX7_set_12 (by decide) ?_
    exact hret ((-1 : Int32), ss, bg1, pt, st) _ _ _ _ _ (Option.some.inj h) hP hS rfl dX7_set_13
set_option maxHeartbeats 4000000 in
set_option maxRecDepth 100000 in
theorem kX7_sleep (E : gE) (l : Launch) (a0 a1 a2 a3 a4 a5 a6 a7 : Nat) (ss : Nat → Int32) (bg : Nat → Int32) (kp : Nat → Int32) (ik : Int32) (pt : Nat → Int32) (st : Int32) (tx : Nat → Int32) (ln : Int32) (asd : Nat → Int32) (att : Int32) (dn : Int32) (td : Int32) (fo : Int32) (nb : Nat → Int32) (p1 : Int32) (res : Int32 × (Nat → Int32) × (Nat → Int32) × (Nat → Int32) × Int32) (h : fX7_sleep ss bg pt st p1 = some res) : gMI E l yX7_sleep wsX7_sleep ({ frames := 6, cells := 0, slots := 0, locals := 139 } : Room) [.ref a0, .int p1] (wMo E a0 a1 a2 a3 a4 a5 a6 a7 ss bg kp ik pt st tx ln asd att dn td fo nb) (fun res : Int32 × (Nat → Int32) × (Nat → Int32) × (Nat → Int32) × Int32 => (wMo E a0 a1 a2 a3 a4 a5 a6 a7 res.2.1 res.2.2.1 kp ik res.2.2.2.1 res.2.2.2.2 tx ln asd att dn td fo nb)) (fun res => res.1) res := by
  refine g_entI (cc := cX7_sleep) (maxL := 2) (by decide) rfl (Nat.le_of_ble_eq_true rfl) ?_
  intro p e s m args below meth c A Q ls hx hb hml hown hts hK hP hD hS hA hG hret hl
  unfold fX7_sleep at h
  replace hl : lv_has ls 2 [(0, .ref a0), (1, .int p1)] := hl
  refine lv_aload_n hx hb dX7_sleep_0 rfl (lv_at hl 0 rfl) ?_
  obtain ⟨bg1, hc2, h⟩ := bd1_s h
  refine g_callVv (As := []) (rest := []) (ws1 := (wMo E a0 a1 a2 a3 a4 a5 a6 a7 ss bg1 kp ik pt st tx ln asd att dn td fo nb)) ⟨hx, hb, hml, hown, hts⟩ (kX7_begins E l a0 a1 a2 a3 a4 a5 a6 a7 ss bg kp ik pt st tx ln asd att dn td fo nb bg1 hc2) (cwV 0 hts gX7_sleep_X7_begins rfl rfl rfl (by decide +kernel) ⟨Nat.le_of_ble_eq_true rfl, Nat.le_of_ble_eq_true rfl⟩) hK hP hD hS hA hG hl [0, 1, 2, 3, 4, 5, 6, 7] 0 (by decide) rfl (ci := 7) rfl rfl rfl rfl rfl rfl rfl rfl (Nat.le_of_ble_eq_true rfl) dX7_sleep_1 (Nat.zero_le _) (Nat.zero_le _) (fun H locs hP hD hS => ?_)
  refine lv_aload_n hx hb dX7_sleep_4 rfl (lv_at hl 0 rfl) ?_
  refine lv_aload_n hx hb dX7_sleep_5 rfl (lv_at hl 0 rfl) ?_
  refine lv_iload_n hx hb dX7_sleep_6 rfl (lv_at hl 1 rfl) ?_
  obtain ⟨r3, ss4, hc5, h⟩ := bd2_s h
  refine g_callVi (As := [.int p1]) (rest := [.ref a0]) (r := r3) (ws1 := (wMo E a0 a1 a2 a3 a4 a5 a6 a7 ss4 bg1 kp ik pt st tx ln asd att dn td fo nb)) ⟨hx, hb, hml, hown, hts⟩ (kX7_sleeps E l a0 a1 a2 a3 a4 a5 a6 a7 ss bg1 kp ik pt st tx ln asd att dn td fo nb p1 (r3, ss4) hc5) (cwV 1 hts gX7_sleep_X7_sleeps rfl rfl rfl (by decide +kernel) ⟨Nat.le_of_ble_eq_true rfl, Nat.le_of_ble_eq_true rfl⟩) hK hP hD hS hA hG hl [0, 1, 2, 3, 4, 5, 6, 7] 0 (by decide) rfl (ci := 7) rfl rfl rfl rfl rfl rfl rfl rfl rfl (Nat.le_of_ble_eq_true rfl) dX7_sleep_7 (Nat.zero_le _) (Nat.zero_le _) (fun H locs hP hD hS => ?_)
  obtain ⟨r6, ss7, pt8, st9, hc10, h⟩ := bd4_s h
  refine g_callVi (As := [.int r3]) (rest := []) (r := r6) (ws1 := (wMo E a0 a1 a2 a3 a4 a5 a6 a7 ss7 bg1 kp ik pt8 st9 tx ln asd att dn td fo nb)) ⟨hx, hb, hml, hown, hts⟩ (kX7_acted E l a0 a1 a2 a3 a4 a5 a6 a7 ss4 bg1 kp ik pt st tx ln asd att dn td fo nb r3 (r6, ss7, pt8, st9) hc10) (cwV 1 hts gX7_sleep_X7_acted rfl rfl rfl (by decide +kernel) ⟨Nat.le_of_ble_eq_true rfl, Nat.le_of_ble_eq_true rfl⟩) hK hP hD hS hA hG hl [0, 1, 2, 3, 4, 5, 6, 7] 0 (by decide) rfl (ci := 7) rfl rfl rfl rfl rfl rfl rfl rfl rfl (Nat.le_of_ble_eq_true rfl) dX7_sleep_10 (Nat.zero_le _) (Nat.zero_le _) (fun H locs hP hD hS => ?_)
  exact hret (r6, ss7, bg1, pt8, st9) _ _ _ _ _ (Option.some.inj h) hP hS rfl dX7_sleep_13
set_option maxHeartbeats 4000000 in
set_option maxRecDepth 100000 in
theorem kX7_storeOf (E : gE) (l : Launch) (a0 a1 a2 a3 a4 a5 a6 a7 : Nat) (ss : Nat → Int32) (bg : Nat → Int32) (kp : Nat → Int32) (ik : Int32) (pt : Nat → Int32) (st : Int32) (tx : Nat → Int32) (ln : Int32) (asd : Nat → Int32) (att : Int32) (dn : Int32) (td : Int32) (fo : Int32) (nb : Nat → Int32) (p1 : Int32) (p2 : Int32) (res : Int32) (h : fX7_storeOf ss p1 p2 = some res) : gMI E l yX7_storeOf wsX7_storeOf ({ frames := 2, cells := 0, slots := 0, locals := 45 } : Room) [.ref a0, .int p1, .int p2] (wMo E a0 a1 a2 a3 a4 a5 a6 a7 ss bg kp ik pt st tx ln asd att dn td fo nb) (fun res : Int32 => (wMo E a0 a1 a2 a3 a4 a5 a6 a7 ss bg kp ik pt st tx ln asd att dn td fo nb)) (fun res => res) res := by
  refine g_entI (cc := cX7_storeOf) (maxL := 3) (by decide) rfl (Nat.le_of_ble_eq_true rfl) ?_
  intro p e s m args below meth c A Q ls hx hb hml hown hts hK hP hD hS hA hG hret hl
  unfold fX7_storeOf at h
  replace hl : lv_has ls 3 [(0, .ref a0), (1, .int p1), (2, .int p2)] := hl
  have hiX7 : ∀ w ∈ wsX70, w ∈ wsX7_storeOf := by decide +kernel
  have hw0 := hts (.fieldLink RX7 7 "GlacierHutModel" "s" "[I") (by decide +kernel)
  refine lv_iload_n hx hb dX7_storeOf_0 rfl (lv_at hl 1 rfl) ?_
  refine lv_iconst (v := (0 : Int32)) hx hb dX7_storeOf_1 (by decide) ?_
  refine lv_iconst (v := (2 : Int32)) hx hb dX7_storeOf_2 (by decide) ?_
  obtain ⟨r1, hc2, h⟩ := bd1_s h
  refine g_callSi (As := [.int p1, .int (0 : Int32), .int (2 : Int32)]) (rest := []) (r := r1) ⟨hx, hb, hml, hown, hts⟩ (kX7_in E l p1 (0 : Int32) (2 : Int32) r1 hc2) (va_cwS 3 hts gX7_storeOf_X7_in rfl rfl rfl (by decide +kernel) ⟨Nat.le_of_ble_eq_true rfl, Nat.le_of_ble_eq_true rfl⟩) hK hP hD hS hA hG hl rfl rfl rfl (Nat.le_of_ble_eq_true rfl) dX7_storeOf_3 (Nat.zero_le _) (Nat.zero_le _) (fun H locs hP hD hS => ?_)
  refine lv_if_eq (tgt := 18) hx hb dX7_storeOf_6 (by decide) (fun hc3 => ?_) (fun hc3 => ?_)
  · replace h := g_it hc3 h
    refine lv_iconst (v := (-1 : Int32)) hx hb dX7_storeOf_18 (by decide) ?_
    exact hret (-1 : Int32) _ _ _ _ _ (Option.some.inj h) hP hS rfl dX7_storeOf_19
  · replace h := g_if hc3 h
    refine lv_iload_n hx hb dX7_storeOf_9 rfl (lv_at hl 2 rfl) ?_
    refine lv_iconst (v := (0 : Int32)) hx hb dX7_storeOf_10 (by decide) ?_
    refine lv_iconst (v := (5 : Int32)) hx hb dX7_storeOf_11 (by decide) ?_
    obtain ⟨r4, hc5, h⟩ := bd1_s h
    refine g_callSi (As := [.int p2, .int (0 : Int32), .int (5 : Int32)]) (rest := []) (r := r4) ⟨hx, hb, hml, hown, hts⟩ (kX7_in E l p2 (0 : Int32) (5 : Int32) r4 hc5) (va_cwS 3 hts gX7_storeOf_X7_in rfl rfl rfl (by decide +kernel) ⟨Nat.le_of_ble_eq_true rfl, Nat.le_of_ble_eq_true rfl⟩) hK hP hD hS hA hG hl rfl rfl rfl (Nat.le_of_ble_eq_true rfl) dX7_storeOf_12 (Nat.zero_le _) (Nat.zero_le _) (fun H locs hP hD hS => ?_)
    refine lv_if_ne (tgt := 20) hx hb dX7_storeOf_15 (by decide) (fun hc6 => ?_) (fun hc6 => ?_)
    · replace h := g_if hc6 h
      refine lv_iload_n hx hb dX7_storeOf_20 rfl (lv_at hl 2 rfl) ?_
      by_cases hk7 : p2 = (0 : Int32)
      · replace h := g_it hk7 h
        refine lv_tableIn (tgt := 56) (off := 35) hx hb dX7_storeOf_21 (by rw [hk7]; decide) (by rw [hk7]; decide) (by rw [hk7]; rfl) (by decide) ?_
        refine lv_aload_n hx hb dX7_storeOf_56 rfl (lv_at hl 0 rfl) ?_
        refine lv_iload_n hx hb dX7_storeOf_57 rfl (lv_at hl 1 rfl) ?_
        obtain ⟨r12, hc13, h⟩ := bd1_s h
        refine g_callRi (As := [.int p1]) (rest := []) (r := r12) ⟨hx, hb, hml, hown, hts⟩ (kX7_stock E l a0 a1 a2 a3 a4 a5 a6 a7 ss bg kp ik pt st tx ln asd att dn td fo nb p1 r12 hc13) (cwV 1 hts gX7_storeOf_X7_stock rfl rfl rfl (by decide +kernel) ⟨Nat.le_of_ble_eq_true rfl, Nat.le_of_ble_eq_true rfl⟩) hK hP hD hS hA hG hl [0, 1, 2, 3, 4, 5, 6, 7] 0 (by decide) rfl (ci := 7) rfl rfl rfl rfl rfl rfl rfl (Nat.le_of_ble_eq_true rfl) dX7_storeOf_58 (Nat.zero_le _) (Nat.zero_le _) (fun H locs hP hD hS => ?_)
        exact hret r12 _ _ _ _ _ (Option.some.inj h) hP hS rfl dX7_storeOf_61
      replace h := g_if hk7 h
      by_cases hk8 : p2 = (1 : Int32)
      · replace h := g_it hk8 h
        refine lv_tableIn (tgt := 62) (off := 41) hx hb dX7_storeOf_21 (by rw [hk8]; decide) (by rw [hk8]; decide) (by rw [hk8]; rfl) (by decide) ?_
        refine lv_aload_n hx hb dX7_storeOf_62 rfl (lv_at hl 0 rfl) ?_
        refine va_get (D := E.1) (cl := vwCl) (ci := 7) (v := .ref a1) (C := RX7) (T := TX7) (N := 14) hx hb hts hiX7 hown hK hP 0 rfl rfl 0 (by decide) hw0 (fun _ h9 => h9) rfl dX7_storeOf_63 ?_
        refine lv_bipush (v := (14 : Int32)) hx hb dX7_storeOf_66 (by decide) ?_
        refine lv_iconst (v := (3 : Int32)) hx hb dX7_storeOf_68 (by decide) ?_
        refine lv_iload_n hx hb dX7_storeOf_69 rfl (lv_at hl 2 rfl) ?_
        refine lv_imul hx hb dX7_storeOf_70 ?_
        refine lv_iadd hx hb dX7_storeOf_71 ?_
        refine lv_iconst (v := (3 : Int32)) hx hb dX7_storeOf_72 (by decide) ?_
        refine lv_isub hx hb dX7_storeOf_73 ?_
        refine lv_iload_n hx hb dX7_storeOf_74 rfl (lv_at hl 1 rfl) ?_
        refine lv_iadd hx hb dX7_storeOf_75 ?_
        obtain ⟨hg14, h⟩ := gd_s h
        refine va_iald (D := E.1) (cl := vwCl) (tys := gT E) hx hb hK hP 1 0 rfl rfl (inB_in hg14) dX7_storeOf_76 ?_
        exact hret (ss (((((14 : Int32) + ((3 : Int32) * p2)) - (3 : Int32)) + p1)).toNatClampNeg) _ _ _ _ _ (Option.some.inj h) hP hS rfl dX7_storeOf_77
      replace h := g_if hk8 h
      by_cases hk9 : p2 = (2 : Int32)
      · replace h := g_it hk9 h
        refine lv_tableIn (tgt := 62) (off := 41) hx hb dX7_storeOf_21 (by rw [hk9]; decide) (by rw [hk9]; decide) (by rw [hk9]; rfl) (by decide) ?_
        refine lv_aload_n hx hb dX7_storeOf_62 rfl (lv_at hl 0 rfl) ?_
        refine va_get (D := E.1) (cl := vwCl) (ci := 7) (v := .ref a1) (C := RX7) (T := TX7) (N := 14) hx hb hts hiX7 hown hK hP 0 rfl rfl 0 (by decide) hw0 (fun _ h9 => h9) rfl dX7_storeOf_63 ?_
        refine lv_bipush (v := (14 : Int32)) hx hb dX7_storeOf_66 (by decide) ?_
        refine lv_iconst (v := (3 : Int32)) hx hb dX7_storeOf_68 (by decide) ?_
        refine lv_iload_n hx hb dX7_storeOf_69 rfl (lv_at hl 2 rfl) ?_
        refine lv_imul hx hb dX7_storeOf_70 ?_
        refine lv_iadd hx hb dX7_storeOf_71 ?_
        refine lv_iconst (v := (3 : Int32)) hx hb dX7_storeOf_72 (by decide) ?_
        refine lv_isub hx hb dX7_storeOf_73 ?_
        refine lv_iload_n hx hb dX7_storeOf_74 rfl (lv_at hl 1 rfl) ?_
        refine lv_iadd hx hb dX7_storeOf_75 ?_
        obtain ⟨hg15, h⟩ := gd_s h
        refine va_iald (D := E.1) (cl := vwCl) (tys := gT E) hx hb hK hP 1 0 rfl rfl (inB_in hg15) dX7_storeOf_76 ?_
        exact hret (ss (((((14 : Int32) + ((3 : Int32) * p2)) - (3 : Int32)) + p1)).toNatClampNeg) _ _ _ _ _ (Option.some.inj h) hP hS rfl dX7_storeOf_77
      replace h := g_if hk9 h
      by_cases hk10 : p2 = (3 : Int32)
      · replace h := g_it hk10 h
        refine lv_tableIn (tgt := 62) (off := 41) hx hb dX7_storeOf_21 (by rw [hk10]; decide) (by rw [hk10]; decide) (by rw [hk10]; rfl) (by decide) ?_
        refine lv_aload_n hx hb dX7_storeOf_62 rfl (lv_at hl 0 rfl) ?_
        refine va_get (D := E.1) (cl := vwCl) (ci := 7) (v := .ref a1) (C := RX7) (T := TX7) (N := 14) hx hb hts hiX7 hown hK hP 0 rfl rfl 0 (by decide) hw0 (fun _ h9 => h9) rfl dX7_storeOf_63 ?_
        refine lv_bipush (v := (14 : Int32)) hx hb dX7_storeOf_66 (by decide) ?_
        refine lv_iconst (v := (3 : Int32)) hx hb dX7_storeOf_68 (by decide) ?_
        refine lv_iload_n hx hb dX7_storeOf_69 rfl (lv_at hl 2 rfl) ?_
        refine lv_imul hx hb dX7_storeOf_70 ?_
        refine lv_iadd hx hb dX7_storeOf_71 ?_
        refine lv_iconst (v := (3 : Int32)) hx hb dX7_storeOf_72 (by decide) ?_
        refine lv_isub hx hb dX7_storeOf_73 ?_
        refine lv_iload_n hx hb dX7_storeOf_74 rfl (lv_at hl 1 rfl) ?_
        refine lv_iadd hx hb dX7_storeOf_75 ?_
        obtain ⟨hg16, h⟩ := gd_s h
        refine va_iald (D := E.1) (cl := vwCl) (tys := gT E) hx hb hK hP 1 0 rfl rfl (inB_in hg16) dX7_storeOf_76 ?_
        exact hret (ss (((((14 : Int32) + ((3 : Int32) * p2)) - (3 : Int32)) + p1)).toNatClampNeg) _ _ _ _ _ (Option.some.inj h) hP hS rfl dX7_storeOf_77
      replace h := g_if hk10 h
      by_cases hk11 : p2 = (4 : Int32)
      · replace h := g_it hk11 h
        refine lv_tableIn (tgt := 78) (off := 57) hx hb dX7_storeOf_21 (by rw [hk11]; decide) (by rw [hk11]; decide) (by rw [hk11]; rfl) (by decide) ?_
        refine lv_aload_n hx hb dX7_storeOf_78 rfl (lv_at hl 0 rfl) ?_
        refine lv_iload_n hx hb dX7_storeOf_79 rfl (lv_at hl 1 rfl) ?_
        obtain ⟨r17, hc18, h⟩ := bd1_s h
        refine g_callRi (As := [.int p1]) (rest := []) (r := r17) ⟨hx, hb, hml, hown, hts⟩ (kX7_lotsOf E l a0 a1 a2 a3 a4 a5 a6 a7 ss bg kp ik pt st tx ln asd att dn td fo nb p1 r17 hc18) (cwV 1 hts gX7_storeOf_X7_lotsOf rfl rfl rfl (by decide +kernel) ⟨Nat.le_of_ble_eq_true rfl, Nat.le_of_ble_eq_true rfl⟩) hK hP hD hS hA hG hl [0, 1, 2, 3, 4, 5, 6, 7] 0 (by decide) rfl (ci := 7) rfl rfl rfl rfl rfl rfl rfl (Nat.le_of_ble_eq_true rfl) dX7_storeOf_80 (Nat.zero_le _) (Nat.zero_le _) (fun H locs hP hD hS => ?_)
        exact hret r17 _ _ _ _ _ (Option.some.inj h) hP hS rfl dX7_storeOf_83
      replace h := g_if hk11 h
      refine lv_tableOut (tgt := 84) hx hb dX7_storeOf_21 (by have q0 := lv_neT (a := 0) hk7 (by decide); have q1 := lv_neT (a := 1) hk8 (by decide); have q2 := lv_neT (a := 2) hk9 (by decide); have q3 := lv_neT (a := 3) hk10 (by decide); have q4 := lv_neT (a := 4) hk11 (by decide); omega) (by decide) ?_
      refine lv_aload_n hx hb dX7_storeOf_84 rfl (lv_at hl 0 rfl) ?_
      refine lv_iload_n hx hb dX7_storeOf_85 rfl (lv_at hl 1 rfl) ?_
      obtain ⟨r19, hc20, h⟩ := bd1_s h
      refine g_callRi (As := [.int p1]) (rest := []) (r := r19) ⟨hx, hb, hml, hown, hts⟩ (kX7_loadedOf E l a0 a1 a2 a3 a4 a5 a6 a7 ss bg kp ik pt st tx ln asd att dn td fo nb p1 r19 hc20) (cwV 1 hts gX7_storeOf_X7_loadedOf rfl rfl rfl (by decide +kernel) ⟨Nat.le_of_ble_eq_true rfl, Nat.le_of_ble_eq_true rfl⟩) hK hP hD hS hA hG hl [0, 1, 2, 3, 4, 5, 6, 7] 0 (by decide) rfl (ci := 7) rfl rfl rfl rfl rfl rfl rfl (Nat.le_of_ble_eq_true rfl) dX7_storeOf_86 (Nat.zero_le _) (Nat.zero_le _) (fun H locs hP hD hS => ?_)
      exact hret r19 _ _ _ _ _ (Option.some.inj h) hP hS rfl dX7_storeOf_89
    · replace h := g_it hc6 h
      refine lv_iconst (v := (-1 : Int32)) hx hb dX7_storeOf_18 (by decide) ?_
      exact hret (-1 : Int32) _ _ _ _ _ (Option.some.inj h) hP hS rfl dX7_storeOf_19
set_option maxHeartbeats 4000000 in
set_option maxRecDepth 100000 in
theorem kX7_storm (E : gE) (l : Launch) (a0 a1 a2 a3 a4 a5 a6 a7 : Nat) (ss : Nat → Int32) (bg : Nat → Int32) (kp : Nat → Int32) (ik : Int32) (pt : Nat → Int32) (st : Int32) (tx : Nat → Int32) (ln : Int32) (asd : Nat → Int32) (att : Int32) (dn : Int32) (td : Int32) (fo : Int32) (nb : Nat → Int32) (p1 : Int32) (p2 : Int32) (res : Int32 × (Nat → Int32) × (Nat → Int32) × (Nat → Int32) × Int32) (h : fX7_storm ss bg pt st p1 p2 = some res) : gMI E l yX7_storm wsX7_storm ({ frames := 2, cells := 0, slots := 0, locals := 45 } : Room) [.ref a0, .int p1, .int p2] (wMo E a0 a1 a2 a3 a4 a5 a6 a7 ss bg kp ik pt st tx ln asd att dn td fo nb) (fun res : Int32 × (Nat → Int32) × (Nat → Int32) × (Nat → Int32) × Int32 => (wMo E a0 a1 a2 a3 a4 a5 a6 a7 res.2.1 res.2.2.1 kp ik res.2.2.2.1 res.2.2.2.2 tx ln asd att dn td fo nb)) (fun res => res.1) res := by
  refine g_entI (cc := cX7_storm) (maxL := 3) (by decide) rfl (Nat.le_of_ble_eq_true rfl) ?_
  intro p e s m args below meth c A Q ls hx hb hml hown hts hK hP hD hS hA hG hret hl
  unfold fX7_storm at h
  replace hl : lv_has ls 3 [(0, .ref a0), (1, .int p1), (2, .int p2)] := hl
  refine lv_aload_n hx hb dX7_storm_0 rfl (lv_at hl 0 rfl) ?_
  obtain ⟨bg1, hc2, h⟩ := bd1_s h
  refine g_callVv (As := []) (rest := []) (ws1 := (wMo E a0 a1 a2 a3 a4 a5 a6 a7 ss bg1 kp ik pt st tx ln asd att dn td fo nb)) ⟨hx, hb, hml, hown, hts⟩ (kX7_begins E l a0 a1 a2 a3 a4 a5 a6 a7 ss bg kp ik pt st tx ln asd att dn td fo nb bg1 hc2) (cwV 0 hts gX7_storm_X7_begins rfl rfl rfl (by decide +kernel) ⟨Nat.le_of_ble_eq_true rfl, Nat.le_of_ble_eq_true rfl⟩) hK hP hD hS hA hG hl [0, 1, 2, 3, 4, 5, 6, 7] 0 (by decide) rfl (ci := 7) rfl rfl rfl rfl rfl rfl rfl rfl (Nat.le_of_ble_eq_true rfl) dX7_storm_1 (Nat.zero_le _) (Nat.zero_le _) (fun H locs hP hD hS => ?_)
  refine lv_aload_n hx hb dX7_storm_4 rfl (lv_at hl 0 rfl) ?_
  refine lv_aload_n hx hb dX7_storm_5 rfl (lv_at hl 0 rfl) ?_
  refine lv_iload_n hx hb dX7_storm_6 rfl (lv_at hl 1 rfl) ?_
  refine lv_iload_n hx hb dX7_storm_7 rfl (lv_at hl 2 rfl) ?_
  obtain ⟨r3, ss4, hc5, h⟩ := bd2_s h
  refine g_callVi (As := [.int p1, .int p2]) (rest := [.ref a0]) (r := r3) (ws1 := (wMo E a0 a1 a2 a3 a4 a5 a6 a7 ss4 bg1 kp ik pt st tx ln asd att dn td fo nb)) ⟨hx, hb, hml, hown, hts⟩ (kX7_storms E l a0 a1 a2 a3 a4 a5 a6 a7 ss bg1 kp ik pt st tx ln asd att dn td fo nb p1 p2 (r3, ss4) hc5) (cwV 2 hts gX7_storm_X7_storms rfl rfl rfl (by decide +kernel) ⟨Nat.le_of_ble_eq_true rfl, Nat.le_of_ble_eq_true rfl⟩) hK hP hD hS hA hG hl [0, 1, 2, 3, 4, 5, 6, 7] 0 (by decide) rfl (ci := 7) rfl rfl rfl rfl rfl rfl rfl rfl rfl (Nat.le_of_ble_eq_true rfl) dX7_storm_8 (Nat.zero_le _) (Nat.zero_le _) (fun H locs hP hD hS => ?_)
  obtain ⟨r6, ss7, pt8, st9, hc10, h⟩ := bd4_s h
  refine g_callVi (As := [.int r3]) (rest := []) (r := r6) (ws1 := (wMo E a0 a1 a2 a3 a4 a5 a6 a7 ss7 bg1 kp ik pt8 st9 tx ln asd att dn td fo nb)) ⟨hx, hb, hml, hown, hts⟩ (kX7_acted E l a0 a1 a2 a3 a4 a5 a6 a7 ss4 bg1 kp ik pt st tx ln asd att dn td fo nb r3 (r6, ss7, pt8, st9) hc10) (cwV 1 hts gX7_storm_X7_acted rfl rfl rfl (by decide +kernel) ⟨Nat.le_of_ble_eq_true rfl, Nat.le_of_ble_eq_true rfl⟩) hK hP hD hS hA hG hl [0, 1, 2, 3, 4, 5, 6, 7] 0 (by decide) rfl (ci := 7) rfl rfl rfl rfl rfl rfl rfl rfl rfl (Nat.le_of_ble_eq_true rfl) dX7_storm_11 (Nat.zero_le _) (Nat.zero_le _) (fun H locs hP hD hS => ?_)
  exact hret (r6, ss7, bg1, pt8, st9) _ _ _ _ _ (Option.some.inj h) hP hS rfl dX7_storm_14
