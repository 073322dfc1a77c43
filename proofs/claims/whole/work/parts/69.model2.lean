set_option maxHeartbeats 4000000 in
set_option maxRecDepth 100000 in
theorem kX7_stock (E : gE) (l : Launch) (a0 a1 a2 a3 a4 a5 a6 a7 : Nat) (ss : Nat → Int32) (bg : Nat → Int32) (kp : Nat → Int32) (ik : Int32) (pt : Nat → Int32) (st : Int32) (tx : Nat → Int32) (ln : Int32) (asd : Nat → Int32) (att : Int32) (dn : Int32) (td : Int32) (fo : Int32) (nb : Nat → Int32) (p1 : Int32) (res : Int32) (h : fX7_stock ss p1 = some res) : gMI E l yX7_stock wsX7_stock ({ frames := 1, cells := 0, slots := 0, locals := 22 } : Room) [.ref a0, .int p1] (wMo E a0 a1 a2 a3 a4 a5 a6 a7 ss bg kp ik pt st tx ln asd att dn td fo nb) (fun res : Int32 => (wMo E a0 a1 a2 a3 a4 a5 a6 a7 ss bg kp ik pt st tx ln asd att dn td fo nb)) (fun res => res) res := by
  refine g_entI (cc := cX7_stock) (maxL := 4) (by decide) rfl (Nat.le_of_ble_eq_true rfl) ?_
  intro p e s m args below meth c A Q ls hx hb hml hown hts hK hP hD hS hA hG hret hl
  unfold fX7_stock at h
  replace hl : lv_has ls 4 [(0, .ref a0), (1, .int p1)] := hl
  have hiX7 : ∀ w ∈ wsX70, w ∈ wsX7_stock := by decide +kernel
  have hw0 := hts (.fieldLink RX7 7 "GlacierHutModel" "s" "[I") (by decide +kernel)
  refine lv_iconst (v := (0 : Int32)) hx hb dX7_stock_0 (by decide) ?_
  refine lv_istore_n (lv' := [(2, .int (0 : Int32)), (0, .ref a0), (1, .int p1)]) hx hb dX7_stock_1 rfl hl (by decide) rfl (fun ls hl => ?_)
  refine lv_iconst (v := (0 : Int32)) hx hb dX7_stock_2 (by decide) ?_
  refine lv_istore_n (lv' := [(3, .int (0 : Int32)), (2, .int (0 : Int32)), (0, .ref a0), (1, .int p1)]) hx hb dX7_stock_3 rfl hl (by decide) rfl (fun ls hl => ?_)
  refine gl2_e h (fun S_rec1 hS_rec1 h => ?_)
  have hL_rec1 : ∀ (nF : Nat) (v2 : Int32) (v3 : Int32) (H : Heap) (locs : List Loc) (ls : Array Slot), va_P E.1 vwCl (wMo E a0 a1 a2 a3 a4 a5 a6 a7 ss bg kp ik pt st tx ln asd att dn td fo nb) H → va_S A s.heap H locs → lv_has ls 4 [(3, .int v2), (2, .int v3), (0, .ref a0), (1, .int p1)] → gl2 S_rec1 nF v2 v3 = some res → W p l e ({ frames := 1, cells := 0, slots := 0, locals := 22 } : Room) s m args below meth c H locs 0 0 Q (F0 m 4 ls []) := by
    intro nF
    induction nF with
    | zero => intro v2 v3 H locs ls hP hS hl h; exact gl2_z h
    | succ nF ih_rec1 =>
      intro v2 v3 H locs ls hP hS hl h
      replace hD : va_D A (wMo E a0 a1 a2 a3 a4 a5 a6 a7 ss bg kp ik pt st tx ln asd att dn td fo nb) := gD_same hD rfl
      replace h : S_rec1 (gl2 S_rec1 nF) v2 v3 = some res := h
      generalize gl2 S_rec1 nF = rec1 at h ih_rec1
      subst hS_rec1
      unfold sX7_stock_rec1 at h
      refine lv_iload_n hx hb dX7_stock_4 rfl (lv_at hl 0 rfl) ?_
      refine lv_aload_n hx hb dX7_stock_5 rfl (lv_at hl 2 rfl) ?_
      refine va_get (D := E.1) (cl := vwCl) (ci := 7) (v := .ref a1) (C := RX7) (T := TX7) (N := 14) hx hb hts hiX7 hown hK hP 0 rfl rfl 0 (by decide) hw0 (fun _ h9 => h9) rfl dX7_stock_6 ?_
      refine lv_iconst (v := (2 : Int32)) hx hb dX7_stock_9 (by decide) ?_
      obtain ⟨hg4, h⟩ := gd_s h
      refine va_iald (D := E.1) (cl := vwCl) (tys := gT E) hx hb hK hP 1 0 rfl rfl (inB_in hg4) dX7_stock_10 ?_
      refine lv_icmp_ge (tgt := 43) hx hb dX7_stock_11 (by decide) (fun hc5 => ?_) (fun hc5 => ?_)
      · replace h := g_it hc5 h
        refine lv_iload_n hx hb dX7_stock_43 rfl (lv_at hl 1 rfl) ?_
        exact hret v3 _ _ _ _ _ (Option.some.inj h) hP hS rfl dX7_stock_44
      · replace h := g_if hc5 h
        refine lv_iload_n hx hb dX7_stock_14 rfl (lv_at hl 1 rfl) ?_
        refine lv_aload_n hx hb dX7_stock_15 rfl (lv_at hl 2 rfl) ?_
        refine lv_iload_n hx hb dX7_stock_16 rfl (lv_at hl 0 rfl) ?_
        refine lv_iconst (v := (0 : Int32)) hx hb dX7_stock_17 (by decide) ?_
        obtain ⟨r6, hc7, h⟩ := bd1_s h
        refine g_callRi (As := [.int v2, .int (0 : Int32)]) (rest := [.int v3]) (r := r6) ⟨hx, hb, hml, hown, hts⟩ (kX7_ofLot E l a0 a1 a2 a3 a4 a5 a6 a7 ss bg kp ik pt st tx ln asd att dn td fo nb v2 (0 : Int32) r6 hc7) (cwV 2 hts gX7_stock_X7_ofLot rfl rfl rfl (by decide +kernel) ⟨Nat.le_of_ble_eq_true rfl, Nat.le_of_ble_eq_true rfl⟩) hK hP hD hS hA hG hl [0, 1, 2, 3, 4, 5, 6, 7] 0 (by decide) rfl (ci := 7) rfl rfl rfl rfl rfl rfl rfl (Nat.le_of_ble_eq_true rfl) dX7_stock_18 (Nat.zero_le _) (Nat.zero_le _) (fun H locs hP hD hS => ?_)
        refine lv_iload_n hx hb dX7_stock_21 rfl (lv_at hl 3 rfl) ?_
        refine lv_icmp_ne (tgt := 34) hx hb dX7_stock_22 (by decide) (fun hc8 => ?_) (fun hc8 => ?_)
        · replace h := g_if hc8 h
          refine lv_iconst (v := (0 : Int32)) hx hb dX7_stock_34 (by decide) ?_
          refine lv_iadd hx hb dX7_stock_35 ?_
          refine lv_topi (fun v9 e_v9 => ?_)
          replace h := jl_s e_v9 h
          refine lv_istore_n (lv' := [(2, .int v9), (3, .int v2), (0, .ref a0), (1, .int p1)]) hx hb dX7_stock_36 rfl hl (by decide) rfl (fun ls hl => ?_)
          obtain ⟨v10, e_v10⟩ : ∃ y : Int32, y = (v2 + (1 : Int32)) := ⟨_, rfl⟩
          replace h := jl_s e_v10 h
          refine lv_iinc (v := v10) (lv' := [(3, .int v10), (2, .int v9), (0, .ref a0), (1, .int p1)]) hx hb dX7_stock_37 hl (k := 1) rfl (by rw [e_v10]; rfl) (by decide) rfl (fun ls hl => ?_)
          refine lv_goto (tgt := 4) hx hb dX7_stock_40 (by decide) ?_
          exact ih_rec1 v10 v9 _ _ _ hP hS (lv_sub hl [0, 1, 2, 3] rfl) h
        · replace h := g_it hc8 h
          refine lv_aload_n hx hb dX7_stock_25 rfl (lv_at hl 2 rfl) ?_
          refine lv_iload_n hx hb dX7_stock_26 rfl (lv_at hl 0 rfl) ?_
          refine lv_iconst (v := (1 : Int32)) hx hb dX7_stock_27 (by decide) ?_
          obtain ⟨r11, hc12, h⟩ := bd1_s h
          refine g_callRi (As := [.int v2, .int (1 : Int32)]) (rest := [.int v3]) (r := r11) ⟨hx, hb, hml, hown, hts⟩ (kX7_ofLot E l a0 a1 a2 a3 a4 a5 a6 a7 ss bg kp ik pt st tx ln asd att dn td fo nb v2 (1 : Int32) r11 hc12) (cwV 2 hts gX7_stock_X7_ofLot rfl rfl rfl (by decide +kernel) ⟨Nat.le_of_ble_eq_true rfl, Nat.le_of_ble_eq_true rfl⟩) hK hP hD hS hA hG hl [0, 1, 2, 3, 4, 5, 6, 7] 0 (by decide) rfl (ci := 7) rfl rfl rfl rfl rfl rfl rfl (Nat.le_of_ble_eq_true rfl) dX7_stock_28 (Nat.zero_le _) (Nat.zero_le _) (fun H locs hP hD hS => ?_)
          refine lv_goto (tgt := 35) hx hb dX7_stock_31 (by decide) ?_
          refine lv_iadd hx hb dX7_stock_35 ?_
          refine lv_topi (fun v13 e_v13 => ?_)
          replace h := jl_s e_v13 h
          refine lv_istore_n (lv' := [(2, .int v13), (3, .int v2), (0, .ref a0), (1, .int p1)]) hx hb dX7_stock_36 rfl hl (by decide) rfl (fun ls hl => ?_)
          obtain ⟨v14, e_v14⟩ : ∃ y : Int32, y = (v2 + (1 : Int32)) := ⟨_, rfl⟩
          replace h := jl_s e_v14 h
          refine lv_iinc (v := v14) (lv' := [(3, .int v14), (2, .int v13), (0, .ref a0), (1, .int p1)]) hx hb dX7_stock_37 hl (k := 1) rfl (by rw [e_v14]; rfl) (by decide) rfl (fun ls hl => ?_)
          refine lv_goto (tgt := 4) hx hb dX7_stock_40 (by decide) ?_
          exact ih_rec1 v14 v13 _ _ _ hP hS (lv_sub hl [0, 1, 2, 3] rfl) h
  exact hL_rec1 gFU (0 : Int32) (0 : Int32) _ _ _ hP hS (lv_sub hl [0, 1, 2, 3] rfl) h
set_option maxHeartbeats 4000000 in
set_option maxRecDepth 100000 in
theorem kX7_firstOf (E : gE) (l : Launch) (a0 a1 a2 a3 a4 a5 a6 a7 : Nat) (ss : Nat → Int32) (bg : Nat → Int32) (kp : Nat → Int32) (ik : Int32) (pt : Nat → Int32) (st : Int32) (tx : Nat → Int32) (ln : Int32) (asd : Nat → Int32) (att : Int32) (dn : Int32) (td : Int32) (fo : Int32) (nb : Nat → Int32) (p1 : Int32) (res : Int32) (h : fX7_firstOf ss p1 = some res) : gMI E l yX7_firstOf wsX7_firstOf ({ frames := 1, cells := 0, slots := 0, locals := 22 } : Room) [.ref a0, .int p1] (wMo E a0 a1 a2 a3 a4 a5 a6 a7 ss bg kp ik pt st tx ln asd att dn td fo nb) (fun res : Int32 => (wMo E a0 a1 a2 a3 a4 a5 a6 a7 ss bg kp ik pt st tx ln asd att dn td fo nb)) (fun res => res) res := by
  refine g_entI (cc := cX7_firstOf) (maxL := 3) (by decide) rfl (Nat.le_of_ble_eq_true rfl) ?_
  intro p e s m args below meth c A Q ls hx hb hml hown hts hK hP hD hS hA hG hret hl
  unfold fX7_firstOf at h
  replace hl : lv_has ls 3 [(0, .ref a0), (1, .int p1)] := hl
  have hiX7 : ∀ w ∈ wsX70, w ∈ wsX7_firstOf := by decide +kernel
  have hw0 := hts (.fieldLink RX7 7 "GlacierHutModel" "s" "[I") (by decide +kernel)
  refine lv_iconst (v := (0 : Int32)) hx hb dX7_firstOf_0 (by decide) ?_
  refine lv_istore_n (lv' := [(2, .int (0 : Int32)), (0, .ref a0), (1, .int p1)]) hx hb dX7_firstOf_1 rfl hl (by decide) rfl (fun ls hl => ?_)
  refine gl1_e h (fun S_rec1 hS_rec1 h => ?_)
  have hL_rec1 : ∀ (nF : Nat) (v2 : Int32) (H : Heap) (locs : List Loc) (ls : Array Slot), va_P E.1 vwCl (wMo E a0 a1 a2 a3 a4 a5 a6 a7 ss bg kp ik pt st tx ln asd att dn td fo nb) H → va_S A s.heap H locs → lv_has ls 3 [(2, .int v2), (0, .ref a0), (1, .int p1)] → gl1 S_rec1 nF v2 = some res → W p l e ({ frames := 1, cells := 0, slots := 0, locals := 22 } : Room) s m args below meth c H locs 0 0 Q (F0 m 2 ls []) := by
    intro nF
    induction nF with
    | zero => intro v2 H locs ls hP hS hl h; exact gl1_z h
    | succ nF ih_rec1 =>
      intro v2 H locs ls hP hS hl h
      replace hD : va_D A (wMo E a0 a1 a2 a3 a4 a5 a6 a7 ss bg kp ik pt st tx ln asd att dn td fo nb) := gD_same hD rfl
      replace h : S_rec1 (gl1 S_rec1 nF) v2 = some res := h
      generalize gl1 S_rec1 nF = rec1 at h ih_rec1
      subst hS_rec1
      unfold sX7_firstOf_rec1 at h
      refine lv_iload_n hx hb dX7_firstOf_2 rfl (lv_at hl 0 rfl) ?_
      refine lv_aload_n hx hb dX7_firstOf_3 rfl (lv_at hl 1 rfl) ?_
      refine va_get (D := E.1) (cl := vwCl) (ci := 7) (v := .ref a1) (C := RX7) (T := TX7) (N := 14) hx hb hts hiX7 hown hK hP 0 rfl rfl 0 (by decide) hw0 (fun _ h9 => h9) rfl dX7_firstOf_4 ?_
      refine lv_iconst (v := (2 : Int32)) hx hb dX7_firstOf_7 (by decide) ?_
      obtain ⟨hg3, h⟩ := gd_s h
      refine va_iald (D := E.1) (cl := vwCl) (tys := gT E) hx hb hK hP 1 0 rfl rfl (inB_in hg3) dX7_firstOf_8 ?_
      refine lv_icmp_ge (tgt := 28) hx hb dX7_firstOf_9 (by decide) (fun hc4 => ?_) (fun hc4 => ?_)
      · replace h := g_it hc4 h
        refine lv_iload_n hx hb dX7_firstOf_28 rfl (lv_at hl 0 rfl) ?_
        exact hret v2 _ _ _ _ _ (Option.some.inj h) hP hS rfl dX7_firstOf_29
      · replace h := g_if hc4 h
        refine lv_aload_n hx hb dX7_firstOf_12 rfl (lv_at hl 1 rfl) ?_
        refine lv_iload_n hx hb dX7_firstOf_13 rfl (lv_at hl 0 rfl) ?_
        refine lv_iconst (v := (0 : Int32)) hx hb dX7_firstOf_14 (by decide) ?_
        obtain ⟨r5, hc6, h⟩ := bd1_s h
        refine g_callRi (As := [.int v2, .int (0 : Int32)]) (rest := []) (r := r5) ⟨hx, hb, hml, hown, hts⟩ (kX7_ofLot E l a0 a1 a2 a3 a4 a5 a6 a7 ss bg kp ik pt st tx ln asd att dn td fo nb v2 (0 : Int32) r5 hc6) (cwV 2 hts gX7_firstOf_X7_ofLot rfl rfl rfl (by decide +kernel) ⟨Nat.le_of_ble_eq_true rfl, Nat.le_of_ble_eq_true rfl⟩) hK hP hD hS hA hG hl [0, 1, 2, 3, 4, 5, 6, 7] 0 (by decide) rfl (ci := 7) rfl rfl rfl rfl rfl rfl rfl (Nat.le_of_ble_eq_true rfl) dX7_firstOf_15 (Nat.zero_le _) (Nat.zero_le _) (fun H locs hP hD hS => ?_)
        refine lv_iload_n hx hb dX7_firstOf_18 rfl (lv_at hl 2 rfl) ?_
        refine lv_icmp_eq (tgt := 28) hx hb dX7_firstOf_19 (by decide) (fun hc7 => ?_) (fun hc7 => ?_)
        · replace h := g_it hc7 h
          refine lv_iload_n hx hb dX7_firstOf_28 rfl (lv_at hl 0 rfl) ?_
          exact hret v2 _ _ _ _ _ (Option.some.inj h) hP hS rfl dX7_firstOf_29
        · replace h := g_if hc7 h
          obtain ⟨v8, e_v8⟩ : ∃ y : Int32, y = (v2 + (1 : Int32)) := ⟨_, rfl⟩
          replace h := jl_s e_v8 h
          refine lv_iinc (v := v8) (lv' := [(2, .int v8), (0, .ref a0), (1, .int p1)]) hx hb dX7_firstOf_22 hl (k := 0) rfl (by rw [e_v8]; rfl) (by decide) rfl (fun ls hl => ?_)
          refine lv_goto (tgt := 2) hx hb dX7_firstOf_25 (by decide) ?_
          exact ih_rec1 v8 _ _ _ hP hS (lv_sub hl [0, 1, 2] rfl) h
  exact hL_rec1 gFU (0 : Int32) _ _ _ hP hS (lv_sub hl [0, 1, 2] rfl) h
set_option maxHeartbeats 4000000 in
set_option maxRecDepth 100000 in
theorem kX7_removes (E : gE) (l : Launch) (a0 a1 a2 a3 a4 a5 a6 a7 : Nat) (ss : Nat → Int32) (bg : Nat → Int32) (kp : Nat → Int32) (ik : Int32) (pt : Nat → Int32) (st : Int32) (tx : Nat → Int32) (ln : Int32) (asd : Nat → Int32) (att : Int32) (dn : Int32) (td : Int32) (fo : Int32) (nb : Nat → Int32) (p1 : Int32) (res : (Nat → Int32)) (h : fX7_removes ss p1 = some res) : gMV E l yX7_removes wsX7_removes ({ frames := 0, cells := 0, slots := 0, locals := 0 } : Room) [.ref a0, .int p1] (wMo E a0 a1 a2 a3 a4 a5 a6 a7 ss bg kp ik pt st tx ln asd att dn td fo nb) (fun res : (Nat → Int32) => (wMo E a0 a1 a2 a3 a4 a5 a6 a7 res bg kp ik pt st tx ln asd att dn td fo nb)) res := by
  refine g_entV (cc := cX7_removes) (maxL := 3) (by decide) rfl (Nat.le_of_ble_eq_true rfl) ?_
  intro p e s m args below meth c A Q ls hx hb hml hown hts hK hP hD hS hA hG hret hl
  unfold fX7_removes at h
  replace hl : lv_has ls 3 [(0, .ref a0), (1, .int p1)] := hl
  have hiX7 : ∀ w ∈ wsX70, w ∈ wsX7_removes := by decide +kernel
  have hw0 := hts (.fieldLink RX7 7 "GlacierHutModel" "s" "[I") (by decide +kernel)
  refine lv_aload_n hx hb dX7_removes_0 rfl (lv_at hl 0 rfl) ?_
  refine va_get (D := E.1) (cl := vwCl) (ci := 7) (v := .ref a1) (C := RX7) (T := TX7) (N := 14) hx hb hts hiX7 hown hK hP 0 rfl rfl 0 (by decide) hw0 (fun _ h9 => h9) rfl dX7_removes_1 ?_
  refine lv_iconst (v := (2 : Int32)) hx hb dX7_removes_4 (by decide) ?_
  refine lv_dup2_11 hx hb dX7_removes_5 rfl rfl ?_
  obtain ⟨hg1, h⟩ := gd_s h
  refine va_iald (D := E.1) (cl := vwCl) (tys := gT E) hx hb hK hP 1 0 rfl rfl (inB_in hg1) dX7_removes_6 ?_
  refine lv_iconst (v := (1 : Int32)) hx hb dX7_removes_7 (by decide) ?_
  refine lv_isub hx hb dX7_removes_8 ?_
  refine va_iast (D := E.1) (cl := vwCl) (tys := gT E) hx hb hK hP hD hS 1 0 rfl rfl (inB_in hg1) dX7_removes_9 (fun H locs hP hD hS => ?_)
  obtain ⟨ss2, e_ss2⟩ : ∃ y : Nat → Int32, y = (upd ss ((2 : Int32)).toNatClampNeg ((ss ((2 : Int32)).toNatClampNeg) - (1 : Int32))) := ⟨_, rfl⟩
  replace h := jl_s e_ss2 h
  replace hP : va_P E.1 vwCl (wMo E a0 a1 a2 a3 a4 a5 a6 a7 ss2 bg kp ik pt st tx ln asd att dn td fo nb) H := (by rw [e_ss2]; exact hP)
  replace hD : va_D A (wMo E a0 a1 a2 a3 a4 a5 a6 a7 ss2 bg kp ik pt st tx ln asd att dn td fo nb) := gD_same hD rfl
  refine lv_bipush (v := (41 : Int32)) hx hb dX7_removes_10 (by decide) ?_
  refine lv_iconst (v := (3 : Int32)) hx hb dX7_removes_12 (by decide) ?_
  refine lv_iload_n hx hb dX7_removes_13 rfl (lv_at hl 1 rfl) ?_
  refine lv_imul hx hb dX7_removes_14 ?_
  refine lv_iadd hx hb dX7_removes_15 ?_
  refine lv_topi (fun v3 e_v3 => ?_)
  replace h := jl_s e_v3 h
  refine lv_istore_n (lv' := [(2, .int v3), (0, .ref a0), (1, .int p1)]) hx hb dX7_removes_16 rfl hl (by decide) rfl (fun ls hl => ?_)
  refine gl2_e h (fun S_rec4 hS_rec4 h => ?_)
  have hL_rec4 : ∀ (nF : Nat) (v5 : Int32) (ss6 : Nat → Int32) (H : Heap) (locs : List Loc) (ls : Array Slot), va_P E.1 vwCl (wMo E a0 a1 a2 a3 a4 a5 a6 a7 ss6 bg kp ik pt st tx ln asd att dn td fo nb) H → va_S A s.heap H locs → lv_has ls 3 [(2, .int v5), (0, .ref a0)] → gl2 S_rec4 nF v5 ss6 = some res → W p l e ({ frames := 0, cells := 0, slots := 0, locals := 0 } : Room) s m args below meth c H locs 0 0 Q (F0 m 17 ls []) := by
    intro nF
    induction nF with
    | zero => intro v5 ss6 H locs ls hP hS hl h; exact gl2_z h
    | succ nF ih_rec4 =>
      intro v5 ss6 H locs ls hP hS hl h
      replace hD : va_D A (wMo E a0 a1 a2 a3 a4 a5 a6 a7 ss6 bg kp ik pt st tx ln asd att dn td fo nb) := gD_same hD rfl
      replace h : S_rec4 (gl2 S_rec4 nF) v5 ss6 = some res := h
      generalize gl2 S_rec4 nF = rec4 at h ih_rec4
      subst hS_rec4
      unfold sX7_removes_rec4 at h
      refine lv_iload_n hx hb dX7_removes_17 rfl (lv_at hl 0 rfl) ?_
      refine lv_bipush (v := (41 : Int32)) hx hb dX7_removes_18 (by decide) ?_
      refine lv_iconst (v := (3 : Int32)) hx hb dX7_removes_20 (by decide) ?_
      refine lv_aload_n hx hb dX7_removes_21 rfl (lv_at hl 1 rfl) ?_
      refine va_get (D := E.1) (cl := vwCl) (ci := 7) (v := .ref a1) (C := RX7) (T := TX7) (N := 14) hx hb hts hiX7 hown hK hP 0 rfl rfl 0 (by decide) hw0 (fun _ h9 => h9) rfl dX7_removes_22 ?_
      refine lv_iconst (v := (2 : Int32)) hx hb dX7_removes_25 (by decide) ?_
      refine va_iald (D := E.1) (cl := vwCl) (tys := gT E) hx hb hK hP 1 0 rfl rfl (inB_in hg1) dX7_removes_26 ?_
      refine lv_imul hx hb dX7_removes_27 ?_
      refine lv_iadd hx hb dX7_removes_28 ?_
      refine lv_icmp_ge (tgt := 52) hx hb dX7_removes_29 (by decide) (fun hc7 => ?_) (fun hc7 => ?_)
      · replace h := g_it hc7 h
        refine lv_iconst (v := (0 : Int32)) hx hb dX7_removes_52 (by decide) ?_
        refine lv_istore_n (lv' := [(2, .int (0 : Int32)), (0, .ref a0)]) hx hb dX7_removes_53 rfl hl (by decide) rfl (fun ls hl => ?_)
        refine gl2_e h (fun S_rec8 hS_rec8 h => ?_)
        have hL_rec8 : ∀ (nF : Nat) (v9 : Int32) (ss10 : Nat → Int32) (H : Heap) (locs : List Loc) (ls : Array Slot), va_P E.1 vwCl (wMo E a0 a1 a2 a3 a4 a5 a6 a7 ss10 bg kp ik pt st tx ln asd att dn td fo nb) H → va_S A s.heap H locs → lv_has ls 3 [(2, .int v9), (0, .ref a0)] → gl2 S_rec8 nF v9 ss10 = some res → W p l e ({ frames := 0, cells := 0, slots := 0, locals := 0 } : Room) s m args below meth c H locs 0 0 Q (F0 m 54 ls []) := by
          intro nF
          induction nF with
          | zero => intro v9 ss10 H locs ls hP hS hl h; exact gl2_z h
          | succ nF ih_rec8 =>
            intro v9 ss10 H locs ls hP hS hl h
            replace hD : va_D A (wMo E a0 a1 a2 a3 a4 a5 a6 a7 ss10 bg kp ik pt st tx ln asd att dn td fo nb) := gD_same hD rfl
            replace h : S_rec8 (gl2 S_rec8 nF) v9 ss10 = some res := h
            generalize gl2 S_rec8 nF = rec8 at h ih_rec8
            subst hS_rec8
            unfold sX7_removes_rec8 at h
            refine lv_iload_n hx hb dX7_removes_54 rfl (lv_at hl 0 rfl) ?_
            refine lv_iconst (v := (3 : Int32)) hx hb dX7_removes_55 (by decide) ?_
            refine lv_icmp_ge (tgt := 84) hx hb dX7_removes_56 (by decide) (fun hc11 => ?_) (fun hc11 => ?_)
            · replace h := g_it hc11 h
              exact hret ss10 _ _ _ _ (Option.some.inj h) hP hS dX7_removes_84
            · replace h := g_if hc11 h
              refine lv_aload_n hx hb dX7_removes_59 rfl (lv_at hl 1 rfl) ?_
              refine va_get (D := E.1) (cl := vwCl) (ci := 7) (v := .ref a1) (C := RX7) (T := TX7) (N := 14) hx hb hts hiX7 hown hK hP 0 rfl rfl 0 (by decide) hw0 (fun _ h9 => h9) rfl dX7_removes_60 ?_
              refine lv_bipush (v := (41 : Int32)) hx hb dX7_removes_63 (by decide) ?_
              refine lv_iconst (v := (3 : Int32)) hx hb dX7_removes_65 (by decide) ?_
              refine lv_aload_n hx hb dX7_removes_66 rfl (lv_at hl 1 rfl) ?_
              refine va_get (D := E.1) (cl := vwCl) (ci := 7) (v := .ref a1) (C := RX7) (T := TX7) (N := 14) hx hb hts hiX7 hown hK hP 0 rfl rfl 0 (by decide) hw0 (fun _ h9 => h9) rfl dX7_removes_67 ?_
              refine lv_iconst (v := (2 : Int32)) hx hb dX7_removes_70 (by decide) ?_
              refine va_iald (D := E.1) (cl := vwCl) (tys := gT E) hx hb hK hP 1 0 rfl rfl (inB_in hg1) dX7_removes_71 ?_
              refine lv_imul hx hb dX7_removes_72 ?_
              refine lv_iadd hx hb dX7_removes_73 ?_
              refine lv_iload_n hx hb dX7_removes_74 rfl (lv_at hl 0 rfl) ?_
              refine lv_iadd hx hb dX7_removes_75 ?_
              refine lv_iconst (v := (0 : Int32)) hx hb dX7_removes_76 (by decide) ?_
              obtain ⟨hg12, h⟩ := gd_s h
              refine va_iast (D := E.1) (cl := vwCl) (tys := gT E) hx hb hK hP hD hS 1 0 rfl rfl (inB_in hg12) dX7_removes_77 (fun H locs hP hD hS => ?_)
              obtain ⟨ss13, e_ss13⟩ : ∃ y : Nat → Int32, y = (upd ss10 ((((41 : Int32) + ((3 : Int32) * (ss10 ((2 : Int32)).toNatClampNeg))) + v9)).toNatClampNeg (0 : Int32)) := ⟨_, rfl⟩
              replace h := jl_s e_ss13 h
              replace hP : va_P E.1 vwCl (wMo E a0 a1 a2 a3 a4 a5 a6 a7 ss13 bg kp ik pt st tx ln asd att dn td fo nb) H := (by rw [e_ss13]; exact hP)
              replace hD : va_D A (wMo E a0 a1 a2 a3 a4 a5 a6 a7 ss13 bg kp ik pt st tx ln asd att dn td fo nb) := gD_same hD rfl
              obtain ⟨v14, e_v14⟩ : ∃ y : Int32, y = (v9 + (1 : Int32)) := ⟨_, rfl⟩
              replace h := jl_s e_v14 h
              refine lv_iinc (v := v14) (lv' := [(2, .int v14), (0, .ref a0)]) hx hb dX7_removes_78 hl (k := 0) rfl (by rw [e_v14]; rfl) (by decide) rfl (fun ls hl => ?_)
              refine lv_goto (tgt := 54) hx hb dX7_removes_81 (by decide) ?_
              exact ih_rec8 v14 ss13 _ _ _ hP hS (lv_sub hl [0, 1] rfl) h
        exact hL_rec8 gFU (0 : Int32) ss6 _ _ _ hP hS (lv_sub hl [0, 1] rfl) h
      · replace h := g_if hc7 h
        refine lv_aload_n hx hb dX7_removes_32 rfl (lv_at hl 1 rfl) ?_
        refine va_get (D := E.1) (cl := vwCl) (ci := 7) (v := .ref a1) (C := RX7) (T := TX7) (N := 14) hx hb hts hiX7 hown hK hP 0 rfl rfl 0 (by decide) hw0 (fun _ h9 => h9) rfl dX7_removes_33 ?_
        refine lv_iload_n hx hb dX7_removes_36 rfl (lv_at hl 0 rfl) ?_
        refine lv_aload_n hx hb dX7_removes_37 rfl (lv_at hl 1 rfl) ?_
        refine va_get (D := E.1) (cl := vwCl) (ci := 7) (v := .ref a1) (C := RX7) (T := TX7) (N := 14) hx hb hts hiX7 hown hK hP 0 rfl rfl 0 (by decide) hw0 (fun _ h9 => h9) rfl dX7_removes_38 ?_
        refine lv_iload_n hx hb dX7_removes_41 rfl (lv_at hl 0 rfl) ?_
        refine lv_iconst (v := (3 : Int32)) hx hb dX7_removes_42 (by decide) ?_
        refine lv_iadd hx hb dX7_removes_43 ?_
        obtain ⟨hg15, h⟩ := gd_s h
        refine va_iald (D := E.1) (cl := vwCl) (tys := gT E) hx hb hK hP 1 0 rfl rfl (inB_in hg15) dX7_removes_44 ?_
        obtain ⟨hg16, h⟩ := gd_s h
        refine va_iast (D := E.1) (cl := vwCl) (tys := gT E) hx hb hK hP hD hS 1 0 rfl rfl (inB_in hg16) dX7_removes_45 (fun H locs hP hD hS => ?_)
        obtain ⟨ss17, e_ss17⟩ : ∃ y : Nat → Int32, y = (upd ss6 (v5).toNatClampNeg (ss6 ((v5 + (3 : Int32))).toNatClampNeg)) := ⟨_, rfl⟩
        replace h := jl_s e_ss17 h
        replace hP : va_P E.1 vwCl (wMo E a0 a1 a2 a3 a4 a5 a6 a7 ss17 bg kp ik pt st tx ln asd att dn td fo nb) H := (by rw [e_ss17]; exact hP)
        replace hD : va_D A (wMo E a0 a1 a2 a3 a4 a5 a6 a7 ss17 bg kp ik pt st tx ln asd att dn td fo nb) := gD_same hD rfl
        obtain ⟨v18, e_v18⟩ : ∃ y : Int32, y = (v5 + (1 : Int32)) := ⟨_, rfl⟩
        replace h := jl_s e_v18 h
        refine lv_iinc (v := v18) (lv' := [(2, .int v18), (0, .ref a0)]) hx hb dX7_removes_46 hl (k := 0) rfl (by rw [e_v18]; rfl) (by decide) rfl (fun ls hl => ?_)
        refine lv_goto (tgt := 17) hx hb dX7_removes_49 (by decide) ?_
        exact ih_rec4 v18 ss17 _ _ _ hP hS (lv_sub hl [0, 1] rfl) h
  exact hL_rec4 gFU v3 ss2 _ _ _ hP hS (lv_sub hl [0, 1] rfl) h
set_option maxHeartbeats 4000000 in
set_option maxRecDepth 100000 in
theorem kX7_uses (E : gE) (l : Launch) (a0 a1 a2 a3 a4 a5 a6 a7 : Nat) (ss : Nat → Int32) (bg : Nat → Int32) (kp : Nat → Int32) (ik : Int32) (pt : Nat → Int32) (st : Int32) (tx : Nat → Int32) (ln : Int32) (asd : Nat → Int32) (att : Int32) (dn : Int32) (td : Int32) (fo : Int32) (nb : Nat → Int32) (p1 : Int32) (p2 : Int32) (res : Int32 × (Nat → Int32)) (h : fX7_uses ss p1 p2 = some res) : gMI E l yX7_uses wsX7_uses ({ frames := 2, cells := 0, slots := 0, locals := 44 } : Room) [.ref a0, .int p1, .int p2] (wMo E a0 a1 a2 a3 a4 a5 a6 a7 ss bg kp ik pt st tx ln asd att dn td fo nb) (fun res : Int32 × (Nat → Int32) => (wMo E a0 a1 a2 a3 a4 a5 a6 a7 res.2 bg kp ik pt st tx ln asd att dn td fo nb)) (fun res => res.1) res := by
  refine g_entI (cc := cX7_uses) (maxL := 6) (by decide) rfl (Nat.le_of_ble_eq_true rfl) ?_
  intro p e s m args below meth c A Q ls hx hb hml hown hts hK hP hD hS hA hG hret hl
  unfold fX7_uses at h
  replace hl : lv_has ls 6 [(0, .ref a0), (1, .int p1), (2, .int p2)] := hl
  have hiX7 : ∀ w ∈ wsX70, w ∈ wsX7_uses := by decide +kernel
  have hw0 := hts (.fieldLink RX7 7 "GlacierHutModel" "s" "[I") (by decide +kernel)
  refine lv_iload_n hx hb dX7_uses_0 rfl (lv_at hl 2 rfl) ?_
  refine lv_istore_n (lv' := [(3, .int p2), (0, .ref a0), (1, .int p1), (2, .int p2)]) hx hb dX7_uses_1 rfl hl (by decide) rfl (fun ls hl => ?_)
  refine lv_aload_n hx hb dX7_uses_2 rfl (lv_at hl 1 rfl) ?_
  refine lv_iload_n hx hb dX7_uses_3 rfl (lv_at hl 2 rfl) ?_
  obtain ⟨r1, hc2, h⟩ := bd1_s h
  refine g_callRi (As := [.int p1]) (rest := []) (r := r1) ⟨hx, hb, hml, hown, hts⟩ (kX7_firstOf E l a0 a1 a2 a3 a4 a5 a6 a7 ss bg kp ik pt st tx ln asd att dn td fo nb p1 r1 hc2) (cwV 1 hts gX7_uses_X7_firstOf rfl rfl rfl (by decide +kernel) ⟨Nat.le_of_ble_eq_true rfl, Nat.le_of_ble_eq_true rfl⟩) hK hP hD hS hA hG hl [0, 1, 2, 3, 4, 5, 6, 7] 0 (by decide) rfl (ci := 7) rfl rfl rfl rfl rfl rfl rfl (Nat.le_of_ble_eq_true rfl) dX7_uses_4 (Nat.zero_le _) (Nat.zero_le _) (fun H locs hP hD hS => ?_)
  refine lv_istore (lv' := [(4, .int r1), (3, .int p2), (0, .ref a0), (1, .int p1), (2, .int p2)]) hx hb dX7_uses_7 hl (by decide) rfl (fun ls hl => ?_)
  refine gl3_e h (fun S_rec3 hS_rec3 h => ?_)
  have hL_rec3 : ∀ (nF : Nat) (v4 : Int32) (v5 : Int32) (ss6 : Nat → Int32) (H : Heap) (locs : List Loc) (ls : Array Slot), va_P E.1 vwCl (wMo E a0 a1 a2 a3 a4 a5 a6 a7 ss6 bg kp ik pt st tx ln asd att dn td fo nb) H → va_S A s.heap H locs → lv_has ls 6 [(4, .int v4), (3, .int v5), (0, .ref a0), (1, .int p1), (2, .int p2)] → gl3 S_rec3 nF v4 v5 ss6 = some res → W p l e ({ frames := 2, cells := 0, slots := 0, locals := 44 } : Room) s m args below meth c H locs 0 0 Q (F0 m 9 ls []) := by
    intro nF
    induction nF with
    | zero => intro v4 v5 ss6 H locs ls hP hS hl h; exact gl3_z h
    | succ nF ih_rec3 =>
      intro v4 v5 ss6 H locs ls hP hS hl h
      replace hD : va_D A (wMo E a0 a1 a2 a3 a4 a5 a6 a7 ss6 bg kp ik pt st tx ln asd att dn td fo nb) := gD_same hD rfl
      replace h : S_rec3 (gl3 S_rec3 nF) v4 v5 ss6 = some res := h
      generalize gl3 S_rec3 nF = rec3 at h ih_rec3
      subst hS_rec3
      unfold sX7_uses_rec3 at h
      refine lv_iload_n hx hb dX7_uses_9 rfl (lv_at hl 1 rfl) ?_
      refine mrg_e h (fun J8 hK_J8 h => ?_)
      have hJ_J8 : ∀ (_ : Unit) (H : Heap) (locs : List Loc) (ls : Array Slot), va_P E.1 vwCl (wMo E a0 a1 a2 a3 a4 a5 a6 a7 ss6 bg kp ik pt st tx ln asd att dn td fo nb) H → va_S A s.heap H locs → lv_has ls 6 [(3, .int v5), (0, .ref a0), (1, .int p1), (2, .int p2)] → J8 () = some res → W p l e ({ frames := 2, cells := 0, slots := 0, locals := 44 } : Room) s m args below meth c H locs 0 0 Q (F0 m 98 ls []) := by
        intro _ H locs ls hP hS hl h
        replace hD : va_D A (wMo E a0 a1 a2 a3 a4 a5 a6 a7 ss6 bg kp ik pt st tx ln asd att dn td fo nb) := gD_same hD rfl
        subst hK_J8
        refine lv_aload_n hx hb dX7_uses_98 rfl (lv_at hl 1 rfl) ?_
        refine va_get (D := E.1) (cl := vwCl) (ci := 7) (v := .ref a1) (C := RX7) (T := TX7) (N := 14) hx hb hts hiX7 hown hK hP 0 rfl rfl 0 (by decide) hw0 (fun _ h9 => h9) rfl dX7_uses_99 ?_
        refine lv_bipush (v := (17 : Int32)) hx hb dX7_uses_102 (by decide) ?_
        refine lv_iload_n hx hb dX7_uses_104 rfl (lv_at hl 2 rfl) ?_
        refine lv_iadd hx hb dX7_uses_105 ?_
        refine lv_dup2_11 hx hb dX7_uses_106 rfl rfl ?_
        obtain ⟨hg30, h⟩ := gd_s h
        refine va_iald (D := E.1) (cl := vwCl) (tys := gT E) hx hb hK hP 1 0 rfl rfl (inB_in hg30) dX7_uses_107 ?_
        refine lv_iload_n hx hb dX7_uses_108 rfl (lv_at hl 3 rfl) ?_
        refine lv_iload_n hx hb dX7_uses_109 rfl (lv_at hl 0 rfl) ?_
        refine lv_isub hx hb dX7_uses_110 ?_
        refine lv_iadd hx hb dX7_uses_111 ?_
        refine va_iast (D := E.1) (cl := vwCl) (tys := gT E) hx hb hK hP hD hS 1 0 rfl rfl (inB_in hg30) dX7_uses_112 (fun H locs hP hD hS => ?_)
        obtain ⟨ss31, e_ss31⟩ : ∃ y : Nat → Int32, y = (upd ss6 (((17 : Int32) + p1)).toNatClampNeg ((ss6 (((17 : Int32) + p1)).toNatClampNeg) + (p2 - v5))) := ⟨_, rfl⟩
        replace h := jl_s e_ss31 h
        replace hP : va_P E.1 vwCl (wMo E a0 a1 a2 a3 a4 a5 a6 a7 ss31 bg kp ik pt st tx ln asd att dn td fo nb) H := (by rw [e_ss31]; exact hP)
        replace hD : va_D A (wMo E a0 a1 a2 a3 a4 a5 a6 a7 ss31 bg kp ik pt st tx ln asd att dn td fo nb) := gD_same hD rfl
        refine lv_iload_n hx hb dX7_uses_113 rfl (lv_at hl 0 rfl) ?_
        exact hret (v5, ss31) _ _ _ _ _ (Option.some.inj h) hP hS rfl dX7_uses_114
      refine lv_if_le (tgt := 98) hx hb dX7_uses_10 (by decide) (fun hc7 => ?_) (fun hc7 => ?_)
      · replace h := g_it hc7 h
        exact hJ_J8 () _ _ _ hP hS (lv_sub hl [1, 2, 3, 4] rfl) h
      · replace h := g_if hc7 h
        refine lv_iload hx hb dX7_uses_13 (lv_at hl 0 rfl) ?_
        refine lv_aload_n hx hb dX7_uses_15 rfl (lv_at hl 2 rfl) ?_
        refine va_get (D := E.1) (cl := vwCl) (ci := 7) (v := .ref a1) (C := RX7) (T := TX7) (N := 14) hx hb hts hiX7 hown hK hP 0 rfl rfl 0 (by decide) hw0 (fun _ h9 => h9) rfl dX7_uses_16 ?_
        refine lv_iconst (v := (2 : Int32)) hx hb dX7_uses_19 (by decide) ?_
        obtain ⟨hg9, h⟩ := gd_s h
        refine va_iald (D := E.1) (cl := vwCl) (tys := gT E) hx hb hK hP 1 0 rfl rfl (inB_in hg9) dX7_uses_20 ?_
        refine lv_icmp_ge (tgt := 98) hx hb dX7_uses_21 (by decide) (fun hc10 => ?_) (fun hc10 => ?_)
        · replace h := g_it hc10 h
          exact hJ_J8 () _ _ _ hP hS (lv_sub hl [1, 2, 3, 4] rfl) h
        · replace h := g_if hc10 h
          refine lv_aload_n hx hb dX7_uses_24 rfl (lv_at hl 2 rfl) ?_
          refine lv_iload hx hb dX7_uses_25 (lv_at hl 0 rfl) ?_
          refine lv_iconst (v := (1 : Int32)) hx hb dX7_uses_27 (by decide) ?_
          obtain ⟨r11, hc12, h⟩ := bd1_s h
          refine g_callRi (As := [.int v4, .int (1 : Int32)]) (rest := []) (r := r11) ⟨hx, hb, hml, hown, hts⟩ (kX7_ofLot E l a0 a1 a2 a3 a4 a5 a6 a7 ss6 bg kp ik pt st tx ln asd att dn td fo nb v4 (1 : Int32) r11 hc12) (cwV 2 hts gX7_uses_X7_ofLot rfl rfl rfl (by decide +kernel) ⟨Nat.le_of_ble_eq_true rfl, Nat.le_of_ble_eq_true rfl⟩) hK hP hD hS hA hG hl [0, 1, 2, 3, 4, 5, 6, 7] 0 (by decide) rfl (ci := 7) rfl rfl rfl rfl rfl rfl rfl (Nat.le_of_ble_eq_true rfl) dX7_uses_28 (Nat.zero_le _) (Nat.zero_le _) (fun H locs hP hD hS => ?_)
          refine lv_iload_n hx hb dX7_uses_31 rfl (lv_at hl 1 rfl) ?_
          refine mrg_e h (fun J14 hK_J14 h => ?_)
          have hJ_J14 : ∀ (v17 : Int32) (H : Heap) (locs : List Loc) (ls : Array Slot), va_P E.1 vwCl (wMo E a0 a1 a2 a3 a4 a5 a6 a7 ss6 bg kp ik pt st tx ln asd att dn td fo nb) H → va_S A s.heap H locs → lv_has ls 6 [(4, .int v4), (3, .int v5), (0, .ref a0), (1, .int p1), (2, .int p2)] → J14 v17 = some res → W p l e ({ frames := 2, cells := 0, slots := 0, locals := 44 } : Room) s m args below meth c H locs 0 0 Q (F0 m 46 ls [.int v17]) := by
            intro v17 H locs ls hP hS hl h
            replace hD : va_D A (wMo E a0 a1 a2 a3 a4 a5 a6 a7 ss6 bg kp ik pt st tx ln asd att dn td fo nb) := gD_same hD rfl
            subst hK_J14
            refine lv_istore (lv' := [(5, .int v17), (4, .int v4), (3, .int v5), (0, .ref a0), (1, .int p1), (2, .int p2)]) hx hb dX7_uses_46 hl (by decide) rfl (fun ls hl => ?_)
            refine lv_aload_n hx hb dX7_uses_48 rfl (lv_at hl 3 rfl) ?_
            refine va_get (D := E.1) (cl := vwCl) (ci := 7) (v := .ref a1) (C := RX7) (T := TX7) (N := 14) hx hb hts hiX7 hown hK hP 0 rfl rfl 0 (by decide) hw0 (fun _ h9 => h9) rfl dX7_uses_49 ?_
            refine lv_bipush (v := (41 : Int32)) hx hb dX7_uses_52 (by decide) ?_
            refine lv_iconst (v := (3 : Int32)) hx hb dX7_uses_54 (by decide) ?_
            refine lv_iload hx hb dX7_uses_55 (lv_at hl 1 rfl) ?_
            refine lv_imul hx hb dX7_uses_57 ?_
            refine lv_iadd hx hb dX7_uses_58 ?_
            refine lv_iconst (v := (1 : Int32)) hx hb dX7_uses_59 (by decide) ?_
            refine lv_iadd hx hb dX7_uses_60 ?_
            refine lv_dup2_11 hx hb dX7_uses_61 rfl rfl ?_
            obtain ⟨hg18, h⟩ := gd_s h
            refine va_iald (D := E.1) (cl := vwCl) (tys := gT E) hx hb hK hP 1 0 rfl rfl (inB_in hg18) dX7_uses_62 ?_
            refine lv_iload hx hb dX7_uses_63 (lv_at hl 0 rfl) ?_
            refine lv_isub hx hb dX7_uses_65 ?_
            refine va_iast (D := E.1) (cl := vwCl) (tys := gT E) hx hb hK hP hD hS 1 0 rfl rfl (inB_in hg18) dX7_uses_66 (fun H locs hP hD hS => ?_)
            obtain ⟨ss19, e_ss19⟩ : ∃ y : Nat → Int32, y = (upd ss6 ((((41 : Int32) + ((3 : Int32) * v4)) + (1 : Int32))).toNatClampNeg ((ss6 ((((41 : Int32) + ((3 : Int32) * v4)) + (1 : Int32))).toNatClampNeg) - v17)) := ⟨_, rfl⟩
            replace h := jl_s e_ss19 h
            replace hP : va_P E.1 vwCl (wMo E a0 a1 a2 a3 a4 a5 a6 a7 ss19 bg kp ik pt st tx ln asd att dn td fo nb) H := (by rw [e_ss19]; exact hP)
            replace hD : va_D A (wMo E a0 a1 a2 a3 a4 a5 a6 a7 ss19 bg kp ik pt st tx ln asd att dn td fo nb) := gD_same hD rfl
            refine lv_iload_n hx hb dX7_uses_67 rfl (lv_at hl 2 rfl) ?_
            refine lv_iload hx hb dX7_uses_68 (lv_at hl 0 rfl) ?_
            refine lv_isub hx hb dX7_uses_70 ?_
            refine lv_topi (fun v20 e_v20 => ?_)
            replace h := jl_s e_v20 h
            refine lv_istore_n (lv' := [(3, .int v20), (5, .int v17), (4, .int v4), (0, .ref a0), (1, .int p1), (2, .int p2)]) hx hb dX7_uses_71 rfl hl (by decide) rfl (fun ls hl => ?_)
            refine lv_aload_n hx hb dX7_uses_72 rfl (lv_at hl 3 rfl) ?_
            refine lv_iload hx hb dX7_uses_73 (lv_at hl 2 rfl) ?_
            refine lv_iconst (v := (1 : Int32)) hx hb dX7_uses_75 (by decide) ?_
            obtain ⟨r21, hc22, h⟩ := bd1_s h
            refine g_callRi (As := [.int v4, .int (1 : Int32)]) (rest := []) (r := r21) ⟨hx, hb, hml, hown, hts⟩ (kX7_ofLot E l a0 a1 a2 a3 a4 a5 a6 a7 ss19 bg kp ik pt st tx ln asd att dn td fo nb v4 (1 : Int32) r21 hc22) (cwV 2 hts gX7_uses_X7_ofLot rfl rfl rfl (by decide +kernel) ⟨Nat.le_of_ble_eq_true rfl, Nat.le_of_ble_eq_true rfl⟩) hK hP hD hS hA hG hl [0, 1, 2, 3, 4, 5, 6, 7] 0 (by decide) rfl (ci := 7) rfl rfl rfl rfl rfl rfl rfl (Nat.le_of_ble_eq_true rfl) dX7_uses_76 (Nat.zero_le _) (Nat.zero_le _) (fun H locs hP hD hS => ?_)
            refine mrg_e h (fun J24 hK_J24 h => ?_)
            have hJ_J24 : ∀ (ss27 : Nat → Int32) (H : Heap) (locs : List Loc) (ls : Array Slot), va_P E.1 vwCl (wMo E a0 a1 a2 a3 a4 a5 a6 a7 ss27 bg kp ik pt st tx ln asd att dn td fo nb) H → va_S A s.heap H locs → lv_has ls 6 [(3, .int v20), (0, .ref a0), (1, .int p1), (2, .int p2)] → J24 ss27 = some res → W p l e ({ frames := 2, cells := 0, slots := 0, locals := 44 } : Room) s m args below meth c H locs 0 0 Q (F0 m 88 ls []) := by
              intro ss27 H locs ls hP hS hl h
              replace hD : va_D A (wMo E a0 a1 a2 a3 a4 a5 a6 a7 ss27 bg kp ik pt st tx ln asd att dn td fo nb) := gD_same hD rfl
              subst hK_J24
              refine lv_aload_n hx hb dX7_uses_88 rfl (lv_at hl 1 rfl) ?_
              refine lv_iload_n hx hb dX7_uses_89 rfl (lv_at hl 2 rfl) ?_
              obtain ⟨r28, hc29, h⟩ := bd1_s h
              refine g_callRi (As := [.int p1]) (rest := []) (r := r28) ⟨hx, hb, hml, hown, hts⟩ (kX7_firstOf E l a0 a1 a2 a3 a4 a5 a6 a7 ss27 bg kp ik pt st tx ln asd att dn td fo nb p1 r28 hc29) (cwV 1 hts gX7_uses_X7_firstOf rfl rfl rfl (by decide +kernel) ⟨Nat.le_of_ble_eq_true rfl, Nat.le_of_ble_eq_true rfl⟩) hK hP hD hS hA hG hl [0, 1, 2, 3, 4, 5, 6, 7] 0 (by decide) rfl (ci := 7) rfl rfl rfl rfl rfl rfl rfl (Nat.le_of_ble_eq_true rfl) dX7_uses_90 (Nat.zero_le _) (Nat.zero_le _) (fun H locs hP hD hS => ?_)
              refine lv_istore (lv' := [(4, .int r28), (3, .int v20), (0, .ref a0), (1, .int p1), (2, .int p2)]) hx hb dX7_uses_93 hl (by decide) rfl (fun ls hl => ?_)
              refine lv_goto (tgt := 9) hx hb dX7_uses_95 (by decide) ?_
              exact ih_rec3 r28 v20 ss27 _ _ _ hP hS (lv_sub hl [0, 1, 2, 3, 4] rfl) h
            refine lv_if_ne (tgt := 88) hx hb dX7_uses_79 (by decide) (fun hc23 => ?_) (fun hc23 => ?_)
            · replace h := g_if hc23 h
              exact hJ_J24 ss19 _ _ _ hP hS (lv_sub hl [0, 3, 4, 5] rfl) h
            · replace h := g_it hc23 h
              refine lv_aload_n hx hb dX7_uses_82 rfl (lv_at hl 3 rfl) ?_
              refine lv_iload hx hb dX7_uses_83 (lv_at hl 2 rfl) ?_
              obtain ⟨ss25, hc26, h⟩ := bd1_s h
              refine g_callVv (As := [.int v4]) (rest := []) (ws1 := (wMo E a0 a1 a2 a3 a4 a5 a6 a7 ss25 bg kp ik pt st tx ln asd att dn td fo nb)) ⟨hx, hb, hml, hown, hts⟩ (kX7_removes E l a0 a1 a2 a3 a4 a5 a6 a7 ss19 bg kp ik pt st tx ln asd att dn td fo nb v4 ss25 hc26) (cwV 1 hts gX7_uses_X7_removes rfl rfl rfl (by decide +kernel) ⟨Nat.le_of_ble_eq_true rfl, Nat.le_of_ble_eq_true rfl⟩) hK hP hD hS hA hG hl [0, 1, 2, 3, 4, 5, 6, 7] 0 (by decide) rfl (ci := 7) rfl rfl rfl rfl rfl rfl rfl rfl (Nat.le_of_ble_eq_true rfl) dX7_uses_85 (Nat.zero_le _) (Nat.zero_le _) (fun H locs hP hD hS => ?_)
              exact hJ_J24 ss25 _ _ _ hP hS (lv_sub hl [0, 3, 4, 5] rfl) h
          refine lv_icmp_ge (tgt := 45) hx hb dX7_uses_32 (by decide) (fun hc13 => ?_) (fun hc13 => ?_)
          · replace h := g_it hc13 h
            refine lv_iload_n hx hb dX7_uses_45 rfl (lv_at hl 1 rfl) ?_
            exact hJ_J14 v5 _ _ _ hP hS (lv_sub hl [0, 1, 2, 3, 4] rfl) h
          · replace h := g_if hc13 h
            refine lv_aload_n hx hb dX7_uses_35 rfl (lv_at hl 2 rfl) ?_
            refine lv_iload hx hb dX7_uses_36 (lv_at hl 0 rfl) ?_
            refine lv_iconst (v := (1 : Int32)) hx hb dX7_uses_38 (by decide) ?_
            obtain ⟨r15, hc16, h⟩ := bd1_s h
            refine g_callRi (As := [.int v4, .int (1 : Int32)]) (rest := []) (r := r15) ⟨hx, hb, hml, hown, hts⟩ (kX7_ofLot E l a0 a1 a2 a3 a4 a5 a6 a7 ss6 bg kp ik pt st tx ln asd att dn td fo nb v4 (1 : Int32) r15 hc16) (cwV 2 hts gX7_uses_X7_ofLot rfl rfl rfl (by decide +kernel) ⟨Nat.le_of_ble_eq_true rfl, Nat.le_of_ble_eq_true rfl⟩) hK hP hD hS hA hG hl [0, 1, 2, 3, 4, 5, 6, 7] 0 (by decide) rfl (ci := 7) rfl rfl rfl rfl rfl rfl rfl (Nat.le_of_ble_eq_true rfl) dX7_uses_39 (Nat.zero_le _) (Nat.zero_le _) (fun H locs hP hD hS => ?_)
            refine lv_goto (tgt := 46) hx hb dX7_uses_42 (by decide) ?_
            exact hJ_J14 r15 _ _ _ hP hS (lv_sub hl [0, 1, 2, 3, 4] rfl) h
  exact hL_rec3 gFU r1 p2 ss _ _ _ hP hS (lv_sub hl [0, 1, 2, 3, 4] rfl) h
set_option maxHeartbeats 4000000 in
set_option maxRecDepth 100000 in
theorem kX7_sups (E : gE) (l : Launch) (a0 a1 a2 a3 a4 a5 a6 a7 : Nat) (ss : Nat → Int32) (bg : Nat → Int32) (kp : Nat → Int32) (ik : Int32) (pt : Nat → Int32) (st : Int32) (tx : Nat → Int32) (ln : Int32) (asd : Nat → Int32) (att : Int32) (dn : Int32) (td : Int32) (fo : Int32) (nb : Nat → Int32) (p1 : Int32) (res : (Nat → Int32)) (h : fX7_sups ss p1 = some res) : gMV E l yX7_sups wsX7_sups ({ frames := 3, cells := 0, slots := 0, locals := 69 } : Room) [.ref a0, .int p1] (wMo E a0 a1 a2 a3 a4 a5 a6 a7 ss bg kp ik pt st tx ln asd att dn td fo nb) (fun res : (Nat → Int32) => (wMo E a0 a1 a2 a3 a4 a5 a6 a7 res bg kp ik pt st tx ln asd att dn td fo nb)) res := by
  refine g_entV (cc := cX7_sups) (maxL := 6) (by decide) rfl (Nat.le_of_ble_eq_true rfl) ?_
  intro p e s m args below meth c A Q ls hx hb hml hown hts hK hP hD hS hA hG hret hl
  unfold fX7_sups at h
  replace hl : lv_has ls 6 [(0, .ref a0), (1, .int p1)] := hl
  have hiX7 : ∀ w ∈ wsX70, w ∈ wsX7_sups := by decide +kernel
  have hw0 := hts (.fieldLink RX7 7 "GlacierHutModel" "s" "[I") (by decide +kernel)
  refine lv_aload_n hx hb dX7_sups_0 rfl (lv_at hl 0 rfl) ?_
  refine va_get (D := E.1) (cl := vwCl) (ci := 7) (v := .ref a1) (C := RX7) (T := TX7) (N := 14) hx hb hts hiX7 hown hK hP 0 rfl rfl 0 (by decide) hw0 (fun _ h9 => h9) rfl dX7_sups_1 ?_
  refine lv_bipush (v := (11 : Int32)) hx hb dX7_sups_4 (by decide) ?_
  obtain ⟨hg1, h⟩ := gd_s h
  refine va_iald (D := E.1) (cl := vwCl) (tys := gT E) hx hb hK hP 1 0 rfl rfl (inB_in hg1) dX7_sups_6 ?_
  refine lv_topi (fun v2 e_v2 => ?_)
  replace h := jl_s e_v2 h
  refine lv_istore_n (lv' := [(2, .int v2), (0, .ref a0), (1, .int p1)]) hx hb dX7_sups_7 rfl hl (by decide) rfl (fun ls hl => ?_)
  refine lv_aload_n hx hb dX7_sups_8 rfl (lv_at hl 1 rfl) ?_
  refine lv_iconst (v := (0 : Int32)) hx hb dX7_sups_9 (by decide) ?_
  obtain ⟨r3, hc4, h⟩ := bd1_s h
  refine g_callRi (As := [.int (0 : Int32)]) (rest := []) (r := r3) ⟨hx, hb, hml, hown, hts⟩ (kX7_stock E l a0 a1 a2 a3 a4 a5 a6 a7 ss bg kp ik pt st tx ln asd att dn td fo nb (0 : Int32) r3 hc4) (cwV 1 hts gX7_sups_X7_stock rfl rfl rfl (by decide +kernel) ⟨Nat.le_of_ble_eq_true rfl, Nat.le_of_ble_eq_true rfl⟩) hK hP hD hS hA hG hl [0, 1, 2, 3, 4, 5, 6, 7] 0 (by decide) rfl (ci := 7) rfl rfl rfl rfl rfl rfl rfl (Nat.le_of_ble_eq_true rfl) dX7_sups_10 (Nat.zero_le _) (Nat.zero_le _) (fun H locs hP hD hS => ?_)
  refine lv_aload_n hx hb dX7_sups_13 rfl (lv_at hl 1 rfl) ?_
  refine va_get (D := E.1) (cl := vwCl) (ci := 7) (v := .ref a1) (C := RX7) (T := TX7) (N := 14) hx hb hts hiX7 hown hK hP 0 rfl rfl 0 (by decide) hw0 (fun _ h9 => h9) rfl dX7_sups_14 ?_
  refine lv_bipush (v := (12 : Int32)) hx hb dX7_sups_17 (by decide) ?_
  obtain ⟨hg5, h⟩ := gd_s h
  refine va_iald (D := E.1) (cl := vwCl) (tys := gT E) hx hb hK hP 1 0 rfl rfl (inB_in hg5) dX7_sups_19 ?_
  refine lv_iload_n hx hb dX7_sups_20 rfl (lv_at hl 2 rfl) ?_
  refine lv_imul hx hb dX7_sups_21 ?_
  refine lv_iload_n hx hb dX7_sups_22 rfl (lv_at hl 0 rfl) ?_
  refine lv_imul hx hb dX7_sups_23 ?_
  refine mrg_e h (fun J7 hK_J7 h => ?_)
  have hJ_J7 : ∀ (v8 : Int32) (H : Heap) (locs : List Loc) (ls : Array Slot), va_P E.1 vwCl (wMo E a0 a1 a2 a3 a4 a5 a6 a7 ss bg kp ik pt st tx ln asd att dn td fo nb) H → va_S A s.heap H locs → lv_has ls 6 [(2, .int v2), (0, .ref a0), (1, .int p1)] → J7 v8 = some res → W p l e ({ frames := 3, cells := 0, slots := 0, locals := 69 } : Room) s m args below meth c H locs 0 0 Q (F0 m 32 ls [.int v8]) := by
    intro v8 H locs ls hP hS hl h
    replace hD : va_D A (wMo E a0 a1 a2 a3 a4 a5 a6 a7 ss bg kp ik pt st tx ln asd att dn td fo nb) := gD_same hD rfl
    subst hK_J7
    refine lv_istore_n (lv' := [(3, .int v8), (2, .int v2), (0, .ref a0), (1, .int p1)]) hx hb dX7_sups_32 rfl hl (by decide) rfl (fun ls hl => ?_)
    refine lv_iload_n hx hb dX7_sups_33 rfl (lv_at hl 0 rfl) ?_
    refine mrg_e h (fun J10 hK_J10 h => ?_)
    have hJ_J10 : ∀ (v11 : Int32) (H : Heap) (locs : List Loc) (ls : Array Slot), va_P E.1 vwCl (wMo E a0 a1 a2 a3 a4 a5 a6 a7 ss bg kp ik pt st tx ln asd att dn td fo nb) H → va_S A s.heap H locs → lv_has ls 6 [(2, .int v2), (0, .ref a0), (1, .int p1)] → J10 v11 = some res → W p l e ({ frames := 3, cells := 0, slots := 0, locals := 69 } : Room) s m args below meth c H locs 0 0 Q (F0 m 42 ls [.int v11]) := by
      intro v11 H locs ls hP hS hl h
      replace hD : va_D A (wMo E a0 a1 a2 a3 a4 a5 a6 a7 ss bg kp ik pt st tx ln asd att dn td fo nb) := gD_same hD rfl
      subst hK_J10
      refine lv_istore (lv' := [(4, .int v11), (2, .int v2), (0, .ref a0), (1, .int p1)]) hx hb dX7_sups_42 hl (by decide) rfl (fun ls hl => ?_)
      refine lv_aload_n hx hb dX7_sups_44 rfl (lv_at hl 2 rfl) ?_
      refine lv_iconst (v := (0 : Int32)) hx hb dX7_sups_45 (by decide) ?_
      refine lv_iload hx hb dX7_sups_46 (lv_at hl 0 rfl) ?_
      refine lv_iload_n hx hb dX7_sups_48 rfl (lv_at hl 3 rfl) ?_
      refine lv_imul hx hb dX7_sups_49 ?_
      refine lv_aload_n hx hb dX7_sups_50 rfl (lv_at hl 2 rfl) ?_
      refine lv_iconst (v := (1 : Int32)) hx hb dX7_sups_51 (by decide) ?_
      refine lv_iload_n hx hb dX7_sups_52 rfl (lv_at hl 3 rfl) ?_
      obtain ⟨r12, ss13, hc14, h⟩ := bd2_s h
      refine g_callVi (As := [.int (1 : Int32), .int p1]) (rest := [.int (v11 * p1), .int (0 : Int32), .ref a0]) (r := r12) (ws1 := (wMo E a0 a1 a2 a3 a4 a5 a6 a7 ss13 bg kp ik pt st tx ln asd att dn td fo nb)) ⟨hx, hb, hml, hown, hts⟩ (kX7_uses E l a0 a1 a2 a3 a4 a5 a6 a7 ss bg kp ik pt st tx ln asd att dn td fo nb (1 : Int32) p1 (r12, ss13) hc14) (cwV 2 hts gX7_sups_X7_uses rfl rfl rfl (by decide +kernel) ⟨Nat.le_of_ble_eq_true rfl, Nat.le_of_ble_eq_true rfl⟩) hK hP hD hS hA hG hl [0, 1, 2, 3, 4, 5, 6, 7] 0 (by decide) rfl (ci := 7) rfl rfl rfl rfl rfl rfl rfl rfl rfl (Nat.le_of_ble_eq_true rfl) dX7_sups_53 (Nat.zero_le _) (Nat.zero_le _) (fun H locs hP hD hS => ?_)
      refine lv_iadd hx hb dX7_sups_56 ?_
      obtain ⟨r15, ss16, hc17, h⟩ := bd2_s h
      refine g_callVi (As := [.int (0 : Int32), .int ((v11 * p1) + r12)]) (rest := []) (r := r15) (ws1 := (wMo E a0 a1 a2 a3 a4 a5 a6 a7 ss16 bg kp ik pt st tx ln asd att dn td fo nb)) ⟨hx, hb, hml, hown, hts⟩ (kX7_uses E l a0 a1 a2 a3 a4 a5 a6 a7 ss13 bg kp ik pt st tx ln asd att dn td fo nb (0 : Int32) ((v11 * p1) + r12) (r15, ss16) hc17) (cwV 2 hts gX7_sups_X7_uses rfl rfl rfl (by decide +kernel) ⟨Nat.le_of_ble_eq_true rfl, Nat.le_of_ble_eq_true rfl⟩) hK hP hD hS hA hG hl [0, 1, 2, 3, 4, 5, 6, 7] 0 (by decide) rfl (ci := 7) rfl rfl rfl rfl rfl rfl rfl rfl rfl (Nat.le_of_ble_eq_true rfl) dX7_sups_57 (Nat.zero_le _) (Nat.zero_le _) (fun H locs hP hD hS => ?_)
      refine lv_istore (lv' := [(5, .int r15), (4, .int v11), (2, .int v2), (0, .ref a0), (1, .int p1)]) hx hb dX7_sups_60 hl (by decide) rfl (fun ls hl => ?_)
      refine lv_aload_n hx hb dX7_sups_62 rfl (lv_at hl 3 rfl) ?_
      refine va_get (D := E.1) (cl := vwCl) (ci := 7) (v := .ref a1) (C := RX7) (T := TX7) (N := 14) hx hb hts hiX7 hown hK hP 0 rfl rfl 0 (by decide) hw0 (fun _ h9 => h9) rfl dX7_sups_63 ?_
      refine lv_iconst (v := (5 : Int32)) hx hb dX7_sups_66 (by decide) ?_
      refine lv_dup2_11 hx hb dX7_sups_67 rfl rfl ?_
      obtain ⟨hg18, h⟩ := gd_s h
      refine va_iald (D := E.1) (cl := vwCl) (tys := gT E) hx hb hK hP 1 0 rfl rfl (inB_in hg18) dX7_sups_68 ?_
      refine lv_iload hx hb dX7_sups_69 (lv_at hl 0 rfl) ?_
      refine lv_iload_n hx hb dX7_sups_71 rfl (lv_at hl 4 rfl) ?_
      refine mrg_e h (fun J20 hK_J20 h => ?_)
      have hJ_J20 : ∀ (v21 : Int32) (H : Heap) (locs : List Loc) (ls : Array Slot), va_P E.1 vwCl (wMo E a0 a1 a2 a3 a4 a5 a6 a7 ss16 bg kp ik pt st tx ln asd att dn td fo nb) H → va_S A s.heap H locs → lv_has ls 6 [(4, .int v11), (2, .int v2), (0, .ref a0), (1, .int p1)] → J20 v21 = some res → W p l e ({ frames := 3, cells := 0, slots := 0, locals := 69 } : Room) s m args below meth c H locs 0 0 Q (F0 m 81 ls [.int v21, .int (ss16 ((5 : Int32)).toNatClampNeg), .int (5 : Int32), .ref a1]) := by
        intro v21 H locs ls hP hS hl h
        replace hD : va_D A (wMo E a0 a1 a2 a3 a4 a5 a6 a7 ss16 bg kp ik pt st tx ln asd att dn td fo nb) := gD_same hD rfl
        subst hK_J20
        refine lv_iadd hx hb dX7_sups_81 ?_
        refine va_iast (D := E.1) (cl := vwCl) (tys := gT E) hx hb hK hP hD hS 1 0 rfl rfl (inB_in hg18) dX7_sups_82 (fun H locs hP hD hS => ?_)
        obtain ⟨ss22, e_ss22⟩ : ∃ y : Nat → Int32, y = (upd ss16 ((5 : Int32)).toNatClampNeg ((ss16 ((5 : Int32)).toNatClampNeg) + v21)) := ⟨_, rfl⟩
        replace h := jl_s e_ss22 h
        replace hP : va_P E.1 vwCl (wMo E a0 a1 a2 a3 a4 a5 a6 a7 ss22 bg kp ik pt st tx ln asd att dn td fo nb) H := (by rw [e_ss22]; exact hP)
        replace hD : va_D A (wMo E a0 a1 a2 a3 a4 a5 a6 a7 ss22 bg kp ik pt st tx ln asd att dn td fo nb) := gD_same hD rfl
        refine lv_aload_n hx hb dX7_sups_83 rfl (lv_at hl 2 rfl) ?_
        refine va_get (D := E.1) (cl := vwCl) (ci := 7) (v := .ref a1) (C := RX7) (T := TX7) (N := 14) hx hb hts hiX7 hown hK hP 0 rfl rfl 0 (by decide) hw0 (fun _ h9 => h9) rfl dX7_sups_84 ?_
        refine lv_bipush (v := (8 : Int32)) hx hb dX7_sups_87 (by decide) ?_
        refine lv_dup2_11 hx hb dX7_sups_89 rfl rfl ?_
        obtain ⟨hg23, h⟩ := gd_s h
        refine va_iald (D := E.1) (cl := vwCl) (tys := gT E) hx hb hK hP 1 0 rfl rfl (inB_in hg23) dX7_sups_90 ?_
        refine lv_iload_n hx hb dX7_sups_91 rfl (lv_at hl 3 rfl) ?_
        refine lv_if_le (tgt := 105) hx hb dX7_sups_92 (by decide) (fun hc24 => ?_) (fun hc24 => ?_)
        · replace h := g_it hc24 h
          refine lv_iconst (v := (0 : Int32)) hx hb dX7_sups_105 (by decide) ?_
          refine lv_iadd hx hb dX7_sups_106 ?_
          refine va_iast (D := E.1) (cl := vwCl) (tys := gT E) hx hb hK hP hD hS 1 0 rfl rfl (inB_in hg23) dX7_sups_107 (fun H locs hP hD hS => ?_)
          obtain ⟨ss25, e_ss25⟩ : ∃ y : Nat → Int32, y = (upd ss22 ((8 : Int32)).toNatClampNeg ((ss22 ((8 : Int32)).toNatClampNeg) + (0 : Int32))) := ⟨_, rfl⟩
          replace h := jl_s e_ss25 h
          replace hP : va_P E.1 vwCl (wMo E a0 a1 a2 a3 a4 a5 a6 a7 ss25 bg kp ik pt st tx ln asd att dn td fo nb) H := (by rw [e_ss25]; exact hP)
          replace hD : va_D A (wMo E a0 a1 a2 a3 a4 a5 a6 a7 ss25 bg kp ik pt st tx ln asd att dn td fo nb) := gD_same hD rfl
          exact hret ss25 _ _ _ _ (Option.some.inj h) hP hS dX7_sups_108
        · replace h := g_if hc24 h
          refine lv_iload hx hb dX7_sups_95 (lv_at hl 0 rfl) ?_
          refine lv_iload_n hx hb dX7_sups_97 rfl (lv_at hl 1 rfl) ?_
          refine lv_icmp_ge (tgt := 105) hx hb dX7_sups_98 (by decide) (fun hc26 => ?_) (fun hc26 => ?_)
          · replace h := g_it hc26 h
            refine lv_iconst (v := (0 : Int32)) hx hb dX7_sups_105 (by decide) ?_
            refine lv_iadd hx hb dX7_sups_106 ?_
            refine va_iast (D := E.1) (cl := vwCl) (tys := gT E) hx hb hK hP hD hS 1 0 rfl rfl (inB_in hg23) dX7_sups_107 (fun H locs hP hD hS => ?_)
            obtain ⟨ss27, e_ss27⟩ : ∃ y : Nat → Int32, y = (upd ss22 ((8 : Int32)).toNatClampNeg ((ss22 ((8 : Int32)).toNatClampNeg) + (0 : Int32))) := ⟨_, rfl⟩
            replace h := jl_s e_ss27 h
            replace hP : va_P E.1 vwCl (wMo E a0 a1 a2 a3 a4 a5 a6 a7 ss27 bg kp ik pt st tx ln asd att dn td fo nb) H := (by rw [e_ss27]; exact hP)
            replace hD : va_D A (wMo E a0 a1 a2 a3 a4 a5 a6 a7 ss27 bg kp ik pt st tx ln asd att dn td fo nb) := gD_same hD rfl
            exact hret ss27 _ _ _ _ (Option.some.inj h) hP hS dX7_sups_108
          · replace h := g_if hc26 h
            refine lv_iconst (v := (1 : Int32)) hx hb dX7_sups_101 (by decide) ?_
            refine lv_goto (tgt := 106) hx hb dX7_sups_102 (by decide) ?_
            refine lv_iadd hx hb dX7_sups_106 ?_
            refine va_iast (D := E.1) (cl := vwCl) (tys := gT E) hx hb hK hP hD hS 1 0 rfl rfl (inB_in hg23) dX7_sups_107 (fun H locs hP hD hS => ?_)
            obtain ⟨ss28, e_ss28⟩ : ∃ y : Nat → Int32, y = (upd ss22 ((8 : Int32)).toNatClampNeg ((ss22 ((8 : Int32)).toNatClampNeg) + (1 : Int32))) := ⟨_, rfl⟩
            replace h := jl_s e_ss28 h
            replace hP : va_P E.1 vwCl (wMo E a0 a1 a2 a3 a4 a5 a6 a7 ss28 bg kp ik pt st tx ln asd att dn td fo nb) H := (by rw [e_ss28]; exact hP)
            replace hD : va_D A (wMo E a0 a1 a2 a3 a4 a5 a6 a7 ss28 bg kp ik pt st tx ln asd att dn td fo nb) := gD_same hD rfl
            exact hret ss28 _ _ _ _ (Option.some.inj h) hP hS dX7_sups_108
      refine lv_icmp_ge (tgt := 80) hx hb dX7_sups_72 (by decide) (fun hc19 => ?_) (fun hc19 => ?_)
      · replace h := g_it hc19 h
        refine lv_iload_n hx hb dX7_sups_80 rfl (lv_at hl 4 rfl) ?_
        exact hJ_J20 p1 _ _ _ hP hS (lv_sub hl [1, 2, 3, 4] rfl) h
      · replace h := g_if hc19 h
        refine lv_iload hx hb dX7_sups_75 (lv_at hl 0 rfl) ?_
        refine lv_goto (tgt := 81) hx hb dX7_sups_77 (by decide) ?_
        exact hJ_J20 r15 _ _ _ hP hS (lv_sub hl [1, 2, 3, 4] rfl) h
    refine lv_if_eq (tgt := 41) hx hb dX7_sups_34 (by decide) (fun hc9 => ?_) (fun hc9 => ?_)
    · replace h := g_it hc9 h
      refine lv_iload_n hx hb dX7_sups_41 rfl (lv_at hl 1 rfl) ?_
      exact hJ_J10 v2 _ _ _ hP hS (lv_sub hl [1, 2, 3] rfl) h
    · replace h := g_if hc9 h
      refine lv_iconst (v := (1 : Int32)) hx hb dX7_sups_37 (by decide) ?_
      refine lv_goto (tgt := 42) hx hb dX7_sups_38 (by decide) ?_
      exact hJ_J10 (1 : Int32) _ _ _ hP hS (lv_sub hl [1, 2, 3] rfl) h
  refine lv_icmp_ge (tgt := 31) hx hb dX7_sups_24 (by decide) (fun hc6 => ?_) (fun hc6 => ?_)
  · replace h := g_it hc6 h
    refine lv_iconst (v := (0 : Int32)) hx hb dX7_sups_31 (by decide) ?_
    exact hJ_J7 (0 : Int32) _ _ _ hP hS (lv_sub hl [0, 1, 2] rfl) h
  · replace h := g_if hc6 h
    refine lv_iconst (v := (1 : Int32)) hx hb dX7_sups_27 (by decide) ?_
    refine lv_goto (tgt := 32) hx hb dX7_sups_28 (by decide) ?_
    exact hJ_J7 (1 : Int32) _ _ _ hP hS (lv_sub hl [0, 1, 2] rfl) h
set_option maxHeartbeats 4000000 in
set_option maxRecDepth 100000 in
theorem kX7_heats (E : gE) (l : Launch) (a0 a1 a2 a3 a4 a5 a6 a7 : Nat) (ss : Nat → Int32) (bg : Nat → Int32) (kp : Nat → Int32) (ik : Int32) (pt : Nat → Int32) (st : Int32) (tx : Nat → Int32) (ln : Int32) (asd : Nat → Int32) (att : Int32) (dn : Int32) (td : Int32) (fo : Int32) (nb : Nat → Int32) (p1 : Int32) (res : (Nat → Int32)) (h : fX7_heats ss p1 = some res) : gMV E l yX7_heats wsX7_heats ({ frames := 3, cells := 0, slots := 0, locals := 69 } : Room) [.ref a0, .int p1] (wMo E a0 a1 a2 a3 a4 a5 a6 a7 ss bg kp ik pt st tx ln asd att dn td fo nb) (fun res : (Nat → Int32) => (wMo E a0 a1 a2 a3 a4 a5 a6 a7 res bg kp ik pt st tx ln asd att dn td fo nb)) res := by
  refine g_entV (cc := cX7_heats) (maxL := 3) (by decide) rfl (Nat.le_of_ble_eq_true rfl) ?_
  intro p e s m args below meth c A Q ls hx hb hml hown hts hK hP hD hS hA hG hret hl
  unfold fX7_heats at h
  replace hl : lv_has ls 3 [(0, .ref a0), (1, .int p1)] := hl
  have hiX7 : ∀ w ∈ wsX70, w ∈ wsX7_heats := by decide +kernel
  have hw0 := hts (.fieldLink RX7 7 "GlacierHutModel" "s" "[I") (by decide +kernel)
  refine lv_iload_n hx hb dX7_heats_0 rfl (lv_at hl 1 rfl) ?_
  refine mrg_e h (fun J2 hK_J2 h => ?_)
  have hJ_J2 : ∀ (v7 : Int32) (H : Heap) (locs : List Loc) (ls : Array Slot), va_P E.1 vwCl (wMo E a0 a1 a2 a3 a4 a5 a6 a7 ss bg kp ik pt st tx ln asd att dn td fo nb) H → va_S A s.heap H locs → lv_has ls 3 [(0, .ref a0)] → J2 v7 = some res → W p l e ({ frames := 3, cells := 0, slots := 0, locals := 69 } : Room) s m args below meth c H locs 0 0 Q (F0 m 32 ls [.int v7]) := by
    intro v7 H locs ls hP hS hl h
    replace hD : va_D A (wMo E a0 a1 a2 a3 a4 a5 a6 a7 ss bg kp ik pt st tx ln asd att dn td fo nb) := gD_same hD rfl
    subst hK_J2
    refine lv_istore_n (lv' := [(2, .int v7), (0, .ref a0)]) hx hb dX7_heats_32 rfl hl (by decide) rfl (fun ls hl => ?_)
    refine lv_aload_n hx hb dX7_heats_33 rfl (lv_at hl 1 rfl) ?_
    refine va_get (D := E.1) (cl := vwCl) (ci := 7) (v := .ref a1) (C := RX7) (T := TX7) (N := 14) hx hb hts hiX7 hown hK hP 0 rfl rfl 0 (by decide) hw0 (fun _ h9 => h9) rfl dX7_heats_34 ?_
    refine lv_bipush (v := (6 : Int32)) hx hb dX7_heats_37 (by decide) ?_
    refine lv_dup2_11 hx hb dX7_heats_39 rfl rfl ?_
    obtain ⟨hg8, h⟩ := gd_s h
    refine va_iald (D := E.1) (cl := vwCl) (tys := gT E) hx hb hK hP 1 0 rfl rfl (inB_in hg8) dX7_heats_40 ?_
    refine lv_aload_n hx hb dX7_heats_41 rfl (lv_at hl 1 rfl) ?_
    refine lv_iconst (v := (2 : Int32)) hx hb dX7_heats_42 (by decide) ?_
    refine lv_iload_n hx hb dX7_heats_43 rfl (lv_at hl 0 rfl) ?_
    obtain ⟨r9, ss10, hc11, h⟩ := bd2_s h
    refine g_callVi (As := [.int (2 : Int32), .int v7]) (rest := [.int (ss ((6 : Int32)).toNatClampNeg), .int (6 : Int32), .ref a1]) (r := r9) (ws1 := (wMo E a0 a1 a2 a3 a4 a5 a6 a7 ss10 bg kp ik pt st tx ln asd att dn td fo nb)) ⟨hx, hb, hml, hown, hts⟩ (kX7_uses E l a0 a1 a2 a3 a4 a5 a6 a7 ss bg kp ik pt st tx ln asd att dn td fo nb (2 : Int32) v7 (r9, ss10) hc11) (cwV 2 hts gX7_heats_X7_uses rfl rfl rfl (by decide +kernel) ⟨Nat.le_of_ble_eq_true rfl, Nat.le_of_ble_eq_true rfl⟩) hK hP hD hS hA hG hl [0, 1, 2, 3, 4, 5, 6, 7] 0 (by decide) rfl (ci := 7) rfl rfl rfl rfl rfl rfl rfl rfl rfl (Nat.le_of_ble_eq_true rfl) dX7_heats_44 (Nat.zero_le _) (Nat.zero_le _) (fun H locs hP hD hS => ?_)
    refine lv_if_le (tgt := 54) hx hb dX7_heats_47 (by decide) (fun hc12 => ?_) (fun hc12 => ?_)
    · replace h := g_it hc12 h
      refine lv_iconst (v := (0 : Int32)) hx hb dX7_heats_54 (by decide) ?_
      refine lv_iadd hx hb dX7_heats_55 ?_
      refine va_iast (D := E.1) (cl := vwCl) (tys := gT E) hx hb hK hP hD hS 1 0 rfl rfl (inB_in hg8) dX7_heats_56 (fun H locs hP hD hS => ?_)
      obtain ⟨ss13, e_ss13⟩ : ∃ y : Nat → Int32, y = (upd ss10 ((6 : Int32)).toNatClampNeg ((ss ((6 : Int32)).toNatClampNeg) + (0 : Int32))) := ⟨_, rfl⟩
      replace h := jl_s e_ss13 h
      replace hP : va_P E.1 vwCl (wMo E a0 a1 a2 a3 a4 a5 a6 a7 ss13 bg kp ik pt st tx ln asd att dn td fo nb) H := (by rw [e_ss13]; exact hP)
      replace hD : va_D A (wMo E a0 a1 a2 a3 a4 a5 a6 a7 ss13 bg kp ik pt st tx ln asd att dn td fo nb) := gD_same hD rfl
      exact hret ss13 _ _ _ _ (Option.some.inj h) hP hS dX7_heats_57
    · replace h := g_if hc12 h
      refine lv_iconst (v := (1 : Int32)) hx hb dX7_heats_50 (by decide) ?_
      refine lv_goto (tgt := 55) hx hb dX7_heats_51 (by decide) ?_
      refine lv_iadd hx hb dX7_heats_55 ?_
      refine va_iast (D := E.1) (cl := vwCl) (tys := gT E) hx hb hK hP hD hS 1 0 rfl rfl (inB_in hg8) dX7_heats_56 (fun H locs hP hD hS => ?_)
      obtain ⟨ss14, e_ss14⟩ : ∃ y : Nat → Int32, y = (upd ss10 ((6 : Int32)).toNatClampNeg ((ss ((6 : Int32)).toNatClampNeg) + (1 : Int32))) := ⟨_, rfl⟩
      replace h := jl_s e_ss14 h
      replace hP : va_P E.1 vwCl (wMo E a0 a1 a2 a3 a4 a5 a6 a7 ss14 bg kp ik pt st tx ln asd att dn td fo nb) H := (by rw [e_ss14]; exact hP)
      replace hD : va_D A (wMo E a0 a1 a2 a3 a4 a5 a6 a7 ss14 bg kp ik pt st tx ln asd att dn td fo nb) := gD_same hD rfl
      exact hret ss14 _ _ _ _ (Option.some.inj h) hP hS dX7_heats_57
  refine lv_if_ne (tgt := 8) hx hb dX7_heats_1 (by decide) (fun hc1 => ?_) (fun hc1 => ?_)
  · replace h := g_if hc1 h
    refine lv_iload_n hx hb dX7_heats_8 rfl (lv_at hl 1 rfl) ?_
    refine lv_iconst (v := (3 : Int32)) hx hb dX7_heats_9 (by decide) ?_
    refine lv_iadd hx hb dX7_heats_10 ?_
    refine lv_iconst (v := (4 : Int32)) hx hb dX7_heats_11 (by decide) ?_
    refine lv_idiv hx hb dX7_heats_12 (by decide) ?_
    refine lv_aload_n hx hb dX7_heats_13 rfl (lv_at hl 0 rfl) ?_
    refine lv_aload_n hx hb dX7_heats_14 rfl (lv_at hl 0 rfl) ?_
    refine va_get (D := E.1) (cl := vwCl) (ci := 7) (v := .ref a1) (C := RX7) (T := TX7) (N := 14) hx hb hts hiX7 hown hK hP 0 rfl rfl 0 (by decide) hw0 (fun _ h9 => h9) rfl dX7_heats_15 ?_
    refine lv_iconst (v := (0 : Int32)) hx hb dX7_heats_18 (by decide) ?_
    obtain ⟨hg3, h⟩ := gd_s h
    refine va_iald (D := E.1) (cl := vwCl) (tys := gT E) hx hb hK hP 1 0 rfl rfl (inB_in hg3) dX7_heats_19 ?_
    obtain ⟨r4, hc5, h⟩ := bd1_s h
    refine g_callRi (As := [.int (ss ((0 : Int32)).toNatClampNeg)]) (rest := [.int ((p1 + (3 : Int32)) / (4 : Int32))]) (r := r4) ⟨hx, hb, hml, hown, hts⟩ (kX7_isStorm E l a0 a1 a2 a3 a4 a5 a6 a7 ss bg kp ik pt st tx ln asd att dn td fo nb (ss ((0 : Int32)).toNatClampNeg) r4 hc5) (cwV 1 hts gX7_heats_X7_isStorm rfl rfl rfl (by decide +kernel) ⟨Nat.le_of_ble_eq_true rfl, Nat.le_of_ble_eq_true rfl⟩) hK hP hD hS hA hG hl [0, 1, 2, 3, 4, 5, 6, 7] 0 (by decide) rfl (ci := 7) rfl rfl rfl rfl rfl rfl rfl (Nat.le_of_ble_eq_true rfl) dX7_heats_20 (Nat.zero_le _) (Nat.zero_le _) (fun H locs hP hD hS => ?_)
    refine lv_if_eq (tgt := 30) hx hb dX7_heats_23 (by decide) (fun hc6 => ?_) (fun hc6 => ?_)
    · replace h := g_it hc6 h
      refine lv_iconst (v := (0 : Int32)) hx hb dX7_heats_30 (by decide) ?_
      refine lv_iadd hx hb dX7_heats_31 ?_
      exact hJ_J2 (((p1 + (3 : Int32)) / (4 : Int32)) + (0 : Int32)) _ _ _ hP hS (lv_sub hl [0] rfl) h
    · replace h := g_if hc6 h
      refine lv_iconst (v := (1 : Int32)) hx hb dX7_heats_26 (by decide) ?_
      refine lv_goto (tgt := 31) hx hb dX7_heats_27 (by decide) ?_
      refine lv_iadd hx hb dX7_heats_31 ?_
      exact hJ_J2 (((p1 + (3 : Int32)) / (4 : Int32)) + (1 : Int32)) _ _ _ hP hS (lv_sub hl [0] rfl) h
  · replace h := g_it hc1 h
    refine lv_iconst (v := (0 : Int32)) hx hb dX7_heats_4 (by decide) ?_
    refine lv_goto (tgt := 32) hx hb dX7_heats_5 (by decide) ?_
    exact hJ_J2 (0 : Int32) _ _ _ hP hS (lv_sub hl [0] rfl) h
set_option maxHeartbeats 4000000 in
set_option maxRecDepth 100000 in
theorem kX7_spoils (E : gE) (l : Launch) (a0 a1 a2 a3 a4 a5 a6 a7 : Nat) (ss : Nat → Int32) (bg : Nat → Int32) (kp : Nat → Int32) (ik : Int32) (pt : Nat → Int32) (st : Int32) (tx : Nat → Int32) (ln : Int32) (asd : Nat → Int32) (att : Int32) (dn : Int32) (td : Int32) (fo : Int32) (nb : Nat → Int32)  (res : (Nat → Int32)) (h : fX7_spoils ss  = some res) : gMV E l yX7_spoils wsX7_spoils ({ frames := 1, cells := 0, slots := 0, locals := 22 } : Room) [.ref a0] (wMo E a0 a1 a2 a3 a4 a5 a6 a7 ss bg kp ik pt st tx ln asd att dn td fo nb) (fun res : (Nat → Int32) => (wMo E a0 a1 a2 a3 a4 a5 a6 a7 res bg kp ik pt st tx ln asd att dn td fo nb)) res := by
  refine g_entV (cc := cX7_spoils) (maxL := 2) (by decide) rfl (Nat.le_of_ble_eq_true rfl) ?_
  intro p e s m args below meth c A Q ls hx hb hml hown hts hK hP hD hS hA hG hret hl
  unfold fX7_spoils at h
  replace hl : lv_has ls 2 [(0, .ref a0)] := hl
  have hiX7 : ∀ w ∈ wsX70, w ∈ wsX7_spoils := by decide +kernel
  have hw0 := hts (.fieldLink RX7 7 "GlacierHutModel" "s" "[I") (by decide +kernel)
  refine lv_aload_n hx hb dX7_spoils_0 rfl (lv_at hl 0 rfl) ?_
  refine va_get (D := E.1) (cl := vwCl) (ci := 7) (v := .ref a1) (C := RX7) (T := TX7) (N := 14) hx hb hts hiX7 hown hK hP 0 rfl rfl 0 (by decide) hw0 (fun _ h9 => h9) rfl dX7_spoils_1 ?_
  refine lv_iconst (v := (2 : Int32)) hx hb dX7_spoils_4 (by decide) ?_
  obtain ⟨hg1, h⟩ := gd_s h
  refine va_iald (D := E.1) (cl := vwCl) (tys := gT E) hx hb hK hP 1 0 rfl rfl (inB_in hg1) dX7_spoils_5 ?_
  refine lv_iconst (v := (1 : Int32)) hx hb dX7_spoils_6 (by decide) ?_
  refine lv_isub hx hb dX7_spoils_7 ?_
  refine lv_topi (fun v2 e_v2 => ?_)
  replace h := jl_s e_v2 h
  refine lv_istore_n (lv' := [(1, .int v2), (0, .ref a0)]) hx hb dX7_spoils_8 rfl hl (by decide) rfl (fun ls hl => ?_)
  refine gl2_e h (fun S_rec3 hS_rec3 h => ?_)
  have hL_rec3 : ∀ (nF : Nat) (v4 : Int32) (ss5 : Nat → Int32) (H : Heap) (locs : List Loc) (ls : Array Slot), va_P E.1 vwCl (wMo E a0 a1 a2 a3 a4 a5 a6 a7 ss5 bg kp ik pt st tx ln asd att dn td fo nb) H → va_S A s.heap H locs → lv_has ls 2 [(1, .int v4), (0, .ref a0)] → gl2 S_rec3 nF v4 ss5 = some res → W p l e ({ frames := 1, cells := 0, slots := 0, locals := 22 } : Room) s m args below meth c H locs 0 0 Q (F0 m 9 ls []) := by
    intro nF
    induction nF with
    | zero => intro v4 ss5 H locs ls hP hS hl h; exact gl2_z h
    | succ nF ih_rec3 =>
      intro v4 ss5 H locs ls hP hS hl h
      replace hD : va_D A (wMo E a0 a1 a2 a3 a4 a5 a6 a7 ss5 bg kp ik pt st tx ln asd att dn td fo nb) := gD_same hD rfl
      replace h : S_rec3 (gl2 S_rec3 nF) v4 ss5 = some res := h
      generalize gl2 S_rec3 nF = rec3 at h ih_rec3
      subst hS_rec3
      unfold sX7_spoils_rec3 at h
      refine lv_iload_n hx hb dX7_spoils_9 rfl (lv_at hl 0 rfl) ?_
      refine lv_if_lt (tgt := 62) hx hb dX7_spoils_10 (by decide) (fun hc6 => ?_) (fun hc6 => ?_)
      · replace h := g_it hc6 h
        exact hret ss5 _ _ _ _ (Option.some.inj h) hP hS dX7_spoils_62
      · replace h := g_if hc6 h
        refine lv_aload_n hx hb dX7_spoils_13 rfl (lv_at hl 1 rfl) ?_
        refine lv_iload_n hx hb dX7_spoils_14 rfl (lv_at hl 0 rfl) ?_
        refine lv_iconst (v := (2 : Int32)) hx hb dX7_spoils_15 (by decide) ?_
        obtain ⟨r7, hc8, h⟩ := bd1_s h
        refine g_callRi (As := [.int v4, .int (2 : Int32)]) (rest := []) (r := r7) ⟨hx, hb, hml, hown, hts⟩ (kX7_ofLot E l a0 a1 a2 a3 a4 a5 a6 a7 ss5 bg kp ik pt st tx ln asd att dn td fo nb v4 (2 : Int32) r7 hc8) (cwV 2 hts gX7_spoils_X7_ofLot rfl rfl rfl (by decide +kernel) ⟨Nat.le_of_ble_eq_true rfl, Nat.le_of_ble_eq_true rfl⟩) hK hP hD hS hA hG hl [0, 1, 2, 3, 4, 5, 6, 7] 0 (by decide) rfl (ci := 7) rfl rfl rfl rfl rfl rfl rfl (Nat.le_of_ble_eq_true rfl) dX7_spoils_16 (Nat.zero_le _) (Nat.zero_le _) (fun H locs hP hD hS => ?_)
        refine lv_aload_n hx hb dX7_spoils_19 rfl (lv_at hl 1 rfl) ?_
        refine va_get (D := E.1) (cl := vwCl) (ci := 7) (v := .ref a1) (C := RX7) (T := TX7) (N := 14) hx hb hts hiX7 hown hK hP 0 rfl rfl 0 (by decide) hw0 (fun _ h9 => h9) rfl dX7_spoils_20 ?_
        refine lv_iconst (v := (0 : Int32)) hx hb dX7_spoils_23 (by decide) ?_
        obtain ⟨hg9, h⟩ := gd_s h
        refine va_iald (D := E.1) (cl := vwCl) (tys := gT E) hx hb hK hP 1 0 rfl rfl (inB_in hg9) dX7_spoils_24 ?_
        refine lv_icmp_ne (tgt := 56) hx hb dX7_spoils_25 (by decide) (fun hc10 => ?_) (fun hc10 => ?_)
        · replace h := g_if hc10 h
          obtain ⟨v11, e_v11⟩ : ∃ y : Int32, y = (v4 + (-1 : Int32)) := ⟨_, rfl⟩
          replace h := jl_s e_v11 h
          refine lv_iinc (v := v11) (lv' := [(1, .int v11), (0, .ref a0)]) hx hb dX7_spoils_56 hl (k := 0) rfl (by rw [e_v11]; rfl) (by decide) rfl (fun ls hl => ?_)
          refine lv_goto (tgt := 9) hx hb dX7_spoils_59 (by decide) ?_
          exact ih_rec3 v11 ss5 _ _ _ hP hS (lv_sub hl [0, 1] rfl) h
        · replace h := g_it hc10 h
          refine lv_aload_n hx hb dX7_spoils_28 rfl (lv_at hl 1 rfl) ?_
          refine va_get (D := E.1) (cl := vwCl) (ci := 7) (v := .ref a1) (C := RX7) (T := TX7) (N := 14) hx hb hts hiX7 hown hK hP 0 rfl rfl 0 (by decide) hw0 (fun _ h9 => h9) rfl dX7_spoils_29 ?_
          refine lv_bipush (v := (20 : Int32)) hx hb dX7_spoils_32 (by decide) ?_
          refine lv_aload_n hx hb dX7_spoils_34 rfl (lv_at hl 1 rfl) ?_
          refine lv_iload_n hx hb dX7_spoils_35 rfl (lv_at hl 0 rfl) ?_
          refine lv_iconst (v := (0 : Int32)) hx hb dX7_spoils_36 (by decide) ?_
          obtain ⟨r12, hc13, h⟩ := bd1_s h
          refine g_callRi (As := [.int v4, .int (0 : Int32)]) (rest := [.int (20 : Int32), .ref a1]) (r := r12) ⟨hx, hb, hml, hown, hts⟩ (kX7_ofLot E l a0 a1 a2 a3 a4 a5 a6 a7 ss5 bg kp ik pt st tx ln asd att dn td fo nb v4 (0 : Int32) r12 hc13) (cwV 2 hts gX7_spoils_X7_ofLot rfl rfl rfl (by decide +kernel) ⟨Nat.le_of_ble_eq_true rfl, Nat.le_of_ble_eq_true rfl⟩) hK hP hD hS hA hG hl [0, 1, 2, 3, 4, 5, 6, 7] 0 (by decide) rfl (ci := 7) rfl rfl rfl rfl rfl rfl rfl (Nat.le_of_ble_eq_true rfl) dX7_spoils_37 (Nat.zero_le _) (Nat.zero_le _) (fun H locs hP hD hS => ?_)
          refine lv_iadd hx hb dX7_spoils_40 ?_
          refine lv_dup2_11 hx hb dX7_spoils_41 rfl rfl ?_
          obtain ⟨hg14, h⟩ := gd_s h
          refine va_iald (D := E.1) (cl := vwCl) (tys := gT E) hx hb hK hP 1 0 rfl rfl (inB_in hg14) dX7_spoils_42 ?_
          refine lv_aload_n hx hb dX7_spoils_43 rfl (lv_at hl 1 rfl) ?_
          refine lv_iload_n hx hb dX7_spoils_44 rfl (lv_at hl 0 rfl) ?_
          refine lv_iconst (v := (1 : Int32)) hx hb dX7_spoils_45 (by decide) ?_
          obtain ⟨r15, hc16, h⟩ := bd1_s h
          refine g_callRi (As := [.int v4, .int (1 : Int32)]) (rest := [.int (ss5 (((20 : Int32) + r12)).toNatClampNeg), .int ((20 : Int32) + r12), .ref a1]) (r := r15) ⟨hx, hb, hml, hown, hts⟩ (kX7_ofLot E l a0 a1 a2 a3 a4 a5 a6 a7 ss5 bg kp ik pt st tx ln asd att dn td fo nb v4 (1 : Int32) r15 hc16) (cwV 2 hts gX7_spoils_X7_ofLot rfl rfl rfl (by decide +kernel) ⟨Nat.le_of_ble_eq_true rfl, Nat.le_of_ble_eq_true rfl⟩) hK hP hD hS hA hG hl [0, 1, 2, 3, 4, 5, 6, 7] 0 (by decide) rfl (ci := 7) rfl rfl rfl rfl rfl rfl rfl (Nat.le_of_ble_eq_true rfl) dX7_spoils_46 (Nat.zero_le _) (Nat.zero_le _) (fun H locs hP hD hS => ?_)
          refine lv_iadd hx hb dX7_spoils_49 ?_
          refine va_iast (D := E.1) (cl := vwCl) (tys := gT E) hx hb hK hP hD hS 1 0 rfl rfl (inB_in hg14) dX7_spoils_50 (fun H locs hP hD hS => ?_)
          obtain ⟨ss17, e_ss17⟩ : ∃ y : Nat → Int32, y = (upd ss5 (((20 : Int32) + r12)).toNatClampNeg ((ss5 (((20 : Int32) + r12)).toNatClampNeg) + r15)) := ⟨_, rfl⟩
          replace h := jl_s e_ss17 h
          replace hP : va_P E.1 vwCl (wMo E a0 a1 a2 a3 a4 a5 a6 a7 ss17 bg kp ik pt st tx ln asd att dn td fo nb) H := (by rw [e_ss17]; exact hP)
          replace hD : va_D A (wMo E a0 a1 a2 a3 a4 a5 a6 a7 ss17 bg kp ik pt st tx ln asd att dn td fo nb) := gD_same hD rfl
          refine lv_aload_n hx hb dX7_spoils_51 rfl (lv_at hl 1 rfl) ?_
          refine lv_iload_n hx hb dX7_spoils_52 rfl (lv_at hl 0 rfl) ?_
          obtain ⟨ss18, hc19, h⟩ := bd1_s h
          refine g_callVv (As := [.int v4]) (rest := []) (ws1 := (wMo E a0 a1 a2 a3 a4 a5 a6 a7 ss18 bg kp ik pt st tx ln asd att dn td fo nb)) ⟨hx, hb, hml, hown, hts⟩ (kX7_removes E l a0 a1 a2 a3 a4 a5 a6 a7 ss17 bg kp ik pt st tx ln asd att dn td fo nb v4 ss18 hc19) (cwV 1 hts gX7_spoils_X7_removes rfl rfl rfl (by decide +kernel) ⟨Nat.le_of_ble_eq_true rfl, Nat.le_of_ble_eq_true rfl⟩) hK hP hD hS hA hG hl [0, 1, 2, 3, 4, 5, 6, 7] 0 (by decide) rfl (ci := 7) rfl rfl rfl rfl rfl rfl rfl rfl (Nat.le_of_ble_eq_true rfl) dX7_spoils_53 (Nat.zero_le _) (Nat.zero_le _) (fun H locs hP hD hS => ?_)
          obtain ⟨v20, e_v20⟩ : ∃ y : Int32, y = (v4 + (-1 : Int32)) := ⟨_, rfl⟩
          replace h := jl_s e_v20 h
          refine lv_iinc (v := v20) (lv' := [(1, .int v20), (0, .ref a0)]) hx hb dX7_spoils_56 hl (k := 0) rfl (by rw [e_v20]; rfl) (by decide) rfl (fun ls hl => ?_)
          refine lv_goto (tgt := 9) hx hb dX7_spoils_59 (by decide) ?_
          exact ih_rec3 v20 ss18 _ _ _ hP hS (lv_sub hl [0, 1] rfl) h
  exact hL_rec3 gFU v2 ss _ _ _ hP hS (lv_sub hl [0, 1] rfl) h
