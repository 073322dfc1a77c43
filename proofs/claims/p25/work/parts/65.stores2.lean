set_option maxHeartbeats 4000000 in
set_option maxRecDepth 100000 in
theorem kX4_stock (E : gE) (l : Launch) (a0 a1 a2 a3 a4 a5 a6 a7 a8 a9 : Nat) (lk : Nat → Int32) (la : Nat → Int32) (ll : Nat → Int32) (lots : Int32) (pk : Nat → Int32) (pa : Nat → Int32) (pd : Nat → Int32) (onp : Int32) (br : Nat → Int32) (us : Nat → Int32) (sp : Nat → Int32) (p1 : Int32) (res : Int32) (h : fX4_stock lk la lots p1 = some res) : gMI E l yX4_stock wsX4_stock ({ frames := 0, cells := 0, slots := 0, locals := 0 } : Room) [.ref a0, .int p1] (wSt E a0 a1 a2 a3 a4 a5 a6 a7 a8 a9 lk la ll lots pk pa pd onp br us sp) (fun res : Int32 => (wSt E a0 a1 a2 a3 a4 a5 a6 a7 a8 a9 lk la ll lots pk pa pd onp br us sp)) (fun res => res) res := by
  refine g_entI (cc := cX4_stock) (maxL := 4) (by decide) rfl (Nat.le_of_ble_eq_true rfl) ?_
  intro p e s m args below meth c A Q ls hx hb hml hown hts hK hP hD hS hA hG hret hl
  unfold fX4_stock at h
  replace hl : lv_has ls 4 [(0, .ref a0), (1, .int p1)] := hl
  have hiX4 : ∀ w ∈ wsX40, w ∈ wsX4_stock := by decide +kernel
  have hw0 := hts (.fieldLink RX4 43 "GlacierHut$Stores" "lots" "I") (by decide +kernel)
  have hw1 := hts (.fieldLink RX4 9 "GlacierHut$Stores" "lotKind" "[I") (by decide +kernel)
  have hw2 := hts (.fieldLink RX4 13 "GlacierHut$Stores" "lotAmount" "[I") (by decide +kernel)
  refine lv_iconst (v := (0 : Int32)) hx hb dX4_stock_0 (by decide) ?_
  refine lv_istore_n (lv' := [(2, .int (0 : Int32)), (0, .ref a0), (1, .int p1)]) hx hb dX4_stock_1 rfl hl (by decide) rfl (fun ls hl => ?_)
  refine lv_iconst (v := (0 : Int32)) hx hb dX4_stock_2 (by decide) ?_
  refine lv_istore_n (lv' := [(3, .int (0 : Int32)), (2, .int (0 : Int32)), (0, .ref a0), (1, .int p1)]) hx hb dX4_stock_3 rfl hl (by decide) rfl (fun ls hl => ?_)
  refine gl2_e h (fun S_rec1 hS_rec1 h => ?_)
  have hL_rec1 : ∀ (nF : Nat) (v2 : Int32) (v3 : Int32) (H : Heap) (locs : List Loc) (ls : Array Slot), va_P E.1 vwCl (wSt E a0 a1 a2 a3 a4 a5 a6 a7 a8 a9 lk la ll lots pk pa pd onp br us sp) H → va_S A s.heap H locs → lv_has ls 4 [(3, .int v2), (2, .int v3), (0, .ref a0), (1, .int p1)] → gl2 S_rec1 nF v2 v3 = some res → W p l e ({ frames := 0, cells := 0, slots := 0, locals := 0 } : Room) s m args below meth c H locs 0 0 Q (F0 m 4 ls []) := by
    intro nF
    induction nF with
    | zero => intro v2 v3 H locs ls hP hS hl h; exact gl2_z h
    | succ nF ih_rec1 =>
      intro v2 v3 H locs ls hP hS hl h
      replace hD : va_D A (wSt E a0 a1 a2 a3 a4 a5 a6 a7 a8 a9 lk la ll lots pk pa pd onp br us sp) := gD_same hD rfl
      replace h : S_rec1 (gl2 S_rec1 nF) v2 v3 = some res := h
      generalize gl2 S_rec1 nF = rec1 at h ih_rec1
      subst hS_rec1
      unfold sX4_stock_rec1 at h
      refine lv_iload_n hx hb dX4_stock_4 rfl (lv_at hl 0 rfl) ?_
      refine lv_aload_n hx hb dX4_stock_5 rfl (lv_at hl 2 rfl) ?_
      refine va_get (D := E.1) (cl := vwCl) (ci := 4) (v := .int lots) (C := RX4) (T := TX4) (N := 11) hx hb hts hiX4 hown hK hP 0 rfl rfl 3 (by decide) hw0 (fun _ h9 => h9) rfl dX4_stock_6 ?_
      refine lv_icmp_ge (tgt := 37) hx hb dX4_stock_9 (by decide) (fun hc4 => ?_) (fun hc4 => ?_)
      · replace h := g_it hc4 h
        refine lv_iload_n hx hb dX4_stock_37 rfl (lv_at hl 1 rfl) ?_
        exact hret v3 _ _ _ _ _ (Option.some.inj h) hP hS rfl dX4_stock_38
      · replace h := g_if hc4 h
        refine lv_aload_n hx hb dX4_stock_12 rfl (lv_at hl 2 rfl) ?_
        refine va_get (D := E.1) (cl := vwCl) (ci := 4) (v := .ref a1) (C := RX4) (T := TX4) (N := 11) hx hb hts hiX4 hown hK hP 0 rfl rfl 0 (by decide) hw1 (fun _ h9 => h9) rfl dX4_stock_13 ?_
        refine lv_iload_n hx hb dX4_stock_16 rfl (lv_at hl 0 rfl) ?_
        obtain ⟨hg5, h⟩ := gd_s h
        refine va_iald (D := E.1) (cl := vwCl) (tys := gT E) hx hb hK hP 1 0 rfl rfl (inB_in hg5) dX4_stock_17 ?_
        refine lv_iload_n hx hb dX4_stock_18 rfl (lv_at hl 3 rfl) ?_
        refine lv_icmp_ne (tgt := 31) hx hb dX4_stock_19 (by decide) (fun hc6 => ?_) (fun hc6 => ?_)
        · replace h := g_if hc6 h
          obtain ⟨v7, e_v7⟩ : ∃ y : Int32, y = (v2 + (1 : Int32)) := ⟨_, rfl⟩
          replace h := jl_s e_v7 h
          refine lv_iinc (v := v7) (lv' := [(3, .int v7), (2, .int v3), (0, .ref a0), (1, .int p1)]) hx hb dX4_stock_31 hl (k := 0) rfl (by rw [e_v7]; rfl) (by decide) rfl (fun ls hl => ?_)
          refine lv_goto (tgt := 4) hx hb dX4_stock_34 (by decide) ?_
          exact ih_rec1 v7 v3 _ _ _ hP hS (lv_sub hl [0, 1, 2, 3] rfl) h
        · replace h := g_it hc6 h
          refine lv_iload_n hx hb dX4_stock_22 rfl (lv_at hl 1 rfl) ?_
          refine lv_aload_n hx hb dX4_stock_23 rfl (lv_at hl 2 rfl) ?_
          refine va_get (D := E.1) (cl := vwCl) (ci := 4) (v := .ref a2) (C := RX4) (T := TX4) (N := 11) hx hb hts hiX4 hown hK hP 0 rfl rfl 1 (by decide) hw2 (fun _ h9 => h9) rfl dX4_stock_24 ?_
          refine lv_iload_n hx hb dX4_stock_27 rfl (lv_at hl 0 rfl) ?_
          refine va_iald (D := E.1) (cl := vwCl) (tys := gT E) hx hb hK hP 2 0 rfl rfl (inB_in hg5) dX4_stock_28 ?_
          refine lv_iadd hx hb dX4_stock_29 ?_
          refine lv_topi (fun v8 e_v8 => ?_)
          replace h := jl_s e_v8 h
          refine lv_istore_n (lv' := [(2, .int v8), (3, .int v2), (0, .ref a0), (1, .int p1)]) hx hb dX4_stock_30 rfl hl (by decide) rfl (fun ls hl => ?_)
          obtain ⟨v9, e_v9⟩ : ∃ y : Int32, y = (v2 + (1 : Int32)) := ⟨_, rfl⟩
          replace h := jl_s e_v9 h
          refine lv_iinc (v := v9) (lv' := [(3, .int v9), (2, .int v8), (0, .ref a0), (1, .int p1)]) hx hb dX4_stock_31 hl (k := 1) rfl (by rw [e_v9]; rfl) (by decide) rfl (fun ls hl => ?_)
          refine lv_goto (tgt := 4) hx hb dX4_stock_34 (by decide) ?_
          exact ih_rec1 v9 v8 _ _ _ hP hS (lv_sub hl [0, 1, 2, 3] rfl) h
  exact hL_rec1 gFU (0 : Int32) (0 : Int32) _ _ _ hP hS (lv_sub hl [0, 1, 2, 3] rfl) h
set_option maxHeartbeats 4000000 in
set_option maxRecDepth 100000 in
theorem kX4_take (E : gE) (l : Launch) (a0 a1 a2 a3 a4 a5 a6 a7 a8 a9 : Nat) (lk : Nat → Int32) (la : Nat → Int32) (ll : Nat → Int32) (lots : Int32) (pk : Nat → Int32) (pa : Nat → Int32) (pd : Nat → Int32) (onp : Int32) (br : Nat → Int32) (us : Nat → Int32) (sp : Nat → Int32) (p1 : Int32) (p2 : Int32) (res : Int32 × (Nat → Int32) × (Nat → Int32)) (h : fX4_take lk la lots us p1 p2 = some res) : gMI E l yX4_take wsX4_take ({ frames := 0, cells := 0, slots := 0, locals := 0 } : Room) [.ref a0, .int p1, .int p2] (wSt E a0 a1 a2 a3 a4 a5 a6 a7 a8 a9 lk la ll lots pk pa pd onp br us sp) (fun res : Int32 × (Nat → Int32) × (Nat → Int32) => (wSt E a0 a1 a2 a3 a4 a5 a6 a7 a8 a9 lk res.2.1 ll lots pk pa pd onp br res.2.2 sp)) (fun res => res.1) res := by
  refine g_entI (cc := cX4_take) (maxL := 7) (by decide) rfl (Nat.le_of_ble_eq_true rfl) ?_
  intro p e s m args below meth c A Q ls hx hb hml hown hts hK hP hD hS hA hG hret hl
  unfold fX4_take at h
  replace hl : lv_has ls 7 [(0, .ref a0), (1, .int p1), (2, .int p2)] := hl
  have hiX4 : ∀ w ∈ wsX40, w ∈ wsX4_take := by decide +kernel
  have hw0 := hts (.fieldLink RX4 43 "GlacierHut$Stores" "lots" "I") (by decide +kernel)
  have hw1 := hts (.fieldLink RX4 31 "GlacierHut$Stores" "used" "[I") (by decide +kernel)
  have hw2 := hts (.fieldLink RX4 9 "GlacierHut$Stores" "lotKind" "[I") (by decide +kernel)
  have hw3 := hts (.fieldLink RX4 13 "GlacierHut$Stores" "lotAmount" "[I") (by decide +kernel)
  refine lv_iconst (v := (0 : Int32)) hx hb dX4_take_0 (by decide) ?_
  refine lv_istore_n (lv' := [(3, .int (0 : Int32)), (0, .ref a0), (1, .int p1), (2, .int p2)]) hx hb dX4_take_1 rfl hl (by decide) rfl (fun ls hl => ?_)
  refine lv_iconst (v := (0 : Int32)) hx hb dX4_take_2 (by decide) ?_
  refine lv_istore (lv' := [(4, .int (0 : Int32)), (3, .int (0 : Int32)), (0, .ref a0), (1, .int p1), (2, .int p2)]) hx hb dX4_take_3 hl (by decide) rfl (fun ls hl => ?_)
  refine gl3_e h (fun S_rec1 hS_rec1 h => ?_)
  have hL_rec1 : ∀ (nF : Nat) (v2 : Int32) (v3 : Int32) (la4 : Nat → Int32) (H : Heap) (locs : List Loc) (ls : Array Slot), va_P E.1 vwCl (wSt E a0 a1 a2 a3 a4 a5 a6 a7 a8 a9 lk la4 ll lots pk pa pd onp br us sp) H → va_S A s.heap H locs → lv_has ls 7 [(4, .int v2), (3, .int v3), (0, .ref a0), (1, .int p1), (2, .int p2)] → gl3 S_rec1 nF v2 v3 la4 = some res → W p l e ({ frames := 0, cells := 0, slots := 0, locals := 0 } : Room) s m args below meth c H locs 0 0 Q (F0 m 5 ls []) := by
    intro nF
    induction nF with
    | zero => intro v2 v3 la4 H locs ls hP hS hl h; exact gl3_z h
    | succ nF ih_rec1 =>
      intro v2 v3 la4 H locs ls hP hS hl h
      replace hD : va_D A (wSt E a0 a1 a2 a3 a4 a5 a6 a7 a8 a9 lk la4 ll lots pk pa pd onp br us sp) := gD_same hD rfl
      replace h : S_rec1 (gl3 S_rec1 nF) v2 v3 la4 = some res := h
      generalize gl3 S_rec1 nF = rec1 at h ih_rec1
      subst hS_rec1
      unfold sX4_take_rec1 at h
      refine lv_iload hx hb dX4_take_5 (lv_at hl 0 rfl) ?_
      refine lv_aload_n hx hb dX4_take_7 rfl (lv_at hl 2 rfl) ?_
      refine va_get (D := E.1) (cl := vwCl) (ci := 4) (v := .int lots) (C := RX4) (T := TX4) (N := 11) hx hb hts hiX4 hown hK hP 0 rfl rfl 3 (by decide) hw0 (fun _ h9 => h9) rfl dX4_take_8 ?_
      refine lv_icmp_ge (tgt := 79) hx hb dX4_take_11 (by decide) (fun hc5 => ?_) (fun hc5 => ?_)
      · replace h := g_it hc5 h
        refine lv_aload_n hx hb dX4_take_79 rfl (lv_at hl 2 rfl) ?_
        refine va_get (D := E.1) (cl := vwCl) (ci := 4) (v := .ref a8) (C := RX4) (T := TX4) (N := 11) hx hb hts hiX4 hown hK hP 0 rfl rfl 9 (by decide) hw1 (fun _ h9 => h9) rfl dX4_take_80 ?_
        refine lv_iload_n hx hb dX4_take_83 rfl (lv_at hl 3 rfl) ?_
        refine lv_dup2_11 hx hb dX4_take_84 rfl rfl ?_
        obtain ⟨hg6, h⟩ := gd_s h
        refine va_iald (D := E.1) (cl := vwCl) (tys := gT E) hx hb hK hP 8 0 rfl rfl (inB_in hg6) dX4_take_85 ?_
        refine lv_iload_n hx hb dX4_take_86 rfl (lv_at hl 1 rfl) ?_
        refine lv_iadd hx hb dX4_take_87 ?_
        refine va_iast (D := E.1) (cl := vwCl) (tys := gT E) hx hb hK hP hD hS 8 0 rfl rfl (inB_in hg6) dX4_take_88 (fun H locs hP hD hS => ?_)
        obtain ⟨us7, e_us7⟩ : ∃ y : Nat → Int32, y = (upd us (p1).toNatClampNeg ((us (p1).toNatClampNeg) + v3)) := ⟨_, rfl⟩
        replace h := jl_s e_us7 h
        replace hP : va_P E.1 vwCl (wSt E a0 a1 a2 a3 a4 a5 a6 a7 a8 a9 lk la4 ll lots pk pa pd onp br us7 sp) H := (by rw [e_us7]; exact hP)
        replace hD : va_D A (wSt E a0 a1 a2 a3 a4 a5 a6 a7 a8 a9 lk la4 ll lots pk pa pd onp br us7 sp) := gD_same hD rfl
        refine lv_iload_n hx hb dX4_take_89 rfl (lv_at hl 1 rfl) ?_
        exact hret (v3, la4, us7) _ _ _ _ _ (Option.some.inj h) hP hS rfl dX4_take_90
      · replace h := g_if hc5 h
        refine lv_aload_n hx hb dX4_take_14 rfl (lv_at hl 2 rfl) ?_
        refine va_get (D := E.1) (cl := vwCl) (ci := 4) (v := .ref a1) (C := RX4) (T := TX4) (N := 11) hx hb hts hiX4 hown hK hP 0 rfl rfl 0 (by decide) hw2 (fun _ h9 => h9) rfl dX4_take_15 ?_
        refine lv_iload hx hb dX4_take_18 (lv_at hl 0 rfl) ?_
        obtain ⟨hg8, h⟩ := gd_s h
        refine va_iald (D := E.1) (cl := vwCl) (tys := gT E) hx hb hK hP 1 0 rfl rfl (inB_in hg8) dX4_take_20 ?_
        refine lv_iload_n hx hb dX4_take_21 rfl (lv_at hl 3 rfl) ?_
        refine lv_icmp_ne (tgt := 73) hx hb dX4_take_22 (by decide) (fun hc9 => ?_) (fun hc9 => ?_)
        · replace h := g_if hc9 h
          obtain ⟨v10, e_v10⟩ : ∃ y : Int32, y = (v2 + (1 : Int32)) := ⟨_, rfl⟩
          replace h := jl_s e_v10 h
          refine lv_iinc (v := v10) (lv' := [(4, .int v10), (3, .int v3), (0, .ref a0), (1, .int p1), (2, .int p2)]) hx hb dX4_take_73 hl (k := 0) rfl (by rw [e_v10]; rfl) (by decide) rfl (fun ls hl => ?_)
          refine lv_goto (tgt := 5) hx hb dX4_take_76 (by decide) ?_
          exact ih_rec1 v10 v3 la4 _ _ _ hP hS (lv_sub hl [0, 1, 2, 3, 4] rfl) h
        · replace h := g_it hc9 h
          refine lv_iload_n hx hb dX4_take_25 rfl (lv_at hl 4 rfl) ?_
          refine lv_iload_n hx hb dX4_take_26 rfl (lv_at hl 1 rfl) ?_
          refine lv_isub hx hb dX4_take_27 ?_
          refine lv_topi (fun v11 e_v11 => ?_)
          replace h := jl_s e_v11 h
          refine lv_istore (lv' := [(5, .int v11), (4, .int v2), (3, .int v3), (0, .ref a0), (1, .int p1), (2, .int p2)]) hx hb dX4_take_28 hl (by decide) rfl (fun ls hl => ?_)
          refine lv_aload_n hx hb dX4_take_30 rfl (lv_at hl 3 rfl) ?_
          refine va_get (D := E.1) (cl := vwCl) (ci := 4) (v := .ref a2) (C := RX4) (T := TX4) (N := 11) hx hb hts hiX4 hown hK hP 0 rfl rfl 1 (by decide) hw3 (fun _ h9 => h9) rfl dX4_take_31 ?_
          refine lv_iload hx hb dX4_take_34 (lv_at hl 1 rfl) ?_
          refine va_iald (D := E.1) (cl := vwCl) (tys := gT E) hx hb hK hP 2 0 rfl rfl (inB_in hg8) dX4_take_36 ?_
          refine lv_iload hx hb dX4_take_37 (lv_at hl 0 rfl) ?_
          refine mrg_e h (fun J13 hK_J13 h => ?_)
          have hJ_J13 : ∀ (v14 : Int32) (H : Heap) (locs : List Loc) (ls : Array Slot), va_P E.1 vwCl (wSt E a0 a1 a2 a3 a4 a5 a6 a7 a8 a9 lk la4 ll lots pk pa pd onp br us sp) H → va_S A s.heap H locs → lv_has ls 7 [(4, .int v2), (3, .int v3), (0, .ref a0), (1, .int p1), (2, .int p2)] → J13 v14 = some res → W p l e ({ frames := 0, cells := 0, slots := 0, locals := 0 } : Room) s m args below meth c H locs 0 0 Q (F0 m 54 ls [.int v14]) := by
            intro v14 H locs ls hP hS hl h
            replace hD : va_D A (wSt E a0 a1 a2 a3 a4 a5 a6 a7 a8 a9 lk la4 ll lots pk pa pd onp br us sp) := gD_same hD rfl
            subst hK_J13
            refine lv_istore (lv' := [(6, .int v14), (4, .int v2), (3, .int v3), (0, .ref a0), (1, .int p1), (2, .int p2)]) hx hb dX4_take_54 hl (by decide) rfl (fun ls hl => ?_)
            refine lv_aload_n hx hb dX4_take_56 rfl (lv_at hl 3 rfl) ?_
            refine va_get (D := E.1) (cl := vwCl) (ci := 4) (v := .ref a2) (C := RX4) (T := TX4) (N := 11) hx hb hts hiX4 hown hK hP 0 rfl rfl 1 (by decide) hw3 (fun _ h9 => h9) rfl dX4_take_57 ?_
            refine lv_iload hx hb dX4_take_60 (lv_at hl 1 rfl) ?_
            refine lv_dup2_11 hx hb dX4_take_62 rfl rfl ?_
            refine va_iald (D := E.1) (cl := vwCl) (tys := gT E) hx hb hK hP 2 0 rfl rfl (inB_in hg8) dX4_take_63 ?_
            refine lv_iload hx hb dX4_take_64 (lv_at hl 0 rfl) ?_
            refine lv_isub hx hb dX4_take_66 ?_
            refine va_iast (D := E.1) (cl := vwCl) (tys := gT E) hx hb hK hP hD hS 2 0 rfl rfl (inB_in hg8) dX4_take_67 (fun H locs hP hD hS => ?_)
            obtain ⟨la15, e_la15⟩ : ∃ y : Nat → Int32, y = (upd la4 (v2).toNatClampNeg ((la4 (v2).toNatClampNeg) - v14)) := ⟨_, rfl⟩
            replace h := jl_s e_la15 h
            replace hP : va_P E.1 vwCl (wSt E a0 a1 a2 a3 a4 a5 a6 a7 a8 a9 lk la15 ll lots pk pa pd onp br us sp) H := (by rw [e_la15]; exact hP)
            replace hD : va_D A (wSt E a0 a1 a2 a3 a4 a5 a6 a7 a8 a9 lk la15 ll lots pk pa pd onp br us sp) := gD_same hD rfl
            refine lv_iload_n hx hb dX4_take_68 rfl (lv_at hl 2 rfl) ?_
            refine lv_iload hx hb dX4_take_69 (lv_at hl 0 rfl) ?_
            refine lv_iadd hx hb dX4_take_71 ?_
            refine lv_topi (fun v16 e_v16 => ?_)
            replace h := jl_s e_v16 h
            refine lv_istore_n (lv' := [(3, .int v16), (6, .int v14), (4, .int v2), (0, .ref a0), (1, .int p1), (2, .int p2)]) hx hb dX4_take_72 rfl hl (by decide) rfl (fun ls hl => ?_)
            obtain ⟨v17, e_v17⟩ : ∃ y : Int32, y = (v2 + (1 : Int32)) := ⟨_, rfl⟩
            replace h := jl_s e_v17 h
            refine lv_iinc (v := v17) (lv' := [(4, .int v17), (3, .int v16), (6, .int v14), (0, .ref a0), (1, .int p1), (2, .int p2)]) hx hb dX4_take_73 hl (k := 2) rfl (by rw [e_v17]; rfl) (by decide) rfl (fun ls hl => ?_)
            refine lv_goto (tgt := 5) hx hb dX4_take_76 (by decide) ?_
            exact ih_rec1 v17 v16 la15 _ _ _ hP hS (lv_sub hl [0, 1, 3, 4, 5] rfl) h
          refine lv_icmp_ge (tgt := 52) hx hb dX4_take_39 (by decide) (fun hc12 => ?_) (fun hc12 => ?_)
          · replace h := g_it hc12 h
            refine lv_iload hx hb dX4_take_52 (lv_at hl 0 rfl) ?_
            exact hJ_J13 v11 _ _ _ hP hS (lv_sub hl [1, 2, 3, 4, 5] rfl) h
          · replace h := g_if hc12 h
            refine lv_aload_n hx hb dX4_take_42 rfl (lv_at hl 3 rfl) ?_
            refine va_get (D := E.1) (cl := vwCl) (ci := 4) (v := .ref a2) (C := RX4) (T := TX4) (N := 11) hx hb hts hiX4 hown hK hP 0 rfl rfl 1 (by decide) hw3 (fun _ h9 => h9) rfl dX4_take_43 ?_
            refine lv_iload hx hb dX4_take_46 (lv_at hl 1 rfl) ?_
            refine va_iald (D := E.1) (cl := vwCl) (tys := gT E) hx hb hK hP 2 0 rfl rfl (inB_in hg8) dX4_take_48 ?_
            refine lv_goto (tgt := 54) hx hb dX4_take_49 (by decide) ?_
            exact hJ_J13 (la4 (v2).toNatClampNeg) _ _ _ hP hS (lv_sub hl [1, 2, 3, 4, 5] rfl) h
  exact hL_rec1 gFU (0 : Int32) (0 : Int32) la _ _ _ hP hS (lv_sub hl [0, 1, 2, 3, 4] rfl) h
set_option maxHeartbeats 4000000 in
set_option maxRecDepth 100000 in
theorem kX4_unloadPallet (E : gE) (l : Launch) (a0 a1 a2 a3 a4 a5 a6 a7 a8 a9 : Nat) (lk : Nat → Int32) (la : Nat → Int32) (ll : Nat → Int32) (lots : Int32) (pk : Nat → Int32) (pa : Nat → Int32) (pd : Nat → Int32) (onp : Int32) (br : Nat → Int32) (us : Nat → Int32) (sp : Nat → Int32) (p1 : Int32) (res : (Nat → Int32) × (Nat → Int32) × (Nat → Int32) × Int32 × Int32 × (Nat → Int32)) (h : fX4_unloadPallet lk la ll lots pk pa pd onp br p1 = some res) : gMV E l yX4_unloadPallet wsX4_unloadPallet ({ frames := 2, cells := 0, slots := 0, locals := 44 } : Room) [.ref a0, .int p1] (wSt E a0 a1 a2 a3 a4 a5 a6 a7 a8 a9 lk la ll lots pk pa pd onp br us sp) (fun res : (Nat → Int32) × (Nat → Int32) × (Nat → Int32) × Int32 × Int32 × (Nat → Int32) => (wSt E a0 a1 a2 a3 a4 a5 a6 a7 a8 a9 res.1 res.2.1 res.2.2.1 res.2.2.2.1 pk pa pd res.2.2.2.2.1 res.2.2.2.2.2 us sp)) res := by
  refine g_entV (cc := cX4_unloadPallet) (maxL := 3) (by decide) rfl (Nat.le_of_ble_eq_true rfl) ?_
  intro p e s m args below meth c A Q ls hx hb hml hown hts hK hP hD hS hA hG hret hl
  unfold fX4_unloadPallet at h
  replace hl : lv_has ls 3 [(0, .ref a0), (1, .int p1)] := hl
  have hiX4 : ∀ w ∈ wsX40, w ∈ wsX4_unloadPallet := by decide +kernel
  have hw0 := hts (.fieldLink RX4 47 "GlacierHut$Stores" "onPallet" "I") (by decide +kernel)
  have hw1 := hts (.fieldLink RX4 19 "GlacierHut$Stores" "palletKind" "[I") (by decide +kernel)
  have hw2 := hts (.fieldLink RX4 22 "GlacierHut$Stores" "palletAmount" "[I") (by decide +kernel)
  have hw3 := hts (.fieldLink RX4 25 "GlacierHut$Stores" "palletDays" "[I") (by decide +kernel)
  refine lv_iconst (v := (0 : Int32)) hx hb dX4_unloadPallet_0 (by decide) ?_
  refine lv_istore_n (lv' := [(2, .int (0 : Int32)), (0, .ref a0), (1, .int p1)]) hx hb dX4_unloadPallet_1 rfl hl (by decide) rfl (fun ls hl => ?_)
  refine gl6_e h (fun S_rec1 hS_rec1 h => ?_)
  have hL_rec1 : ∀ (nF : Nat) (v2 : Int32) (lk3 : Nat → Int32) (la4 : Nat → Int32) (ll5 : Nat → Int32) (lots6 : Int32) (br7 : Nat → Int32) (H : Heap) (locs : List Loc) (ls : Array Slot), va_P E.1 vwCl (wSt E a0 a1 a2 a3 a4 a5 a6 a7 a8 a9 lk3 la4 ll5 lots6 pk pa pd onp br7 us sp) H → va_S A s.heap H locs → lv_has ls 3 [(2, .int v2), (0, .ref a0), (1, .int p1)] → gl6 S_rec1 nF v2 lk3 la4 ll5 lots6 br7 = some res → W p l e ({ frames := 2, cells := 0, slots := 0, locals := 44 } : Room) s m args below meth c H locs 0 0 Q (F0 m 2 ls []) := by
    intro nF
    induction nF with
    | zero => intro v2 lk3 la4 ll5 lots6 br7 H locs ls hP hS hl h; exact gl6_z h
    | succ nF ih_rec1 =>
      intro v2 lk3 la4 ll5 lots6 br7 H locs ls hP hS hl h
      replace hD : va_D A (wSt E a0 a1 a2 a3 a4 a5 a6 a7 a8 a9 lk3 la4 ll5 lots6 pk pa pd onp br7 us sp) := gD_same hD rfl
      replace h : S_rec1 (gl6 S_rec1 nF) v2 lk3 la4 ll5 lots6 br7 = some res := h
      generalize gl6 S_rec1 nF = rec1 at h ih_rec1
      subst hS_rec1
      unfold sX4_unloadPallet_rec1 at h
      refine lv_iload_n hx hb dX4_unloadPallet_2 rfl (lv_at hl 0 rfl) ?_
      refine lv_aload_n hx hb dX4_unloadPallet_3 rfl (lv_at hl 1 rfl) ?_
      refine va_get (D := E.1) (cl := vwCl) (ci := 4) (v := .int onp) (C := RX4) (T := TX4) (N := 11) hx hb hts hiX4 hown hK hP 0 rfl rfl 7 (by decide) hw0 (fun _ h9 => h9) rfl dX4_unloadPallet_4 ?_
      refine lv_icmp_ge (tgt := 40) hx hb dX4_unloadPallet_7 (by decide) (fun hc8 => ?_) (fun hc8 => ?_)
      · replace h := g_it hc8 h
        refine lv_aload_n hx hb dX4_unloadPallet_40 rfl (lv_at hl 1 rfl) ?_
        refine lv_iconst (v := (0 : Int32)) hx hb dX4_unloadPallet_41 (by decide) ?_
        refine va_put (D := E.1) (cl := vwCl) (ci := 4) (v := .int (0 : Int32)) (ty := .int) (C := RX4) (T := TX4) (N := 11) hx hb hts hiX4 tyX4 tyX4_ok nmX4 hown hK hP hD hS 0 rfl rfl 7 (by decide) hw0 (fun _ h9 => h9) rfl (by decide +kernel) rfl rfl (Nat.le_of_ble_eq_true rfl) dX4_unloadPallet_42 (fun H locs hP hD hS => ?_)
        replace hP : va_P E.1 vwCl (wSt E a0 a1 a2 a3 a4 a5 a6 a7 a8 a9 lk3 la4 ll5 lots6 pk pa pd (0 : Int32) br7 us sp) H := hP
        replace hD : va_D A (wSt E a0 a1 a2 a3 a4 a5 a6 a7 a8 a9 lk3 la4 ll5 lots6 pk pa pd (0 : Int32) br7 us sp) := hD
        exact hret (lk3, la4, ll5, lots6, (0 : Int32), br7) _ _ _ _ (Option.some.inj h) hP hS dX4_unloadPallet_45
      · replace h := g_if hc8 h
        refine lv_aload_n hx hb dX4_unloadPallet_10 rfl (lv_at hl 1 rfl) ?_
        refine lv_aload_n hx hb dX4_unloadPallet_11 rfl (lv_at hl 1 rfl) ?_
        refine va_get (D := E.1) (cl := vwCl) (ci := 4) (v := .ref a4) (C := RX4) (T := TX4) (N := 11) hx hb hts hiX4 hown hK hP 0 rfl rfl 4 (by decide) hw1 (fun _ h9 => h9) rfl dX4_unloadPallet_12 ?_
        refine lv_iload_n hx hb dX4_unloadPallet_15 rfl (lv_at hl 0 rfl) ?_
        obtain ⟨hg9, h⟩ := gd_s h
        refine va_iald (D := E.1) (cl := vwCl) (tys := gT E) hx hb hK hP 4 0 rfl rfl (inB_in hg9) dX4_unloadPallet_16 ?_
        refine lv_aload_n hx hb dX4_unloadPallet_17 rfl (lv_at hl 1 rfl) ?_
        refine va_get (D := E.1) (cl := vwCl) (ci := 4) (v := .ref a5) (C := RX4) (T := TX4) (N := 11) hx hb hts hiX4 hown hK hP 0 rfl rfl 5 (by decide) hw2 (fun _ h9 => h9) rfl dX4_unloadPallet_18 ?_
        refine lv_iload_n hx hb dX4_unloadPallet_21 rfl (lv_at hl 0 rfl) ?_
        refine va_iald (D := E.1) (cl := vwCl) (tys := gT E) hx hb hK hP 5 0 rfl rfl (inB_in hg9) dX4_unloadPallet_22 ?_
        refine lv_iload_n hx hb dX4_unloadPallet_23 rfl (lv_at hl 2 rfl) ?_
        refine lv_aload_n hx hb dX4_unloadPallet_24 rfl (lv_at hl 1 rfl) ?_
        refine va_get (D := E.1) (cl := vwCl) (ci := 4) (v := .ref a6) (C := RX4) (T := TX4) (N := 11) hx hb hts hiX4 hown hK hP 0 rfl rfl 6 (by decide) hw3 (fun _ h9 => h9) rfl dX4_unloadPallet_25 ?_
        refine lv_iload_n hx hb dX4_unloadPallet_28 rfl (lv_at hl 0 rfl) ?_
        refine va_iald (D := E.1) (cl := vwCl) (tys := gT E) hx hb hK hP 6 0 rfl rfl (inB_in hg9) dX4_unloadPallet_29 ?_
        refine lv_iadd hx hb dX4_unloadPallet_30 ?_
        obtain ⟨lk10, la11, ll12, lots13, br14, hc15, h⟩ := bd5_s h
        refine g_callVv (As := [.int (pk (v2).toNatClampNeg), .int (pa (v2).toNatClampNeg), .int (p1 + (pd (v2).toNatClampNeg))]) (rest := []) (ws1 := (wSt E a0 a1 a2 a3 a4 a5 a6 a7 a8 a9 lk10 la11 ll12 lots13 pk pa pd onp br14 us sp)) ⟨hx, hb, hml, hown, hts⟩ (kX4_addLot E l a0 a1 a2 a3 a4 a5 a6 a7 a8 a9 lk3 la4 ll5 lots6 pk pa pd onp br7 us sp (pk (v2).toNatClampNeg) (pa (v2).toNatClampNeg) (p1 + (pd (v2).toNatClampNeg)) (lk10, la11, ll12, lots13, br14) hc15) (cwV 3 hts gX4_unloadPallet_X4_addLot rfl rfl rfl (by decide +kernel) ⟨Nat.le_of_ble_eq_true rfl, Nat.le_of_ble_eq_true rfl⟩) hK hP hD hS hA hG hl [0, 1, 2, 3, 4, 5, 6, 7, 8, 9] 0 (by decide) rfl (ci := 4) rfl rfl rfl rfl rfl rfl rfl rfl (Nat.le_of_ble_eq_true rfl) dX4_unloadPallet_31 (Nat.zero_le _) (Nat.zero_le _) (fun H locs hP hD hS => ?_)
        obtain ⟨v16, e_v16⟩ : ∃ y : Int32, y = (v2 + (1 : Int32)) := ⟨_, rfl⟩
        replace h := jl_s e_v16 h
        refine lv_iinc (v := v16) (lv' := [(2, .int v16), (0, .ref a0), (1, .int p1)]) hx hb dX4_unloadPallet_34 hl (k := 0) rfl (by rw [e_v16]; rfl) (by decide) rfl (fun ls hl => ?_)
        refine lv_goto (tgt := 2) hx hb dX4_unloadPallet_37 (by decide) ?_
        exact ih_rec1 v16 lk10 la11 ll12 lots13 br14 _ _ _ hP hS (lv_sub hl [0, 1, 2] rfl) h
  exact hL_rec1 gFU (0 : Int32) lk la ll lots br _ _ _ hP hS (lv_sub hl [0, 1, 2] rfl) h
