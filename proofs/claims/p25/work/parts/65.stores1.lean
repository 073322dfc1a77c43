set_option maxHeartbeats 4000000 in
set_option maxRecDepth 100000 in
theorem kX4_isKind (E : gE) (l : Launch)   (p1 : Int32) (res : Int32) (h : fX4_isKind  p1 = some res) : gMI E l yX4_isKind wsX4_isKind ({ frames := 0, cells := 0, slots := 0, locals := 0 } : Room) [.int p1] ([] : va_W) (fun res : Int32 => ([] : va_W)) (fun res => res) res := by
  refine g_entZ (cc := cX4_isKind) (maxL := 1) (by decide) rfl (Nat.le_of_ble_eq_true rfl) ?_
  intro p e s m args below meth c A Q ls hx hb hml hown hts hK hP hD hS hA hG hret hl
  unfold fX4_isKind at h
  replace hl : lv_has ls 1 [(0, .int p1)] := hl
  refine lv_iload_n hx hb dX4_isKind_0 rfl (lv_at hl 0 rfl) ?_
  refine lv_if_lt (tgt := 13) hx hb dX4_isKind_1 (by decide) (fun hc1 => ?_) (fun hc1 => ?_)
  · replace h := g_it hc1 h
    refine lv_iconst (v := (0 : Int32)) hx hb dX4_isKind_13 (by decide) ?_
    exact hret (0 : Int32) _ _ _ _ _ (Option.some.inj h) hP hS rfl rfl dX4_isKind_14
  · replace h := g_if hc1 h
    refine lv_iload_n hx hb dX4_isKind_4 rfl (lv_at hl 0 rfl) ?_
    refine lv_iconst (v := (3 : Int32)) hx hb dX4_isKind_5 (by decide) ?_
    refine lv_icmp_ge (tgt := 13) hx hb dX4_isKind_6 (by decide) (fun hc2 => ?_) (fun hc2 => ?_)
    · replace h := g_it hc2 h
      refine lv_iconst (v := (0 : Int32)) hx hb dX4_isKind_13 (by decide) ?_
      exact hret (0 : Int32) _ _ _ _ _ (Option.some.inj h) hP hS rfl rfl dX4_isKind_14
    · replace h := g_if hc2 h
      refine lv_iconst (v := (1 : Int32)) hx hb dX4_isKind_9 (by decide) ?_
      refine lv_goto (tgt := 14) hx hb dX4_isKind_10 (by decide) ?_
      exact hret (1 : Int32) _ _ _ _ _ (Option.some.inj h) hP hS rfl rfl dX4_isKind_14
set_option maxHeartbeats 4000000 in
set_option maxRecDepth 100000 in
theorem kX4_addLot (E : gE) (l : Launch) (a0 a1 a2 a3 a4 a5 a6 a7 a8 a9 : Nat) (lk : Nat → Int32) (la : Nat → Int32) (ll : Nat → Int32) (lots : Int32) (pk : Nat → Int32) (pa : Nat → Int32) (pd : Nat → Int32) (onp : Int32) (br : Nat → Int32) (us : Nat → Int32) (sp : Nat → Int32) (p1 : Int32) (p2 : Int32) (p3 : Int32) (res : (Nat → Int32) × (Nat → Int32) × (Nat → Int32) × Int32 × (Nat → Int32)) (h : fX4_addLot lk la ll lots br p1 p2 p3 = some res) : gMV E l yX4_addLot wsX4_addLot ({ frames := 1, cells := 0, slots := 0, locals := 20 } : Room) [.ref a0, .int p1, .int p2, .int p3] (wSt E a0 a1 a2 a3 a4 a5 a6 a7 a8 a9 lk la ll lots pk pa pd onp br us sp) (fun res : (Nat → Int32) × (Nat → Int32) × (Nat → Int32) × Int32 × (Nat → Int32) => (wSt E a0 a1 a2 a3 a4 a5 a6 a7 a8 a9 res.1 res.2.1 res.2.2.1 res.2.2.2.1 pk pa pd onp res.2.2.2.2 us sp)) res := by
  refine g_entV (cc := cX4_addLot) (maxL := 5) (by decide) rfl (Nat.le_of_ble_eq_true rfl) ?_
  intro p e s m args below meth c A Q ls hx hb hml hown hts hK hP hD hS hA hG hret hl
  unfold fX4_addLot at h
  replace hl : lv_has ls 5 [(0, .ref a0), (1, .int p1), (2, .int p2), (3, .int p3)] := hl
  have hiX4 : ∀ w ∈ wsX40, w ∈ wsX4_addLot := by decide +kernel
  have hw0 := hts (.fieldLink RX4 43 "GlacierHut$Stores" "lots" "I") (by decide +kernel)
  have hw1 := hts (.fieldLink RX4 16 "GlacierHut$Stores" "lotLast" "[I") (by decide +kernel)
  have hw2 := hts (.fieldLink RX4 9 "GlacierHut$Stores" "lotKind" "[I") (by decide +kernel)
  have hw3 := hts (.fieldLink RX4 13 "GlacierHut$Stores" "lotAmount" "[I") (by decide +kernel)
  have hw4 := hts (.fieldLink RX4 28 "GlacierHut$Stores" "brought" "[I") (by decide +kernel)
  refine lv_aload_n hx hb dX4_addLot_0 rfl (lv_at hl 0 rfl) ?_
  refine va_get (D := E.1) (cl := vwCl) (ci := 4) (v := .int lots) (C := RX4) (T := TX4) (N := 11) hx hb hts hiX4 hown hK hP 0 rfl rfl 3 (by decide) hw0 (fun _ h9 => h9) rfl dX4_addLot_1 ?_
  refine lv_bipush (v := (20 : Int32)) hx hb dX4_addLot_4 (by decide) ?_
  refine lv_icmp_ge (tgt := 16) hx hb dX4_addLot_6 (by decide) (fun hc1 => ?_) (fun hc1 => ?_)
  · replace h := g_it hc1 h
    exact hret (lk, la, ll, lots, br) _ _ _ _ (Option.some.inj h) hP hS dX4_addLot_16
  · replace h := g_if hc1 h
    refine lv_iload_n hx hb dX4_addLot_9 rfl (lv_at hl 1 rfl) ?_
    obtain ⟨r2, hc3, h⟩ := bd1_s h
    refine g_callSi (As := [.int p1]) (rest := []) (r := r2) ⟨hx, hb, hml, hown, hts⟩ (kX4_isKind E l p1 r2 hc3) (va_cwS 1 hts gX4_addLot_X4_isKind rfl rfl rfl (by decide +kernel) ⟨Nat.le_of_ble_eq_true rfl, Nat.le_of_ble_eq_true rfl⟩) hK hP hD hS hA hG hl rfl rfl rfl (Nat.le_of_ble_eq_true rfl) dX4_addLot_10 (Nat.zero_le _) (Nat.zero_le _) (fun H locs hP hD hS => ?_)
    refine lv_if_ne (tgt := 17) hx hb dX4_addLot_13 (by decide) (fun hc4 => ?_) (fun hc4 => ?_)
    · replace h := g_if hc4 h
      refine lv_aload_n hx hb dX4_addLot_17 rfl (lv_at hl 0 rfl) ?_
      refine va_get (D := E.1) (cl := vwCl) (ci := 4) (v := .int lots) (C := RX4) (T := TX4) (N := 11) hx hb hts hiX4 hown hK hP 0 rfl rfl 3 (by decide) hw0 (fun _ h9 => h9) rfl dX4_addLot_18 ?_
      refine lv_istore (lv' := [(4, .int lots), (0, .ref a0), (1, .int p1), (2, .int p2), (3, .int p3)]) hx hb dX4_addLot_21 hl (by decide) rfl (fun ls hl => ?_)
      refine gl4_e h (fun S_rec5 hS_rec5 h => ?_)
      have hL_rec5 : ∀ (nF : Nat) (v6 : Int32) (lk7 : Nat → Int32) (la8 : Nat → Int32) (ll9 : Nat → Int32) (H : Heap) (locs : List Loc) (ls : Array Slot), va_P E.1 vwCl (wSt E a0 a1 a2 a3 a4 a5 a6 a7 a8 a9 lk7 la8 ll9 lots pk pa pd onp br us sp) H → va_S A s.heap H locs → lv_has ls 5 [(4, .int v6), (0, .ref a0), (1, .int p1), (2, .int p2), (3, .int p3)] → gl4 S_rec5 nF v6 lk7 la8 ll9 = some res → W p l e ({ frames := 1, cells := 0, slots := 0, locals := 20 } : Room) s m args below meth c H locs 0 0 Q (F0 m 23 ls []) := by
        intro nF
        induction nF with
        | zero => intro v6 lk7 la8 ll9 H locs ls hP hS hl h; exact gl4_z h
        | succ nF ih_rec5 =>
          intro v6 lk7 la8 ll9 H locs ls hP hS hl h
          replace hD : va_D A (wSt E a0 a1 a2 a3 a4 a5 a6 a7 a8 a9 lk7 la8 ll9 lots pk pa pd onp br us sp) := gD_same hD rfl
          replace h : S_rec5 (gl4 S_rec5 nF) v6 lk7 la8 ll9 = some res := h
          generalize gl4 S_rec5 nF = rec5 at h ih_rec5
          subst hS_rec5
          unfold sX4_addLot_rec5 at h
          refine lv_iload hx hb dX4_addLot_23 (lv_at hl 0 rfl) ?_
          refine mrg_e h (fun J11 hK_J11 h => ?_)
          have hJ_J11 : ∀ (_ : Unit) (H : Heap) (locs : List Loc) (ls : Array Slot), va_P E.1 vwCl (wSt E a0 a1 a2 a3 a4 a5 a6 a7 a8 a9 lk7 la8 ll9 lots pk pa pd onp br us sp) H → va_S A s.heap H locs → lv_has ls 5 [(4, .int v6), (0, .ref a0), (1, .int p1), (2, .int p2), (3, .int p3)] → J11 () = some res → W p l e ({ frames := 1, cells := 0, slots := 0, locals := 20 } : Room) s m args below meth c H locs 0 0 Q (F0 m 95 ls []) := by
            intro _ H locs ls hP hS hl h
            replace hD : va_D A (wSt E a0 a1 a2 a3 a4 a5 a6 a7 a8 a9 lk7 la8 ll9 lots pk pa pd onp br us sp) := gD_same hD rfl
            subst hK_J11
            refine lv_aload_n hx hb dX4_addLot_95 rfl (lv_at hl 1 rfl) ?_
            refine va_get (D := E.1) (cl := vwCl) (ci := 4) (v := .ref a1) (C := RX4) (T := TX4) (N := 11) hx hb hts hiX4 hown hK hP 0 rfl rfl 0 (by decide) hw2 (fun _ h9 => h9) rfl dX4_addLot_96 ?_
            refine lv_iload hx hb dX4_addLot_99 (lv_at hl 0 rfl) ?_
            refine lv_iload_n hx hb dX4_addLot_101 rfl (lv_at hl 2 rfl) ?_
            obtain ⟨hg19, h⟩ := gd_s h
            refine va_iast (D := E.1) (cl := vwCl) (tys := gT E) hx hb hK hP hD hS 1 0 rfl rfl (inB_in hg19) dX4_addLot_102 (fun H locs hP hD hS => ?_)
            obtain ⟨lk20, e_lk20⟩ : ∃ y : Nat → Int32, y = (upd lk7 (v6).toNatClampNeg p1) := ⟨_, rfl⟩
            replace h := jl_s e_lk20 h
            replace hP : va_P E.1 vwCl (wSt E a0 a1 a2 a3 a4 a5 a6 a7 a8 a9 lk20 la8 ll9 lots pk pa pd onp br us sp) H := (by rw [e_lk20]; exact hP)
            replace hD : va_D A (wSt E a0 a1 a2 a3 a4 a5 a6 a7 a8 a9 lk20 la8 ll9 lots pk pa pd onp br us sp) := gD_same hD rfl
            refine lv_aload_n hx hb dX4_addLot_103 rfl (lv_at hl 1 rfl) ?_
            refine va_get (D := E.1) (cl := vwCl) (ci := 4) (v := .ref a2) (C := RX4) (T := TX4) (N := 11) hx hb hts hiX4 hown hK hP 0 rfl rfl 1 (by decide) hw3 (fun _ h9 => h9) rfl dX4_addLot_104 ?_
            refine lv_iload hx hb dX4_addLot_107 (lv_at hl 0 rfl) ?_
            refine lv_iload_n hx hb dX4_addLot_109 rfl (lv_at hl 3 rfl) ?_
            refine va_iast (D := E.1) (cl := vwCl) (tys := gT E) hx hb hK hP hD hS 2 0 rfl rfl (inB_in hg19) dX4_addLot_110 (fun H locs hP hD hS => ?_)
            obtain ⟨la21, e_la21⟩ : ∃ y : Nat → Int32, y = (upd la8 (v6).toNatClampNeg p2) := ⟨_, rfl⟩
            replace h := jl_s e_la21 h
            replace hP : va_P E.1 vwCl (wSt E a0 a1 a2 a3 a4 a5 a6 a7 a8 a9 lk20 la21 ll9 lots pk pa pd onp br us sp) H := (by rw [e_la21]; exact hP)
            replace hD : va_D A (wSt E a0 a1 a2 a3 a4 a5 a6 a7 a8 a9 lk20 la21 ll9 lots pk pa pd onp br us sp) := gD_same hD rfl
            refine lv_aload_n hx hb dX4_addLot_111 rfl (lv_at hl 1 rfl) ?_
            refine va_get (D := E.1) (cl := vwCl) (ci := 4) (v := .ref a3) (C := RX4) (T := TX4) (N := 11) hx hb hts hiX4 hown hK hP 0 rfl rfl 2 (by decide) hw1 (fun _ h9 => h9) rfl dX4_addLot_112 ?_
            refine lv_iload hx hb dX4_addLot_115 (lv_at hl 0 rfl) ?_
            refine lv_iload_n hx hb dX4_addLot_117 rfl (lv_at hl 4 rfl) ?_
            refine va_iast (D := E.1) (cl := vwCl) (tys := gT E) hx hb hK hP hD hS 3 0 rfl rfl (inB_in hg19) dX4_addLot_118 (fun H locs hP hD hS => ?_)
            obtain ⟨ll22, e_ll22⟩ : ∃ y : Nat → Int32, y = (upd ll9 (v6).toNatClampNeg p3) := ⟨_, rfl⟩
            replace h := jl_s e_ll22 h
            replace hP : va_P E.1 vwCl (wSt E a0 a1 a2 a3 a4 a5 a6 a7 a8 a9 lk20 la21 ll22 lots pk pa pd onp br us sp) H := (by rw [e_ll22]; exact hP)
            replace hD : va_D A (wSt E a0 a1 a2 a3 a4 a5 a6 a7 a8 a9 lk20 la21 ll22 lots pk pa pd onp br us sp) := gD_same hD rfl
            refine lv_aload_n hx hb dX4_addLot_119 rfl (lv_at hl 1 rfl) ?_
            refine lv_dup hx hb dX4_addLot_120 rfl ?_
            refine va_get (D := E.1) (cl := vwCl) (ci := 4) (v := .int lots) (C := RX4) (T := TX4) (N := 11) hx hb hts hiX4 hown hK hP 0 rfl rfl 3 (by decide) hw0 (fun _ h9 => h9) rfl dX4_addLot_121 ?_
            refine lv_iconst (v := (1 : Int32)) hx hb dX4_addLot_124 (by decide) ?_
            refine lv_iadd hx hb dX4_addLot_125 ?_
            refine lv_topi (fun v23 e_v23 => ?_)
            replace h := jl_s e_v23 h
            refine va_put (D := E.1) (cl := vwCl) (ci := 4) (v := .int v23) (ty := .int) (C := RX4) (T := TX4) (N := 11) hx hb hts hiX4 tyX4 tyX4_ok nmX4 hown hK hP hD hS 0 rfl rfl 3 (by decide) hw0 (fun _ h9 => h9) rfl (by decide +kernel) rfl rfl (Nat.le_of_ble_eq_true rfl) dX4_addLot_126 (fun H locs hP hD hS => ?_)
            replace hP : va_P E.1 vwCl (wSt E a0 a1 a2 a3 a4 a5 a6 a7 a8 a9 lk20 la21 ll22 v23 pk pa pd onp br us sp) H := hP
            replace hD : va_D A (wSt E a0 a1 a2 a3 a4 a5 a6 a7 a8 a9 lk20 la21 ll22 v23 pk pa pd onp br us sp) := hD
            refine lv_aload_n hx hb dX4_addLot_129 rfl (lv_at hl 1 rfl) ?_
            refine va_get (D := E.1) (cl := vwCl) (ci := 4) (v := .ref a7) (C := RX4) (T := TX4) (N := 11) hx hb hts hiX4 hown hK hP 0 rfl rfl 8 (by decide) hw4 (fun _ h9 => h9) rfl dX4_addLot_130 ?_
            refine lv_iload_n hx hb dX4_addLot_133 rfl (lv_at hl 2 rfl) ?_
            refine lv_dup2_11 hx hb dX4_addLot_134 rfl rfl ?_
            obtain ⟨hg24, h⟩ := gd_s h
            refine va_iald (D := E.1) (cl := vwCl) (tys := gT E) hx hb hK hP 7 0 rfl rfl (inB_in hg24) dX4_addLot_135 ?_
            refine lv_iload_n hx hb dX4_addLot_136 rfl (lv_at hl 3 rfl) ?_
            refine lv_iadd hx hb dX4_addLot_137 ?_
            refine va_iast (D := E.1) (cl := vwCl) (tys := gT E) hx hb hK hP hD hS 7 0 rfl rfl (inB_in hg24) dX4_addLot_138 (fun H locs hP hD hS => ?_)
            obtain ⟨br25, e_br25⟩ : ∃ y : Nat → Int32, y = (upd br (p1).toNatClampNeg ((br (p1).toNatClampNeg) + p2)) := ⟨_, rfl⟩
            replace h := jl_s e_br25 h
            replace hP : va_P E.1 vwCl (wSt E a0 a1 a2 a3 a4 a5 a6 a7 a8 a9 lk20 la21 ll22 v23 pk pa pd onp br25 us sp) H := (by rw [e_br25]; exact hP)
            replace hD : va_D A (wSt E a0 a1 a2 a3 a4 a5 a6 a7 a8 a9 lk20 la21 ll22 v23 pk pa pd onp br25 us sp) := gD_same hD rfl
            exact hret (lk20, la21, ll22, v23, br25) _ _ _ _ (Option.some.inj h) hP hS dX4_addLot_139
          refine lv_if_le (tgt := 95) hx hb dX4_addLot_25 (by decide) (fun hc10 => ?_) (fun hc10 => ?_)
          · replace h := g_it hc10 h
            exact hJ_J11 () _ _ _ hP hS (lv_sub hl [0, 1, 2, 3, 4] rfl) h
          · replace h := g_if hc10 h
            refine lv_aload_n hx hb dX4_addLot_28 rfl (lv_at hl 1 rfl) ?_
            refine va_get (D := E.1) (cl := vwCl) (ci := 4) (v := .ref a3) (C := RX4) (T := TX4) (N := 11) hx hb hts hiX4 hown hK hP 0 rfl rfl 2 (by decide) hw1 (fun _ h9 => h9) rfl dX4_addLot_29 ?_
            refine lv_iload hx hb dX4_addLot_32 (lv_at hl 0 rfl) ?_
            refine lv_iconst (v := (1 : Int32)) hx hb dX4_addLot_34 (by decide) ?_
            refine lv_isub hx hb dX4_addLot_35 ?_
            obtain ⟨hg12, h⟩ := gd_s h
            refine va_iald (D := E.1) (cl := vwCl) (tys := gT E) hx hb hK hP 3 0 rfl rfl (inB_in hg12) dX4_addLot_36 ?_
            refine lv_iload_n hx hb dX4_addLot_37 rfl (lv_at hl 4 rfl) ?_
            refine lv_icmp_le (tgt := 95) hx hb dX4_addLot_38 (by decide) (fun hc13 => ?_) (fun hc13 => ?_)
            · replace h := g_it hc13 h
              exact hJ_J11 () _ _ _ hP hS (lv_sub hl [0, 1, 2, 3, 4] rfl) h
            · replace h := g_if hc13 h
              refine lv_aload_n hx hb dX4_addLot_41 rfl (lv_at hl 1 rfl) ?_
              refine va_get (D := E.1) (cl := vwCl) (ci := 4) (v := .ref a1) (C := RX4) (T := TX4) (N := 11) hx hb hts hiX4 hown hK hP 0 rfl rfl 0 (by decide) hw2 (fun _ h9 => h9) rfl dX4_addLot_42 ?_
              refine lv_iload hx hb dX4_addLot_45 (lv_at hl 0 rfl) ?_
              refine lv_aload_n hx hb dX4_addLot_47 rfl (lv_at hl 1 rfl) ?_
              refine va_get (D := E.1) (cl := vwCl) (ci := 4) (v := .ref a1) (C := RX4) (T := TX4) (N := 11) hx hb hts hiX4 hown hK hP 0 rfl rfl 0 (by decide) hw2 (fun _ h9 => h9) rfl dX4_addLot_48 ?_
              refine lv_iload hx hb dX4_addLot_51 (lv_at hl 0 rfl) ?_
              refine lv_iconst (v := (1 : Int32)) hx hb dX4_addLot_53 (by decide) ?_
              refine lv_isub hx hb dX4_addLot_54 ?_
              refine va_iald (D := E.1) (cl := vwCl) (tys := gT E) hx hb hK hP 1 0 rfl rfl (inB_in hg12) dX4_addLot_55 ?_
              obtain ⟨hg14, h⟩ := gd_s h
              refine va_iast (D := E.1) (cl := vwCl) (tys := gT E) hx hb hK hP hD hS 1 0 rfl rfl (inB_in hg14) dX4_addLot_56 (fun H locs hP hD hS => ?_)
              obtain ⟨lk15, e_lk15⟩ : ∃ y : Nat → Int32, y = (upd lk7 (v6).toNatClampNeg (lk7 ((v6 - (1 : Int32))).toNatClampNeg)) := ⟨_, rfl⟩
              replace h := jl_s e_lk15 h
              replace hP : va_P E.1 vwCl (wSt E a0 a1 a2 a3 a4 a5 a6 a7 a8 a9 lk15 la8 ll9 lots pk pa pd onp br us sp) H := (by rw [e_lk15]; exact hP)
              replace hD : va_D A (wSt E a0 a1 a2 a3 a4 a5 a6 a7 a8 a9 lk15 la8 ll9 lots pk pa pd onp br us sp) := gD_same hD rfl
              refine lv_aload_n hx hb dX4_addLot_57 rfl (lv_at hl 1 rfl) ?_
              refine va_get (D := E.1) (cl := vwCl) (ci := 4) (v := .ref a2) (C := RX4) (T := TX4) (N := 11) hx hb hts hiX4 hown hK hP 0 rfl rfl 1 (by decide) hw3 (fun _ h9 => h9) rfl dX4_addLot_58 ?_
              refine lv_iload hx hb dX4_addLot_61 (lv_at hl 0 rfl) ?_
              refine lv_aload_n hx hb dX4_addLot_63 rfl (lv_at hl 1 rfl) ?_
              refine va_get (D := E.1) (cl := vwCl) (ci := 4) (v := .ref a2) (C := RX4) (T := TX4) (N := 11) hx hb hts hiX4 hown hK hP 0 rfl rfl 1 (by decide) hw3 (fun _ h9 => h9) rfl dX4_addLot_64 ?_
              refine lv_iload hx hb dX4_addLot_67 (lv_at hl 0 rfl) ?_
              refine lv_iconst (v := (1 : Int32)) hx hb dX4_addLot_69 (by decide) ?_
              refine lv_isub hx hb dX4_addLot_70 ?_
              refine va_iald (D := E.1) (cl := vwCl) (tys := gT E) hx hb hK hP 2 0 rfl rfl (inB_in hg12) dX4_addLot_71 ?_
              refine va_iast (D := E.1) (cl := vwCl) (tys := gT E) hx hb hK hP hD hS 2 0 rfl rfl (inB_in hg14) dX4_addLot_72 (fun H locs hP hD hS => ?_)
              obtain ⟨la16, e_la16⟩ : ∃ y : Nat → Int32, y = (upd la8 (v6).toNatClampNeg (la8 ((v6 - (1 : Int32))).toNatClampNeg)) := ⟨_, rfl⟩
              replace h := jl_s e_la16 h
              replace hP : va_P E.1 vwCl (wSt E a0 a1 a2 a3 a4 a5 a6 a7 a8 a9 lk15 la16 ll9 lots pk pa pd onp br us sp) H := (by rw [e_la16]; exact hP)
              replace hD : va_D A (wSt E a0 a1 a2 a3 a4 a5 a6 a7 a8 a9 lk15 la16 ll9 lots pk pa pd onp br us sp) := gD_same hD rfl
              refine lv_aload_n hx hb dX4_addLot_73 rfl (lv_at hl 1 rfl) ?_
              refine va_get (D := E.1) (cl := vwCl) (ci := 4) (v := .ref a3) (C := RX4) (T := TX4) (N := 11) hx hb hts hiX4 hown hK hP 0 rfl rfl 2 (by decide) hw1 (fun _ h9 => h9) rfl dX4_addLot_74 ?_
              refine lv_iload hx hb dX4_addLot_77 (lv_at hl 0 rfl) ?_
              refine lv_aload_n hx hb dX4_addLot_79 rfl (lv_at hl 1 rfl) ?_
              refine va_get (D := E.1) (cl := vwCl) (ci := 4) (v := .ref a3) (C := RX4) (T := TX4) (N := 11) hx hb hts hiX4 hown hK hP 0 rfl rfl 2 (by decide) hw1 (fun _ h9 => h9) rfl dX4_addLot_80 ?_
              refine lv_iload hx hb dX4_addLot_83 (lv_at hl 0 rfl) ?_
              refine lv_iconst (v := (1 : Int32)) hx hb dX4_addLot_85 (by decide) ?_
              refine lv_isub hx hb dX4_addLot_86 ?_
              refine va_iald (D := E.1) (cl := vwCl) (tys := gT E) hx hb hK hP 3 0 rfl rfl (inB_in hg12) dX4_addLot_87 ?_
              refine va_iast (D := E.1) (cl := vwCl) (tys := gT E) hx hb hK hP hD hS 3 0 rfl rfl (inB_in hg14) dX4_addLot_88 (fun H locs hP hD hS => ?_)
              obtain ⟨ll17, e_ll17⟩ : ∃ y : Nat → Int32, y = (upd ll9 (v6).toNatClampNeg (ll9 ((v6 - (1 : Int32))).toNatClampNeg)) := ⟨_, rfl⟩
              replace h := jl_s e_ll17 h
              replace hP : va_P E.1 vwCl (wSt E a0 a1 a2 a3 a4 a5 a6 a7 a8 a9 lk15 la16 ll17 lots pk pa pd onp br us sp) H := (by rw [e_ll17]; exact hP)
              replace hD : va_D A (wSt E a0 a1 a2 a3 a4 a5 a6 a7 a8 a9 lk15 la16 ll17 lots pk pa pd onp br us sp) := gD_same hD rfl
              obtain ⟨v18, e_v18⟩ : ∃ y : Int32, y = (v6 + (-1 : Int32)) := ⟨_, rfl⟩
              replace h := jl_s e_v18 h
              refine lv_iinc (v := v18) (lv' := [(4, .int v18), (0, .ref a0), (1, .int p1), (2, .int p2), (3, .int p3)]) hx hb dX4_addLot_89 hl (k := 0) rfl (by rw [e_v18]; rfl) (by decide) rfl (fun ls hl => ?_)
              refine lv_goto (tgt := 23) hx hb dX4_addLot_92 (by decide) ?_
              exact ih_rec5 v18 lk15 la16 ll17 _ _ _ hP hS (lv_sub hl [0, 1, 2, 3, 4] rfl) h
      exact hL_rec5 gFU lots lk la ll _ _ _ hP hS (lv_sub hl [0, 1, 2, 3, 4] rfl) h
    · replace h := g_it hc4 h
      exact hret (lk, la, ll, lots, br) _ _ _ _ (Option.some.inj h) hP hS dX4_addLot_16
set_option maxHeartbeats 4000000 in
set_option maxRecDepth 100000 in
theorem kX4_addToPallet (E : gE) (l : Launch) (a0 a1 a2 a3 a4 a5 a6 a7 a8 a9 : Nat) (lk : Nat → Int32) (la : Nat → Int32) (ll : Nat → Int32) (lots : Int32) (pk : Nat → Int32) (pa : Nat → Int32) (pd : Nat → Int32) (onp : Int32) (br : Nat → Int32) (us : Nat → Int32) (sp : Nat → Int32) (p1 : Int32) (p2 : Int32) (p3 : Int32) (res : (Nat → Int32) × (Nat → Int32) × (Nat → Int32) × Int32) (h : fX4_addToPallet pk pa pd onp p1 p2 p3 = some res) : gMV E l yX4_addToPallet wsX4_addToPallet ({ frames := 0, cells := 0, slots := 0, locals := 0 } : Room) [.ref a0, .int p1, .int p2, .int p3] (wSt E a0 a1 a2 a3 a4 a5 a6 a7 a8 a9 lk la ll lots pk pa pd onp br us sp) (fun res : (Nat → Int32) × (Nat → Int32) × (Nat → Int32) × Int32 => (wSt E a0 a1 a2 a3 a4 a5 a6 a7 a8 a9 lk la ll lots res.1 res.2.1 res.2.2.1 res.2.2.2 br us sp)) res := by
  refine g_entV (cc := cX4_addToPallet) (maxL := 4) (by decide) rfl (Nat.le_of_ble_eq_true rfl) ?_
  intro p e s m args below meth c A Q ls hx hb hml hown hts hK hP hD hS hA hG hret hl
  unfold fX4_addToPallet at h
  replace hl : lv_has ls 4 [(0, .ref a0), (1, .int p1), (2, .int p2), (3, .int p3)] := hl
  have hiX4 : ∀ w ∈ wsX40, w ∈ wsX4_addToPallet := by decide +kernel
  have hw0 := hts (.fieldLink RX4 47 "GlacierHut$Stores" "onPallet" "I") (by decide +kernel)
  have hw1 := hts (.fieldLink RX4 19 "GlacierHut$Stores" "palletKind" "[I") (by decide +kernel)
  have hw2 := hts (.fieldLink RX4 22 "GlacierHut$Stores" "palletAmount" "[I") (by decide +kernel)
  have hw3 := hts (.fieldLink RX4 25 "GlacierHut$Stores" "palletDays" "[I") (by decide +kernel)
  refine lv_aload_n hx hb dX4_addToPallet_0 rfl (lv_at hl 0 rfl) ?_
  refine va_get (D := E.1) (cl := vwCl) (ci := 4) (v := .int onp) (C := RX4) (T := TX4) (N := 11) hx hb hts hiX4 hown hK hP 0 rfl rfl 7 (by decide) hw0 (fun _ h9 => h9) rfl dX4_addToPallet_1 ?_
  refine lv_bipush (v := (6 : Int32)) hx hb dX4_addToPallet_4 (by decide) ?_
  refine lv_icmp_lt (tgt := 10) hx hb dX4_addToPallet_6 (by decide) (fun hc1 => ?_) (fun hc1 => ?_)
  · replace h := g_it hc1 h
    refine lv_aload_n hx hb dX4_addToPallet_10 rfl (lv_at hl 0 rfl) ?_
    refine va_get (D := E.1) (cl := vwCl) (ci := 4) (v := .ref a4) (C := RX4) (T := TX4) (N := 11) hx hb hts hiX4 hown hK hP 0 rfl rfl 4 (by decide) hw1 (fun _ h9 => h9) rfl dX4_addToPallet_11 ?_
    refine lv_aload_n hx hb dX4_addToPallet_14 rfl (lv_at hl 0 rfl) ?_
    refine va_get (D := E.1) (cl := vwCl) (ci := 4) (v := .int onp) (C := RX4) (T := TX4) (N := 11) hx hb hts hiX4 hown hK hP 0 rfl rfl 7 (by decide) hw0 (fun _ h9 => h9) rfl dX4_addToPallet_15 ?_
    refine lv_iload_n hx hb dX4_addToPallet_18 rfl (lv_at hl 1 rfl) ?_
    obtain ⟨hg2, h⟩ := gd_s h
    refine va_iast (D := E.1) (cl := vwCl) (tys := gT E) hx hb hK hP hD hS 4 0 rfl rfl (inB_in hg2) dX4_addToPallet_19 (fun H locs hP hD hS => ?_)
    obtain ⟨pk3, e_pk3⟩ : ∃ y : Nat → Int32, y = (upd pk (onp).toNatClampNeg p1) := ⟨_, rfl⟩
    replace h := jl_s e_pk3 h
    replace hP : va_P E.1 vwCl (wSt E a0 a1 a2 a3 a4 a5 a6 a7 a8 a9 lk la ll lots pk3 pa pd onp br us sp) H := (by rw [e_pk3]; exact hP)
    replace hD : va_D A (wSt E a0 a1 a2 a3 a4 a5 a6 a7 a8 a9 lk la ll lots pk3 pa pd onp br us sp) := gD_same hD rfl
    refine lv_aload_n hx hb dX4_addToPallet_20 rfl (lv_at hl 0 rfl) ?_
    refine va_get (D := E.1) (cl := vwCl) (ci := 4) (v := .ref a5) (C := RX4) (T := TX4) (N := 11) hx hb hts hiX4 hown hK hP 0 rfl rfl 5 (by decide) hw2 (fun _ h9 => h9) rfl dX4_addToPallet_21 ?_
    refine lv_aload_n hx hb dX4_addToPallet_24 rfl (lv_at hl 0 rfl) ?_
    refine va_get (D := E.1) (cl := vwCl) (ci := 4) (v := .int onp) (C := RX4) (T := TX4) (N := 11) hx hb hts hiX4 hown hK hP 0 rfl rfl 7 (by decide) hw0 (fun _ h9 => h9) rfl dX4_addToPallet_25 ?_
    refine lv_iload_n hx hb dX4_addToPallet_28 rfl (lv_at hl 2 rfl) ?_
    refine va_iast (D := E.1) (cl := vwCl) (tys := gT E) hx hb hK hP hD hS 5 0 rfl rfl (inB_in hg2) dX4_addToPallet_29 (fun H locs hP hD hS => ?_)
    obtain ⟨pa4, e_pa4⟩ : ∃ y : Nat → Int32, y = (upd pa (onp).toNatClampNeg p2) := ⟨_, rfl⟩
    replace h := jl_s e_pa4 h
    replace hP : va_P E.1 vwCl (wSt E a0 a1 a2 a3 a4 a5 a6 a7 a8 a9 lk la ll lots pk3 pa4 pd onp br us sp) H := (by rw [e_pa4]; exact hP)
    replace hD : va_D A (wSt E a0 a1 a2 a3 a4 a5 a6 a7 a8 a9 lk la ll lots pk3 pa4 pd onp br us sp) := gD_same hD rfl
    refine lv_aload_n hx hb dX4_addToPallet_30 rfl (lv_at hl 0 rfl) ?_
    refine va_get (D := E.1) (cl := vwCl) (ci := 4) (v := .ref a6) (C := RX4) (T := TX4) (N := 11) hx hb hts hiX4 hown hK hP 0 rfl rfl 6 (by decide) hw3 (fun _ h9 => h9) rfl dX4_addToPallet_31 ?_
    refine lv_aload_n hx hb dX4_addToPallet_34 rfl (lv_at hl 0 rfl) ?_
    refine va_get (D := E.1) (cl := vwCl) (ci := 4) (v := .int onp) (C := RX4) (T := TX4) (N := 11) hx hb hts hiX4 hown hK hP 0 rfl rfl 7 (by decide) hw0 (fun _ h9 => h9) rfl dX4_addToPallet_35 ?_
    refine lv_iload_n hx hb dX4_addToPallet_38 rfl (lv_at hl 3 rfl) ?_
    refine va_iast (D := E.1) (cl := vwCl) (tys := gT E) hx hb hK hP hD hS 6 0 rfl rfl (inB_in hg2) dX4_addToPallet_39 (fun H locs hP hD hS => ?_)
    obtain ⟨pd5, e_pd5⟩ : ∃ y : Nat → Int32, y = (upd pd (onp).toNatClampNeg p3) := ⟨_, rfl⟩
    replace h := jl_s e_pd5 h
    replace hP : va_P E.1 vwCl (wSt E a0 a1 a2 a3 a4 a5 a6 a7 a8 a9 lk la ll lots pk3 pa4 pd5 onp br us sp) H := (by rw [e_pd5]; exact hP)
    replace hD : va_D A (wSt E a0 a1 a2 a3 a4 a5 a6 a7 a8 a9 lk la ll lots pk3 pa4 pd5 onp br us sp) := gD_same hD rfl
    refine lv_aload_n hx hb dX4_addToPallet_40 rfl (lv_at hl 0 rfl) ?_
    refine lv_dup hx hb dX4_addToPallet_41 rfl ?_
    refine va_get (D := E.1) (cl := vwCl) (ci := 4) (v := .int onp) (C := RX4) (T := TX4) (N := 11) hx hb hts hiX4 hown hK hP 0 rfl rfl 7 (by decide) hw0 (fun _ h9 => h9) rfl dX4_addToPallet_42 ?_
    refine lv_iconst (v := (1 : Int32)) hx hb dX4_addToPallet_45 (by decide) ?_
    refine lv_iadd hx hb dX4_addToPallet_46 ?_
    refine lv_topi (fun v6 e_v6 => ?_)
    replace h := jl_s e_v6 h
    refine va_put (D := E.1) (cl := vwCl) (ci := 4) (v := .int v6) (ty := .int) (C := RX4) (T := TX4) (N := 11) hx hb hts hiX4 tyX4 tyX4_ok nmX4 hown hK hP hD hS 0 rfl rfl 7 (by decide) hw0 (fun _ h9 => h9) rfl (by decide +kernel) rfl rfl (Nat.le_of_ble_eq_true rfl) dX4_addToPallet_47 (fun H locs hP hD hS => ?_)
    replace hP : va_P E.1 vwCl (wSt E a0 a1 a2 a3 a4 a5 a6 a7 a8 a9 lk la ll lots pk3 pa4 pd5 v6 br us sp) H := hP
    replace hD : va_D A (wSt E a0 a1 a2 a3 a4 a5 a6 a7 a8 a9 lk la ll lots pk3 pa4 pd5 v6 br us sp) := hD
    exact hret (pk3, pa4, pd5, v6) _ _ _ _ (Option.some.inj h) hP hS dX4_addToPallet_50
  · replace h := g_if hc1 h
    exact hret (pk, pa, pd, onp) _ _ _ _ (Option.some.inj h) hP hS dX4_addToPallet_9
set_option maxHeartbeats 4000000 in
set_option maxRecDepth 100000 in
theorem kX4_amountOnPallet (E : gE) (l : Launch) (a0 a1 a2 a3 a4 a5 a6 a7 a8 a9 : Nat) (lk : Nat → Int32) (la : Nat → Int32) (ll : Nat → Int32) (lots : Int32) (pk : Nat → Int32) (pa : Nat → Int32) (pd : Nat → Int32) (onp : Int32) (br : Nat → Int32) (us : Nat → Int32) (sp : Nat → Int32) (p1 : Int32) (res : Int32) (h : fX4_amountOnPallet pk pa onp p1 = some res) : gMI E l yX4_amountOnPallet wsX4_amountOnPallet ({ frames := 0, cells := 0, slots := 0, locals := 0 } : Room) [.ref a0, .int p1] (wSt E a0 a1 a2 a3 a4 a5 a6 a7 a8 a9 lk la ll lots pk pa pd onp br us sp) (fun res : Int32 => (wSt E a0 a1 a2 a3 a4 a5 a6 a7 a8 a9 lk la ll lots pk pa pd onp br us sp)) (fun res => res) res := by
  refine g_entI (cc := cX4_amountOnPallet) (maxL := 4) (by decide) rfl (Nat.le_of_ble_eq_true rfl) ?_
  intro p e s m args below meth c A Q ls hx hb hml hown hts hK hP hD hS hA hG hret hl
  unfold fX4_amountOnPallet at h
  replace hl : lv_has ls 4 [(0, .ref a0), (1, .int p1)] := hl
  have hiX4 : ∀ w ∈ wsX40, w ∈ wsX4_amountOnPallet := by decide +kernel
  have hw0 := hts (.fieldLink RX4 47 "GlacierHut$Stores" "onPallet" "I") (by decide +kernel)
  have hw1 := hts (.fieldLink RX4 19 "GlacierHut$Stores" "palletKind" "[I") (by decide +kernel)
  have hw2 := hts (.fieldLink RX4 22 "GlacierHut$Stores" "palletAmount" "[I") (by decide +kernel)
  refine lv_iconst (v := (0 : Int32)) hx hb dX4_amountOnPallet_0 (by decide) ?_
  refine lv_istore_n (lv' := [(2, .int (0 : Int32)), (0, .ref a0), (1, .int p1)]) hx hb dX4_amountOnPallet_1 rfl hl (by decide) rfl (fun ls hl => ?_)
  refine lv_iconst (v := (0 : Int32)) hx hb dX4_amountOnPallet_2 (by decide) ?_
  refine lv_istore_n (lv' := [(3, .int (0 : Int32)), (2, .int (0 : Int32)), (0, .ref a0), (1, .int p1)]) hx hb dX4_amountOnPallet_3 rfl hl (by decide) rfl (fun ls hl => ?_)
  refine gl2_e h (fun S_rec1 hS_rec1 h => ?_)
  have hL_rec1 : ∀ (nF : Nat) (v2 : Int32) (v3 : Int32) (H : Heap) (locs : List Loc) (ls : Array Slot), va_P E.1 vwCl (wSt E a0 a1 a2 a3 a4 a5 a6 a7 a8 a9 lk la ll lots pk pa pd onp br us sp) H → va_S A s.heap H locs → lv_has ls 4 [(3, .int v2), (2, .int v3), (0, .ref a0), (1, .int p1)] → gl2 S_rec1 nF v2 v3 = some res → W p l e ({ frames := 0, cells := 0, slots := 0, locals := 0 } : Room) s m args below meth c H locs 0 0 Q (F0 m 4 ls []) := by
    intro nF
    induction nF with
    | zero => intro v2 v3 H locs ls hP hS hl h; exact gl2_z h
    | succ nF ih_rec1 =>
      intro v2 v3 H locs ls hP hS hl h
      replace hD : va_D A (wSt E a0 a1 a2 a3 a4 a5 a6 a7 a8 a9 lk la ll lots pk pa pd onp br us sp) := gD_same hD rfl
      replace h : S_rec1 (gl2 S_rec1 nF) v2 v3 = some res := h
      generalize gl2 S_rec1 nF = rec1 at h ih_rec1
      subst hS_rec1
      unfold sX4_amountOnPallet_rec1 at h
      refine lv_iload_n hx hb dX4_amountOnPallet_4 rfl (lv_at hl 0 rfl) ?_
      refine lv_aload_n hx hb dX4_amountOnPallet_5 rfl (lv_at hl 2 rfl) ?_
      refine va_get (D := E.1) (cl := vwCl) (ci := 4) (v := .int onp) (C := RX4) (T := TX4) (N := 11) hx hb hts hiX4 hown hK hP 0 rfl rfl 7 (by decide) hw0 (fun _ h9 => h9) rfl dX4_amountOnPallet_6 ?_
      refine lv_icmp_ge (tgt := 37) hx hb dX4_amountOnPallet_9 (by decide) (fun hc4 => ?_) (fun hc4 => ?_)
      · replace h := g_it hc4 h
        refine lv_iload_n hx hb dX4_amountOnPallet_37 rfl (lv_at hl 1 rfl) ?_
        exact hret v3 _ _ _ _ _ (Option.some.inj h) hP hS rfl dX4_amountOnPallet_38
      · replace h := g_if hc4 h
        refine lv_aload_n hx hb dX4_amountOnPallet_12 rfl (lv_at hl 2 rfl) ?_
        refine va_get (D := E.1) (cl := vwCl) (ci := 4) (v := .ref a4) (C := RX4) (T := TX4) (N := 11) hx hb hts hiX4 hown hK hP 0 rfl rfl 4 (by decide) hw1 (fun _ h9 => h9) rfl dX4_amountOnPallet_13 ?_
        refine lv_iload_n hx hb dX4_amountOnPallet_16 rfl (lv_at hl 0 rfl) ?_
        obtain ⟨hg5, h⟩ := gd_s h
        refine va_iald (D := E.1) (cl := vwCl) (tys := gT E) hx hb hK hP 4 0 rfl rfl (inB_in hg5) dX4_amountOnPallet_17 ?_
        refine lv_iload_n hx hb dX4_amountOnPallet_18 rfl (lv_at hl 3 rfl) ?_
        refine lv_icmp_ne (tgt := 31) hx hb dX4_amountOnPallet_19 (by decide) (fun hc6 => ?_) (fun hc6 => ?_)
        · replace h := g_if hc6 h
          obtain ⟨v7, e_v7⟩ : ∃ y : Int32, y = (v2 + (1 : Int32)) := ⟨_, rfl⟩
          replace h := jl_s e_v7 h
          refine lv_iinc (v := v7) (lv' := [(3, .int v7), (2, .int v3), (0, .ref a0), (1, .int p1)]) hx hb dX4_amountOnPallet_31 hl (k := 0) rfl (by rw [e_v7]; rfl) (by decide) rfl (fun ls hl => ?_)
          refine lv_goto (tgt := 4) hx hb dX4_amountOnPallet_34 (by decide) ?_
          exact ih_rec1 v7 v3 _ _ _ hP hS (lv_sub hl [0, 1, 2, 3] rfl) h
        · replace h := g_it hc6 h
          refine lv_iload_n hx hb dX4_amountOnPallet_22 rfl (lv_at hl 1 rfl) ?_
          refine lv_aload_n hx hb dX4_amountOnPallet_23 rfl (lv_at hl 2 rfl) ?_
          refine va_get (D := E.1) (cl := vwCl) (ci := 4) (v := .ref a5) (C := RX4) (T := TX4) (N := 11) hx hb hts hiX4 hown hK hP 0 rfl rfl 5 (by decide) hw2 (fun _ h9 => h9) rfl dX4_amountOnPallet_24 ?_
          refine lv_iload_n hx hb dX4_amountOnPallet_27 rfl (lv_at hl 0 rfl) ?_
          refine va_iald (D := E.1) (cl := vwCl) (tys := gT E) hx hb hK hP 5 0 rfl rfl (inB_in hg5) dX4_amountOnPallet_28 ?_
          refine lv_iadd hx hb dX4_amountOnPallet_29 ?_
          refine lv_topi (fun v8 e_v8 => ?_)
          replace h := jl_s e_v8 h
          refine lv_istore_n (lv' := [(2, .int v8), (3, .int v2), (0, .ref a0), (1, .int p1)]) hx hb dX4_amountOnPallet_30 rfl hl (by decide) rfl (fun ls hl => ?_)
          obtain ⟨v9, e_v9⟩ : ∃ y : Int32, y = (v2 + (1 : Int32)) := ⟨_, rfl⟩
          replace h := jl_s e_v9 h
          refine lv_iinc (v := v9) (lv' := [(3, .int v9), (2, .int v8), (0, .ref a0), (1, .int p1)]) hx hb dX4_amountOnPallet_31 hl (k := 1) rfl (by rw [e_v9]; rfl) (by decide) rfl (fun ls hl => ?_)
          refine lv_goto (tgt := 4) hx hb dX4_amountOnPallet_34 (by decide) ?_
          exact ih_rec1 v9 v8 _ _ _ hP hS (lv_sub hl [0, 1, 2, 3] rfl) h
  exact hL_rec1 gFU (0 : Int32) (0 : Int32) _ _ _ hP hS (lv_sub hl [0, 1, 2, 3] rfl) h
set_option maxHeartbeats 4000000 in
set_option maxRecDepth 100000 in
theorem kX4_copyFrom (E : gE) (l : Launch) (a0 a1 a2 a3 a4 a5 a6 a7 a8 a9 b0 b1 b2 b3 b4 b5 b6 b7 b8 b9 : Nat) (lk : Nat → Int32) (la : Nat → Int32) (ll : Nat → Int32) (lots : Int32) (pk : Nat → Int32) (pa : Nat → Int32) (pd : Nat → Int32) (onp : Int32) (br : Nat → Int32) (us : Nat → Int32) (sp : Nat → Int32) (o0_lk : Nat → Int32) (o0_la : Nat → Int32) (o0_ll : Nat → Int32) (o0_lots : Int32) (o0_pk : Nat → Int32) (o0_pa : Nat → Int32) (o0_pd : Nat → Int32) (o0_onp : Int32) (o0_br : Nat → Int32) (o0_us : Nat → Int32) (o0_sp : Nat → Int32)  (res : (Nat → Int32) × (Nat → Int32) × (Nat → Int32) × Int32 × (Nat → Int32) × (Nat → Int32) × (Nat → Int32) × Int32 × (Nat → Int32) × (Nat → Int32) × (Nat → Int32)) (h : fX4_copyFrom o0_lk o0_la o0_ll o0_lots o0_pk o0_pa o0_pd o0_onp o0_br o0_us o0_sp  = some res) : gMV E l yX4_copyFrom wsX4_copyFrom ({ frames := 1, cells := 0, slots := 0, locals := 18 } : Room) [.ref a0, .ref b0] (List.flatten [wSt E a0 a1 a2 a3 a4 a5 a6 a7 a8 a9 lk la ll lots pk pa pd onp br us sp, wSt E b0 b1 b2 b3 b4 b5 b6 b7 b8 b9 o0_lk o0_la o0_ll o0_lots o0_pk o0_pa o0_pd o0_onp o0_br o0_us o0_sp]) (fun res : (Nat → Int32) × (Nat → Int32) × (Nat → Int32) × Int32 × (Nat → Int32) × (Nat → Int32) × (Nat → Int32) × Int32 × (Nat → Int32) × (Nat → Int32) × (Nat → Int32) => (List.flatten [wSt E a0 a1 a2 a3 a4 a5 a6 a7 a8 a9 res.1 res.2.1 res.2.2.1 res.2.2.2.1 res.2.2.2.2.1 res.2.2.2.2.2.1 res.2.2.2.2.2.2.1 res.2.2.2.2.2.2.2.1 res.2.2.2.2.2.2.2.2.1 res.2.2.2.2.2.2.2.2.2.1 res.2.2.2.2.2.2.2.2.2.2, wSt E b0 b1 b2 b3 b4 b5 b6 b7 b8 b9 o0_lk o0_la o0_ll o0_lots o0_pk o0_pa o0_pd o0_onp o0_br o0_us o0_sp])) res := by
  refine g_entV (cc := cX4_copyFrom) (maxL := 2) (by decide) rfl (Nat.le_of_ble_eq_true rfl) ?_
  intro p e s m args below meth c A Q ls hx hb hml hown hts hK hP hD hS hA hG hret hl
  unfold fX4_copyFrom at h
  replace hl : lv_has ls 2 [(0, .ref a0), (1, .ref b0)] := hl
  have hiX4 : ∀ w ∈ wsX40, w ∈ wsX4_copyFrom := by decide +kernel
  have hw0 := hts (.fieldLink RX4 9 "GlacierHut$Stores" "lotKind" "[I") (by decide +kernel)
  have hw1 := hts (.methodLink RX4 37 arraycopyName) (by decide +kernel)
  have hw2 := hts (.native arraycopyName) (by decide +kernel)
  have hw3 := hts (.static arraycopyName) (by decide +kernel)
  have hw4 := hts (.initialized "java/lang/System") (by decide +kernel)
  have hw5 := hts (.fieldLink RX4 13 "GlacierHut$Stores" "lotAmount" "[I") (by decide +kernel)
  have hw6 := hts (.fieldLink RX4 16 "GlacierHut$Stores" "lotLast" "[I") (by decide +kernel)
  have hw7 := hts (.fieldLink RX4 19 "GlacierHut$Stores" "palletKind" "[I") (by decide +kernel)
  have hw8 := hts (.fieldLink RX4 22 "GlacierHut$Stores" "palletAmount" "[I") (by decide +kernel)
  have hw9 := hts (.fieldLink RX4 25 "GlacierHut$Stores" "palletDays" "[I") (by decide +kernel)
  have hw10 := hts (.fieldLink RX4 28 "GlacierHut$Stores" "brought" "[I") (by decide +kernel)
  have hw11 := hts (.fieldLink RX4 31 "GlacierHut$Stores" "used" "[I") (by decide +kernel)
  have hw12 := hts (.fieldLink RX4 34 "GlacierHut$Stores" "spoilt" "[I") (by decide +kernel)
  have hw13 := hts (.fieldLink RX4 43 "GlacierHut$Stores" "lots" "I") (by decide +kernel)
  have hw14 := hts (.fieldLink RX4 47 "GlacierHut$Stores" "onPallet" "I") (by decide +kernel)
  refine lv_aload_n hx hb dX4_copyFrom_0 rfl (lv_at hl 1 rfl) ?_
  refine va_get (D := E.1) (cl := vwCl) (ci := 4) (v := .ref b1) (C := RX4) (T := TX4) (N := 11) hx hb hts hiX4 hown hK hP 10 rfl rfl 0 (by decide) hw0 (fun _ h9 => h9) rfl dX4_copyFrom_1 ?_
  refine lv_iconst (v := (0 : Int32)) hx hb dX4_copyFrom_4 (by decide) ?_
  refine lv_aload_n hx hb dX4_copyFrom_5 rfl (lv_at hl 0 rfl) ?_
  refine va_get (D := E.1) (cl := vwCl) (ci := 4) (v := .ref a1) (C := RX4) (T := TX4) (N := 11) hx hb hts hiX4 hown hK hP 0 rfl rfl 0 (by decide) hw0 (fun _ h9 => h9) rfl dX4_copyFrom_6 ?_
  refine lv_iconst (v := (0 : Int32)) hx hb dX4_copyFrom_9 (by decide) ?_
  refine lv_bipush (v := (20 : Int32)) hx hb dX4_copyFrom_10 (by decide) ?_
  refine g_copyi (ty := .int) (N := 20) hx hb (hml.trans hl.1.symm) hown hw1 hw2 hw3 hw4 hK hP hD hS 11 1 0 rfl rfl rfl rfl (by decide) (by decide) (fun _ _ => rfl) (Nat.le_of_ble_eq_true rfl) (Nat.le_of_ble_eq_true rfl) dX4_copyFrom_12 (fun H locs hP hD hS => ?_)
  replace hP : va_P E.1 vwCl (List.flatten [wSt E a0 a1 a2 a3 a4 a5 a6 a7 a8 a9 o0_lk la ll lots pk pa pd onp br us sp, wSt E b0 b1 b2 b3 b4 b5 b6 b7 b8 b9 o0_lk o0_la o0_ll o0_lots o0_pk o0_pa o0_pd o0_onp o0_br o0_us o0_sp]) H := hP
  replace hD : va_D A (List.flatten [wSt E a0 a1 a2 a3 a4 a5 a6 a7 a8 a9 o0_lk la ll lots pk pa pd onp br us sp, wSt E b0 b1 b2 b3 b4 b5 b6 b7 b8 b9 o0_lk o0_la o0_ll o0_lots o0_pk o0_pa o0_pd o0_onp o0_br o0_us o0_sp]) := hD
  refine lv_aload_n hx hb dX4_copyFrom_15 rfl (lv_at hl 1 rfl) ?_
  refine va_get (D := E.1) (cl := vwCl) (ci := 4) (v := .ref b2) (C := RX4) (T := TX4) (N := 11) hx hb hts hiX4 hown hK hP 10 rfl rfl 1 (by decide) hw5 (fun _ h9 => h9) rfl dX4_copyFrom_16 ?_
  refine lv_iconst (v := (0 : Int32)) hx hb dX4_copyFrom_19 (by decide) ?_
  refine lv_aload_n hx hb dX4_copyFrom_20 rfl (lv_at hl 0 rfl) ?_
  refine va_get (D := E.1) (cl := vwCl) (ci := 4) (v := .ref a2) (C := RX4) (T := TX4) (N := 11) hx hb hts hiX4 hown hK hP 0 rfl rfl 1 (by decide) hw5 (fun _ h9 => h9) rfl dX4_copyFrom_21 ?_
  refine lv_iconst (v := (0 : Int32)) hx hb dX4_copyFrom_24 (by decide) ?_
  refine lv_bipush (v := (20 : Int32)) hx hb dX4_copyFrom_25 (by decide) ?_
  refine g_copyi (ty := .int) (N := 20) hx hb (hml.trans hl.1.symm) hown hw1 hw2 hw3 hw4 hK hP hD hS 12 2 0 rfl rfl rfl rfl (by decide) (by decide) (fun _ _ => rfl) (Nat.le_of_ble_eq_true rfl) (Nat.le_of_ble_eq_true rfl) dX4_copyFrom_27 (fun H locs hP hD hS => ?_)
  replace hP : va_P E.1 vwCl (List.flatten [wSt E a0 a1 a2 a3 a4 a5 a6 a7 a8 a9 o0_lk o0_la ll lots pk pa pd onp br us sp, wSt E b0 b1 b2 b3 b4 b5 b6 b7 b8 b9 o0_lk o0_la o0_ll o0_lots o0_pk o0_pa o0_pd o0_onp o0_br o0_us o0_sp]) H := hP
  replace hD : va_D A (List.flatten [wSt E a0 a1 a2 a3 a4 a5 a6 a7 a8 a9 o0_lk o0_la ll lots pk pa pd onp br us sp, wSt E b0 b1 b2 b3 b4 b5 b6 b7 b8 b9 o0_lk o0_la o0_ll o0_lots o0_pk o0_pa o0_pd o0_onp o0_br o0_us o0_sp]) := hD
  refine lv_aload_n hx hb dX4_copyFrom_30 rfl (lv_at hl 1 rfl) ?_
  refine va_get (D := E.1) (cl := vwCl) (ci := 4) (v := .ref b3) (C := RX4) (T := TX4) (N := 11) hx hb hts hiX4 hown hK hP 10 rfl rfl 2 (by decide) hw6 (fun _ h9 => h9) rfl dX4_copyFrom_31 ?_
  refine lv_iconst (v := (0 : Int32)) hx hb dX4_copyFrom_34 (by decide) ?_
  refine lv_aload_n hx hb dX4_copyFrom_35 rfl (lv_at hl 0 rfl) ?_
  refine va_get (D := E.1) (cl := vwCl) (ci := 4) (v := .ref a3) (C := RX4) (T := TX4) (N := 11) hx hb hts hiX4 hown hK hP 0 rfl rfl 2 (by decide) hw6 (fun _ h9 => h9) rfl dX4_copyFrom_36 ?_
  refine lv_iconst (v := (0 : Int32)) hx hb dX4_copyFrom_39 (by decide) ?_
  refine lv_bipush (v := (20 : Int32)) hx hb dX4_copyFrom_40 (by decide) ?_
  refine g_copyi (ty := .int) (N := 20) hx hb (hml.trans hl.1.symm) hown hw1 hw2 hw3 hw4 hK hP hD hS 13 3 0 rfl rfl rfl rfl (by decide) (by decide) (fun _ _ => rfl) (Nat.le_of_ble_eq_true rfl) (Nat.le_of_ble_eq_true rfl) dX4_copyFrom_42 (fun H locs hP hD hS => ?_)
  replace hP : va_P E.1 vwCl (List.flatten [wSt E a0 a1 a2 a3 a4 a5 a6 a7 a8 a9 o0_lk o0_la o0_ll lots pk pa pd onp br us sp, wSt E b0 b1 b2 b3 b4 b5 b6 b7 b8 b9 o0_lk o0_la o0_ll o0_lots o0_pk o0_pa o0_pd o0_onp o0_br o0_us o0_sp]) H := hP
  replace hD : va_D A (List.flatten [wSt E a0 a1 a2 a3 a4 a5 a6 a7 a8 a9 o0_lk o0_la o0_ll lots pk pa pd onp br us sp, wSt E b0 b1 b2 b3 b4 b5 b6 b7 b8 b9 o0_lk o0_la o0_ll o0_lots o0_pk o0_pa o0_pd o0_onp o0_br o0_us o0_sp]) := hD
  refine lv_aload_n hx hb dX4_copyFrom_45 rfl (lv_at hl 1 rfl) ?_
  refine va_get (D := E.1) (cl := vwCl) (ci := 4) (v := .ref b4) (C := RX4) (T := TX4) (N := 11) hx hb hts hiX4 hown hK hP 10 rfl rfl 4 (by decide) hw7 (fun _ h9 => h9) rfl dX4_copyFrom_46 ?_
  refine lv_iconst (v := (0 : Int32)) hx hb dX4_copyFrom_49 (by decide) ?_
  refine lv_aload_n hx hb dX4_copyFrom_50 rfl (lv_at hl 0 rfl) ?_
  refine va_get (D := E.1) (cl := vwCl) (ci := 4) (v := .ref a4) (C := RX4) (T := TX4) (N := 11) hx hb hts hiX4 hown hK hP 0 rfl rfl 4 (by decide) hw7 (fun _ h9 => h9) rfl dX4_copyFrom_51 ?_
  refine lv_iconst (v := (0 : Int32)) hx hb dX4_copyFrom_54 (by decide) ?_
  refine lv_bipush (v := (6 : Int32)) hx hb dX4_copyFrom_55 (by decide) ?_
  refine g_copyi (ty := .int) (N := 6) hx hb (hml.trans hl.1.symm) hown hw1 hw2 hw3 hw4 hK hP hD hS 14 4 0 rfl rfl rfl rfl (by decide) (by decide) (fun _ _ => rfl) (Nat.le_of_ble_eq_true rfl) (Nat.le_of_ble_eq_true rfl) dX4_copyFrom_57 (fun H locs hP hD hS => ?_)
  replace hP : va_P E.1 vwCl (List.flatten [wSt E a0 a1 a2 a3 a4 a5 a6 a7 a8 a9 o0_lk o0_la o0_ll lots o0_pk pa pd onp br us sp, wSt E b0 b1 b2 b3 b4 b5 b6 b7 b8 b9 o0_lk o0_la o0_ll o0_lots o0_pk o0_pa o0_pd o0_onp o0_br o0_us o0_sp]) H := hP
  replace hD : va_D A (List.flatten [wSt E a0 a1 a2 a3 a4 a5 a6 a7 a8 a9 o0_lk o0_la o0_ll lots o0_pk pa pd onp br us sp, wSt E b0 b1 b2 b3 b4 b5 b6 b7 b8 b9 o0_lk o0_la o0_ll o0_lots o0_pk o0_pa o0_pd o0_onp o0_br o0_us o0_sp]) := hD
  refine lv_aload_n hx hb dX4_copyFrom_60 rfl (lv_at hl 1 rfl) ?_
  refine va_get (D := E.1) (cl := vwCl) (ci := 4) (v := .ref b5) (C := RX4) (T := TX4) (N := 11) hx hb hts hiX4 hown hK hP 10 rfl rfl 5 (by decide) hw8 (fun _ h9 => h9) rfl dX4_copyFrom_61 ?_
  refine lv_iconst (v := (0 : Int32)) hx hb dX4_copyFrom_64 (by decide) ?_
  refine lv_aload_n hx hb dX4_copyFrom_65 rfl (lv_at hl 0 rfl) ?_
  refine va_get (D := E.1) (cl := vwCl) (ci := 4) (v := .ref a5) (C := RX4) (T := TX4) (N := 11) hx hb hts hiX4 hown hK hP 0 rfl rfl 5 (by decide) hw8 (fun _ h9 => h9) rfl dX4_copyFrom_66 ?_
  refine lv_iconst (v := (0 : Int32)) hx hb dX4_copyFrom_69 (by decide) ?_
  refine lv_bipush (v := (6 : Int32)) hx hb dX4_copyFrom_70 (by decide) ?_
  refine g_copyi (ty := .int) (N := 6) hx hb (hml.trans hl.1.symm) hown hw1 hw2 hw3 hw4 hK hP hD hS 15 5 0 rfl rfl rfl rfl (by decide) (by decide) (fun _ _ => rfl) (Nat.le_of_ble_eq_true rfl) (Nat.le_of_ble_eq_true rfl) dX4_copyFrom_72 (fun H locs hP hD hS => ?_)
  replace hP : va_P E.1 vwCl (List.flatten [wSt E a0 a1 a2 a3 a4 a5 a6 a7 a8 a9 o0_lk o0_la o0_ll lots o0_pk o0_pa pd onp br us sp, wSt E b0 b1 b2 b3 b4 b5 b6 b7 b8 b9 o0_lk o0_la o0_ll o0_lots o0_pk o0_pa o0_pd o0_onp o0_br o0_us o0_sp]) H := hP
  replace hD : va_D A (List.flatten [wSt E a0 a1 a2 a3 a4 a5 a6 a7 a8 a9 o0_lk o0_la o0_ll lots o0_pk o0_pa pd onp br us sp, wSt E b0 b1 b2 b3 b4 b5 b6 b7 b8 b9 o0_lk o0_la o0_ll o0_lots o0_pk o0_pa o0_pd o0_onp o0_br o0_us o0_sp]) := hD
  refine lv_aload_n hx hb dX4_copyFrom_75 rfl (lv_at hl 1 rfl) ?_
  refine va_get (D := E.1) (cl := vwCl) (ci := 4) (v := .ref b6) (C := RX4) (T := TX4) (N := 11) hx hb hts hiX4 hown hK hP 10 rfl rfl 6 (by decide) hw9 (fun _ h9 => h9) rfl dX4_copyFrom_76 ?_
  refine lv_iconst (v := (0 : Int32)) hx hb dX4_copyFrom_79 (by decide) ?_
  refine lv_aload_n hx hb dX4_copyFrom_80 rfl (lv_at hl 0 rfl) ?_
  refine va_get (D := E.1) (cl := vwCl) (ci := 4) (v := .ref a6) (C := RX4) (T := TX4) (N := 11) hx hb hts hiX4 hown hK hP 0 rfl rfl 6 (by decide) hw9 (fun _ h9 => h9) rfl dX4_copyFrom_81 ?_
  refine lv_iconst (v := (0 : Int32)) hx hb dX4_copyFrom_84 (by decide) ?_
  refine lv_bipush (v := (6 : Int32)) hx hb dX4_copyFrom_85 (by decide) ?_
  refine g_copyi (ty := .int) (N := 6) hx hb (hml.trans hl.1.symm) hown hw1 hw2 hw3 hw4 hK hP hD hS 16 6 0 rfl rfl rfl rfl (by decide) (by decide) (fun _ _ => rfl) (Nat.le_of_ble_eq_true rfl) (Nat.le_of_ble_eq_true rfl) dX4_copyFrom_87 (fun H locs hP hD hS => ?_)
  replace hP : va_P E.1 vwCl (List.flatten [wSt E a0 a1 a2 a3 a4 a5 a6 a7 a8 a9 o0_lk o0_la o0_ll lots o0_pk o0_pa o0_pd onp br us sp, wSt E b0 b1 b2 b3 b4 b5 b6 b7 b8 b9 o0_lk o0_la o0_ll o0_lots o0_pk o0_pa o0_pd o0_onp o0_br o0_us o0_sp]) H := hP
  replace hD : va_D A (List.flatten [wSt E a0 a1 a2 a3 a4 a5 a6 a7 a8 a9 o0_lk o0_la o0_ll lots o0_pk o0_pa o0_pd onp br us sp, wSt E b0 b1 b2 b3 b4 b5 b6 b7 b8 b9 o0_lk o0_la o0_ll o0_lots o0_pk o0_pa o0_pd o0_onp o0_br o0_us o0_sp]) := hD
  refine lv_aload_n hx hb dX4_copyFrom_90 rfl (lv_at hl 1 rfl) ?_
  refine va_get (D := E.1) (cl := vwCl) (ci := 4) (v := .ref b7) (C := RX4) (T := TX4) (N := 11) hx hb hts hiX4 hown hK hP 10 rfl rfl 8 (by decide) hw10 (fun _ h9 => h9) rfl dX4_copyFrom_91 ?_
  refine lv_iconst (v := (0 : Int32)) hx hb dX4_copyFrom_94 (by decide) ?_
  refine lv_aload_n hx hb dX4_copyFrom_95 rfl (lv_at hl 0 rfl) ?_
  refine va_get (D := E.1) (cl := vwCl) (ci := 4) (v := .ref a7) (C := RX4) (T := TX4) (N := 11) hx hb hts hiX4 hown hK hP 0 rfl rfl 8 (by decide) hw10 (fun _ h9 => h9) rfl dX4_copyFrom_96 ?_
  refine lv_iconst (v := (0 : Int32)) hx hb dX4_copyFrom_99 (by decide) ?_
  refine lv_iconst (v := (3 : Int32)) hx hb dX4_copyFrom_100 (by decide) ?_
  refine g_copyi (ty := .int) (N := 3) hx hb (hml.trans hl.1.symm) hown hw1 hw2 hw3 hw4 hK hP hD hS 17 7 0 rfl rfl rfl rfl (by decide) (by decide) (fun _ _ => rfl) (Nat.le_of_ble_eq_true rfl) (Nat.le_of_ble_eq_true rfl) dX4_copyFrom_101 (fun H locs hP hD hS => ?_)
  replace hP : va_P E.1 vwCl (List.flatten [wSt E a0 a1 a2 a3 a4 a5 a6 a7 a8 a9 o0_lk o0_la o0_ll lots o0_pk o0_pa o0_pd onp o0_br us sp, wSt E b0 b1 b2 b3 b4 b5 b6 b7 b8 b9 o0_lk o0_la o0_ll o0_lots o0_pk o0_pa o0_pd o0_onp o0_br o0_us o0_sp]) H := hP
  replace hD : va_D A (List.flatten [wSt E a0 a1 a2 a3 a4 a5 a6 a7 a8 a9 o0_lk o0_la o0_ll lots o0_pk o0_pa o0_pd onp o0_br us sp, wSt E b0 b1 b2 b3 b4 b5 b6 b7 b8 b9 o0_lk o0_la o0_ll o0_lots o0_pk o0_pa o0_pd o0_onp o0_br o0_us o0_sp]) := hD
  refine lv_aload_n hx hb dX4_copyFrom_104 rfl (lv_at hl 1 rfl) ?_
  refine va_get (D := E.1) (cl := vwCl) (ci := 4) (v := .ref b8) (C := RX4) (T := TX4) (N := 11) hx hb hts hiX4 hown hK hP 10 rfl rfl 9 (by decide) hw11 (fun _ h9 => h9) rfl dX4_copyFrom_105 ?_
  refine lv_iconst (v := (0 : Int32)) hx hb dX4_copyFrom_108 (by decide) ?_
  refine lv_aload_n hx hb dX4_copyFrom_109 rfl (lv_at hl 0 rfl) ?_
  refine va_get (D := E.1) (cl := vwCl) (ci := 4) (v := .ref a8) (C := RX4) (T := TX4) (N := 11) hx hb hts hiX4 hown hK hP 0 rfl rfl 9 (by decide) hw11 (fun _ h9 => h9) rfl dX4_copyFrom_110 ?_
  refine lv_iconst (v := (0 : Int32)) hx hb dX4_copyFrom_113 (by decide) ?_
  refine lv_iconst (v := (3 : Int32)) hx hb dX4_copyFrom_114 (by decide) ?_
  refine g_copyi (ty := .int) (N := 3) hx hb (hml.trans hl.1.symm) hown hw1 hw2 hw3 hw4 hK hP hD hS 18 8 0 rfl rfl rfl rfl (by decide) (by decide) (fun _ _ => rfl) (Nat.le_of_ble_eq_true rfl) (Nat.le_of_ble_eq_true rfl) dX4_copyFrom_115 (fun H locs hP hD hS => ?_)
  replace hP : va_P E.1 vwCl (List.flatten [wSt E a0 a1 a2 a3 a4 a5 a6 a7 a8 a9 o0_lk o0_la o0_ll lots o0_pk o0_pa o0_pd onp o0_br o0_us sp, wSt E b0 b1 b2 b3 b4 b5 b6 b7 b8 b9 o0_lk o0_la o0_ll o0_lots o0_pk o0_pa o0_pd o0_onp o0_br o0_us o0_sp]) H := hP
  replace hD : va_D A (List.flatten [wSt E a0 a1 a2 a3 a4 a5 a6 a7 a8 a9 o0_lk o0_la o0_ll lots o0_pk o0_pa o0_pd onp o0_br o0_us sp, wSt E b0 b1 b2 b3 b4 b5 b6 b7 b8 b9 o0_lk o0_la o0_ll o0_lots o0_pk o0_pa o0_pd o0_onp o0_br o0_us o0_sp]) := hD
  refine lv_aload_n hx hb dX4_copyFrom_118 rfl (lv_at hl 1 rfl) ?_
  refine va_get (D := E.1) (cl := vwCl) (ci := 4) (v := .ref b9) (C := RX4) (T := TX4) (N := 11) hx hb hts hiX4 hown hK hP 10 rfl rfl 10 (by decide) hw12 (fun _ h9 => h9) rfl dX4_copyFrom_119 ?_
  refine lv_iconst (v := (0 : Int32)) hx hb dX4_copyFrom_122 (by decide) ?_
  refine lv_aload_n hx hb dX4_copyFrom_123 rfl (lv_at hl 0 rfl) ?_
  refine va_get (D := E.1) (cl := vwCl) (ci := 4) (v := .ref a9) (C := RX4) (T := TX4) (N := 11) hx hb hts hiX4 hown hK hP 0 rfl rfl 10 (by decide) hw12 (fun _ h9 => h9) rfl dX4_copyFrom_124 ?_
  refine lv_iconst (v := (0 : Int32)) hx hb dX4_copyFrom_127 (by decide) ?_
  refine lv_iconst (v := (3 : Int32)) hx hb dX4_copyFrom_128 (by decide) ?_
  refine g_copyi (ty := .int) (N := 3) hx hb (hml.trans hl.1.symm) hown hw1 hw2 hw3 hw4 hK hP hD hS 19 9 0 rfl rfl rfl rfl (by decide) (by decide) (fun _ _ => rfl) (Nat.le_of_ble_eq_true rfl) (Nat.le_of_ble_eq_true rfl) dX4_copyFrom_129 (fun H locs hP hD hS => ?_)
  replace hP : va_P E.1 vwCl (List.flatten [wSt E a0 a1 a2 a3 a4 a5 a6 a7 a8 a9 o0_lk o0_la o0_ll lots o0_pk o0_pa o0_pd onp o0_br o0_us o0_sp, wSt E b0 b1 b2 b3 b4 b5 b6 b7 b8 b9 o0_lk o0_la o0_ll o0_lots o0_pk o0_pa o0_pd o0_onp o0_br o0_us o0_sp]) H := hP
  replace hD : va_D A (List.flatten [wSt E a0 a1 a2 a3 a4 a5 a6 a7 a8 a9 o0_lk o0_la o0_ll lots o0_pk o0_pa o0_pd onp o0_br o0_us o0_sp, wSt E b0 b1 b2 b3 b4 b5 b6 b7 b8 b9 o0_lk o0_la o0_ll o0_lots o0_pk o0_pa o0_pd o0_onp o0_br o0_us o0_sp]) := hD
  refine lv_aload_n hx hb dX4_copyFrom_132 rfl (lv_at hl 0 rfl) ?_
  refine lv_aload_n hx hb dX4_copyFrom_133 rfl (lv_at hl 1 rfl) ?_
  refine va_get (D := E.1) (cl := vwCl) (ci := 4) (v := .int o0_lots) (C := RX4) (T := TX4) (N := 11) hx hb hts hiX4 hown hK hP 10 rfl rfl 3 (by decide) hw13 (fun _ h9 => h9) rfl dX4_copyFrom_134 ?_
  refine va_put (D := E.1) (cl := vwCl) (ci := 4) (v := .int o0_lots) (ty := .int) (C := RX4) (T := TX4) (N := 11) hx hb hts hiX4 tyX4 tyX4_ok nmX4 hown hK hP hD hS 0 rfl rfl 3 (by decide) hw13 (fun _ h9 => h9) rfl (by decide +kernel) rfl rfl (Nat.le_of_ble_eq_true rfl) dX4_copyFrom_137 (fun H locs hP hD hS => ?_)
  replace hP : va_P E.1 vwCl (List.flatten [wSt E a0 a1 a2 a3 a4 a5 a6 a7 a8 a9 o0_lk o0_la o0_ll o0_lots o0_pk o0_pa o0_pd onp o0_br o0_us o0_sp, wSt E b0 b1 b2 b3 b4 b5 b6 b7 b8 b9 o0_lk o0_la o0_ll o0_lots o0_pk o0_pa o0_pd o0_onp o0_br o0_us o0_sp]) H := hP
  replace hD : va_D A (List.flatten [wSt E a0 a1 a2 a3 a4 a5 a6 a7 a8 a9 o0_lk o0_la o0_ll o0_lots o0_pk o0_pa o0_pd onp o0_br o0_us o0_sp, wSt E b0 b1 b2 b3 b4 b5 b6 b7 b8 b9 o0_lk o0_la o0_ll o0_lots o0_pk o0_pa o0_pd o0_onp o0_br o0_us o0_sp]) := hD
  refine lv_aload_n hx hb dX4_copyFrom_140 rfl (lv_at hl 0 rfl) ?_
  refine lv_aload_n hx hb dX4_copyFrom_141 rfl (lv_at hl 1 rfl) ?_
  refine va_get (D := E.1) (cl := vwCl) (ci := 4) (v := .int o0_onp) (C := RX4) (T := TX4) (N := 11) hx hb hts hiX4 hown hK hP 10 rfl rfl 7 (by decide) hw14 (fun _ h9 => h9) rfl dX4_copyFrom_142 ?_
  refine va_put (D := E.1) (cl := vwCl) (ci := 4) (v := .int o0_onp) (ty := .int) (C := RX4) (T := TX4) (N := 11) hx hb hts hiX4 tyX4 tyX4_ok nmX4 hown hK hP hD hS 0 rfl rfl 7 (by decide) hw14 (fun _ h9 => h9) rfl (by decide +kernel) rfl rfl (Nat.le_of_ble_eq_true rfl) dX4_copyFrom_145 (fun H locs hP hD hS => ?_)
  replace hP : va_P E.1 vwCl (List.flatten [wSt E a0 a1 a2 a3 a4 a5 a6 a7 a8 a9 o0_lk o0_la o0_ll o0_lots o0_pk o0_pa o0_pd o0_onp o0_br o0_us o0_sp, wSt E b0 b1 b2 b3 b4 b5 b6 b7 b8 b9 o0_lk o0_la o0_ll o0_lots o0_pk o0_pa o0_pd o0_onp o0_br o0_us o0_sp]) H := hP
  replace hD : va_D A (List.flatten [wSt E a0 a1 a2 a3 a4 a5 a6 a7 a8 a9 o0_lk o0_la o0_ll o0_lots o0_pk o0_pa o0_pd o0_onp o0_br o0_us o0_sp, wSt E b0 b1 b2 b3 b4 b5 b6 b7 b8 b9 o0_lk o0_la o0_ll o0_lots o0_pk o0_pa o0_pd o0_onp o0_br o0_us o0_sp]) := hD
  exact hret (o0_lk, o0_la, o0_ll, o0_lots, o0_pk, o0_pa, o0_pd, o0_onp, o0_br, o0_us, o0_sp) _ _ _ _ (Option.some.inj h) hP hS dX4_copyFrom_148
set_option maxHeartbeats 4000000 in
set_option maxRecDepth 100000 in
theorem kX4_dropEmptyLots (E : gE) (l : Launch) (a0 a1 a2 a3 a4 a5 a6 a7 a8 a9 : Nat) (lk : Nat → Int32) (la : Nat → Int32) (ll : Nat → Int32) (lots : Int32) (pk : Nat → Int32) (pa : Nat → Int32) (pd : Nat → Int32) (onp : Int32) (br : Nat → Int32) (us : Nat → Int32) (sp : Nat → Int32)  (res : (Nat → Int32) × (Nat → Int32) × (Nat → Int32) × Int32) (h : fX4_dropEmptyLots lk la ll lots  = some res) : gMV E l yX4_dropEmptyLots wsX4_dropEmptyLots ({ frames := 0, cells := 0, slots := 0, locals := 0 } : Room) [.ref a0] (wSt E a0 a1 a2 a3 a4 a5 a6 a7 a8 a9 lk la ll lots pk pa pd onp br us sp) (fun res : (Nat → Int32) × (Nat → Int32) × (Nat → Int32) × Int32 => (wSt E a0 a1 a2 a3 a4 a5 a6 a7 a8 a9 res.1 res.2.1 res.2.2.1 res.2.2.2 pk pa pd onp br us sp)) res := by
  refine g_entV (cc := cX4_dropEmptyLots) (maxL := 3) (by decide) rfl (Nat.le_of_ble_eq_true rfl) ?_
  intro p e s m args below meth c A Q ls hx hb hml hown hts hK hP hD hS hA hG hret hl
  unfold fX4_dropEmptyLots at h
  replace hl : lv_has ls 3 [(0, .ref a0)] := hl
  have hiX4 : ∀ w ∈ wsX40, w ∈ wsX4_dropEmptyLots := by decide +kernel
  have hw0 := hts (.fieldLink RX4 43 "GlacierHut$Stores" "lots" "I") (by decide +kernel)
  have hw1 := hts (.fieldLink RX4 13 "GlacierHut$Stores" "lotAmount" "[I") (by decide +kernel)
  have hw2 := hts (.fieldLink RX4 9 "GlacierHut$Stores" "lotKind" "[I") (by decide +kernel)
  have hw3 := hts (.fieldLink RX4 16 "GlacierHut$Stores" "lotLast" "[I") (by decide +kernel)
  refine lv_iconst (v := (0 : Int32)) hx hb dX4_dropEmptyLots_0 (by decide) ?_
  refine lv_istore_n (lv' := [(1, .int (0 : Int32)), (0, .ref a0)]) hx hb dX4_dropEmptyLots_1 rfl hl (by decide) rfl (fun ls hl => ?_)
  refine lv_iconst (v := (0 : Int32)) hx hb dX4_dropEmptyLots_2 (by decide) ?_
  refine lv_istore_n (lv' := [(2, .int (0 : Int32)), (1, .int (0 : Int32)), (0, .ref a0)]) hx hb dX4_dropEmptyLots_3 rfl hl (by decide) rfl (fun ls hl => ?_)
  refine gl5_e h (fun S_rec1 hS_rec1 h => ?_)
  have hL_rec1 : ∀ (nF : Nat) (v2 : Int32) (v3 : Int32) (lk4 : Nat → Int32) (la5 : Nat → Int32) (ll6 : Nat → Int32) (H : Heap) (locs : List Loc) (ls : Array Slot), va_P E.1 vwCl (wSt E a0 a1 a2 a3 a4 a5 a6 a7 a8 a9 lk4 la5 ll6 lots pk pa pd onp br us sp) H → va_S A s.heap H locs → lv_has ls 3 [(2, .int v2), (1, .int v3), (0, .ref a0)] → gl5 S_rec1 nF v2 v3 lk4 la5 ll6 = some res → W p l e ({ frames := 0, cells := 0, slots := 0, locals := 0 } : Room) s m args below meth c H locs 0 0 Q (F0 m 4 ls []) := by
    intro nF
    induction nF with
    | zero => intro v2 v3 lk4 la5 ll6 H locs ls hP hS hl h; exact gl5_z h
    | succ nF ih_rec1 =>
      intro v2 v3 lk4 la5 ll6 H locs ls hP hS hl h
      replace hD : va_D A (wSt E a0 a1 a2 a3 a4 a5 a6 a7 a8 a9 lk4 la5 ll6 lots pk pa pd onp br us sp) := gD_same hD rfl
      replace h : S_rec1 (gl5 S_rec1 nF) v2 v3 lk4 la5 ll6 = some res := h
      generalize gl5 S_rec1 nF = rec1 at h ih_rec1
      subst hS_rec1
      unfold sX4_dropEmptyLots_rec1 at h
      refine lv_iload_n hx hb dX4_dropEmptyLots_4 rfl (lv_at hl 0 rfl) ?_
      refine lv_aload_n hx hb dX4_dropEmptyLots_5 rfl (lv_at hl 2 rfl) ?_
      refine va_get (D := E.1) (cl := vwCl) (ci := 4) (v := .int lots) (C := RX4) (T := TX4) (N := 11) hx hb hts hiX4 hown hK hP 0 rfl rfl 3 (by decide) hw0 (fun _ h9 => h9) rfl dX4_dropEmptyLots_6 ?_
      refine lv_icmp_ge (tgt := 66) hx hb dX4_dropEmptyLots_9 (by decide) (fun hc7 => ?_) (fun hc7 => ?_)
      · replace h := g_it hc7 h
        refine lv_aload_n hx hb dX4_dropEmptyLots_66 rfl (lv_at hl 2 rfl) ?_
        refine lv_iload_n hx hb dX4_dropEmptyLots_67 rfl (lv_at hl 1 rfl) ?_
        refine va_put (D := E.1) (cl := vwCl) (ci := 4) (v := .int v3) (ty := .int) (C := RX4) (T := TX4) (N := 11) hx hb hts hiX4 tyX4 tyX4_ok nmX4 hown hK hP hD hS 0 rfl rfl 3 (by decide) hw0 (fun _ h9 => h9) rfl (by decide +kernel) rfl rfl (Nat.le_of_ble_eq_true rfl) dX4_dropEmptyLots_68 (fun H locs hP hD hS => ?_)
        replace hP : va_P E.1 vwCl (wSt E a0 a1 a2 a3 a4 a5 a6 a7 a8 a9 lk4 la5 ll6 v3 pk pa pd onp br us sp) H := hP
        replace hD : va_D A (wSt E a0 a1 a2 a3 a4 a5 a6 a7 a8 a9 lk4 la5 ll6 v3 pk pa pd onp br us sp) := hD
        exact hret (lk4, la5, ll6, v3) _ _ _ _ (Option.some.inj h) hP hS dX4_dropEmptyLots_71
      · replace h := g_if hc7 h
        refine lv_aload_n hx hb dX4_dropEmptyLots_12 rfl (lv_at hl 2 rfl) ?_
        refine va_get (D := E.1) (cl := vwCl) (ci := 4) (v := .ref a2) (C := RX4) (T := TX4) (N := 11) hx hb hts hiX4 hown hK hP 0 rfl rfl 1 (by decide) hw1 (fun _ h9 => h9) rfl dX4_dropEmptyLots_13 ?_
        refine lv_iload_n hx hb dX4_dropEmptyLots_16 rfl (lv_at hl 0 rfl) ?_
        obtain ⟨hg8, h⟩ := gd_s h
        refine va_iald (D := E.1) (cl := vwCl) (tys := gT E) hx hb hK hP 2 0 rfl rfl (inB_in hg8) dX4_dropEmptyLots_17 ?_
        refine lv_if_le (tgt := 60) hx hb dX4_dropEmptyLots_18 (by decide) (fun hc9 => ?_) (fun hc9 => ?_)
        · replace h := g_it hc9 h
          obtain ⟨v10, e_v10⟩ : ∃ y : Int32, y = (v2 + (1 : Int32)) := ⟨_, rfl⟩
          replace h := jl_s e_v10 h
          refine lv_iinc (v := v10) (lv' := [(2, .int v10), (1, .int v3), (0, .ref a0)]) hx hb dX4_dropEmptyLots_60 hl (k := 0) rfl (by rw [e_v10]; rfl) (by decide) rfl (fun ls hl => ?_)
          refine lv_goto (tgt := 4) hx hb dX4_dropEmptyLots_63 (by decide) ?_
          exact ih_rec1 v10 v3 lk4 la5 ll6 _ _ _ hP hS (lv_sub hl [0, 1, 2] rfl) h
        · replace h := g_if hc9 h
          refine lv_aload_n hx hb dX4_dropEmptyLots_21 rfl (lv_at hl 2 rfl) ?_
          refine va_get (D := E.1) (cl := vwCl) (ci := 4) (v := .ref a1) (C := RX4) (T := TX4) (N := 11) hx hb hts hiX4 hown hK hP 0 rfl rfl 0 (by decide) hw2 (fun _ h9 => h9) rfl dX4_dropEmptyLots_22 ?_
          refine lv_iload_n hx hb dX4_dropEmptyLots_25 rfl (lv_at hl 1 rfl) ?_
          refine lv_aload_n hx hb dX4_dropEmptyLots_26 rfl (lv_at hl 2 rfl) ?_
          refine va_get (D := E.1) (cl := vwCl) (ci := 4) (v := .ref a1) (C := RX4) (T := TX4) (N := 11) hx hb hts hiX4 hown hK hP 0 rfl rfl 0 (by decide) hw2 (fun _ h9 => h9) rfl dX4_dropEmptyLots_27 ?_
          refine lv_iload_n hx hb dX4_dropEmptyLots_30 rfl (lv_at hl 0 rfl) ?_
          refine va_iald (D := E.1) (cl := vwCl) (tys := gT E) hx hb hK hP 1 0 rfl rfl (inB_in hg8) dX4_dropEmptyLots_31 ?_
          obtain ⟨hg11, h⟩ := gd_s h
          refine va_iast (D := E.1) (cl := vwCl) (tys := gT E) hx hb hK hP hD hS 1 0 rfl rfl (inB_in hg11) dX4_dropEmptyLots_32 (fun H locs hP hD hS => ?_)
          obtain ⟨lk12, e_lk12⟩ : ∃ y : Nat → Int32, y = (upd lk4 (v3).toNatClampNeg (lk4 (v2).toNatClampNeg)) := ⟨_, rfl⟩
          replace h := jl_s e_lk12 h
          replace hP : va_P E.1 vwCl (wSt E a0 a1 a2 a3 a4 a5 a6 a7 a8 a9 lk12 la5 ll6 lots pk pa pd onp br us sp) H := (by rw [e_lk12]; exact hP)
          replace hD : va_D A (wSt E a0 a1 a2 a3 a4 a5 a6 a7 a8 a9 lk12 la5 ll6 lots pk pa pd onp br us sp) := gD_same hD rfl
          refine lv_aload_n hx hb dX4_dropEmptyLots_33 rfl (lv_at hl 2 rfl) ?_
          refine va_get (D := E.1) (cl := vwCl) (ci := 4) (v := .ref a2) (C := RX4) (T := TX4) (N := 11) hx hb hts hiX4 hown hK hP 0 rfl rfl 1 (by decide) hw1 (fun _ h9 => h9) rfl dX4_dropEmptyLots_34 ?_
          refine lv_iload_n hx hb dX4_dropEmptyLots_37 rfl (lv_at hl 1 rfl) ?_
          refine lv_aload_n hx hb dX4_dropEmptyLots_38 rfl (lv_at hl 2 rfl) ?_
          refine va_get (D := E.1) (cl := vwCl) (ci := 4) (v := .ref a2) (C := RX4) (T := TX4) (N := 11) hx hb hts hiX4 hown hK hP 0 rfl rfl 1 (by decide) hw1 (fun _ h9 => h9) rfl dX4_dropEmptyLots_39 ?_
          refine lv_iload_n hx hb dX4_dropEmptyLots_42 rfl (lv_at hl 0 rfl) ?_
          refine va_iald (D := E.1) (cl := vwCl) (tys := gT E) hx hb hK hP 2 0 rfl rfl (inB_in hg8) dX4_dropEmptyLots_43 ?_
          refine va_iast (D := E.1) (cl := vwCl) (tys := gT E) hx hb hK hP hD hS 2 0 rfl rfl (inB_in hg11) dX4_dropEmptyLots_44 (fun H locs hP hD hS => ?_)
          obtain ⟨la13, e_la13⟩ : ∃ y : Nat → Int32, y = (upd la5 (v3).toNatClampNeg (la5 (v2).toNatClampNeg)) := ⟨_, rfl⟩
          replace h := jl_s e_la13 h
          replace hP : va_P E.1 vwCl (wSt E a0 a1 a2 a3 a4 a5 a6 a7 a8 a9 lk12 la13 ll6 lots pk pa pd onp br us sp) H := (by rw [e_la13]; exact hP)
          replace hD : va_D A (wSt E a0 a1 a2 a3 a4 a5 a6 a7 a8 a9 lk12 la13 ll6 lots pk pa pd onp br us sp) := gD_same hD rfl
          refine lv_aload_n hx hb dX4_dropEmptyLots_45 rfl (lv_at hl 2 rfl) ?_
          refine va_get (D := E.1) (cl := vwCl) (ci := 4) (v := .ref a3) (C := RX4) (T := TX4) (N := 11) hx hb hts hiX4 hown hK hP 0 rfl rfl 2 (by decide) hw3 (fun _ h9 => h9) rfl dX4_dropEmptyLots_46 ?_
          refine lv_iload_n hx hb dX4_dropEmptyLots_49 rfl (lv_at hl 1 rfl) ?_
          refine lv_aload_n hx hb dX4_dropEmptyLots_50 rfl (lv_at hl 2 rfl) ?_
          refine va_get (D := E.1) (cl := vwCl) (ci := 4) (v := .ref a3) (C := RX4) (T := TX4) (N := 11) hx hb hts hiX4 hown hK hP 0 rfl rfl 2 (by decide) hw3 (fun _ h9 => h9) rfl dX4_dropEmptyLots_51 ?_
          refine lv_iload_n hx hb dX4_dropEmptyLots_54 rfl (lv_at hl 0 rfl) ?_
          refine va_iald (D := E.1) (cl := vwCl) (tys := gT E) hx hb hK hP 3 0 rfl rfl (inB_in hg8) dX4_dropEmptyLots_55 ?_
          refine va_iast (D := E.1) (cl := vwCl) (tys := gT E) hx hb hK hP hD hS 3 0 rfl rfl (inB_in hg11) dX4_dropEmptyLots_56 (fun H locs hP hD hS => ?_)
          obtain ⟨ll14, e_ll14⟩ : ∃ y : Nat → Int32, y = (upd ll6 (v3).toNatClampNeg (ll6 (v2).toNatClampNeg)) := ⟨_, rfl⟩
          replace h := jl_s e_ll14 h
          replace hP : va_P E.1 vwCl (wSt E a0 a1 a2 a3 a4 a5 a6 a7 a8 a9 lk12 la13 ll14 lots pk pa pd onp br us sp) H := (by rw [e_ll14]; exact hP)
          replace hD : va_D A (wSt E a0 a1 a2 a3 a4 a5 a6 a7 a8 a9 lk12 la13 ll14 lots pk pa pd onp br us sp) := gD_same hD rfl
          obtain ⟨v15, e_v15⟩ : ∃ y : Int32, y = (v3 + (1 : Int32)) := ⟨_, rfl⟩
          replace h := jl_s e_v15 h
          refine lv_iinc (v := v15) (lv' := [(1, .int v15), (2, .int v2), (0, .ref a0)]) hx hb dX4_dropEmptyLots_57 hl (k := 1) rfl (by rw [e_v15]; rfl) (by decide) rfl (fun ls hl => ?_)
          obtain ⟨v16, e_v16⟩ : ∃ y : Int32, y = (v2 + (1 : Int32)) := ⟨_, rfl⟩
          replace h := jl_s e_v16 h
          refine lv_iinc (v := v16) (lv' := [(2, .int v16), (1, .int v15), (0, .ref a0)]) hx hb dX4_dropEmptyLots_60 hl (k := 1) rfl (by rw [e_v16]; rfl) (by decide) rfl (fun ls hl => ?_)
          refine lv_goto (tgt := 4) hx hb dX4_dropEmptyLots_63 (by decide) ?_
          exact ih_rec1 v16 v15 lk12 la13 ll14 _ _ _ hP hS (lv_sub hl [0, 1, 2] rfl) h
  exact hL_rec1 gFU (0 : Int32) (0 : Int32) lk la ll _ _ _ hP hS (lv_sub hl [0, 1, 2] rfl) h
set_option maxHeartbeats 4000000 in
set_option maxRecDepth 100000 in
theorem kX4_find (E : gE) (l : Launch) (a0 a1 a2 a3 a4 a5 a6 a7 a8 a9 : Nat) (lk : Nat → Int32) (la : Nat → Int32) (ll : Nat → Int32) (lots : Int32) (pk : Nat → Int32) (pa : Nat → Int32) (pd : Nat → Int32) (onp : Int32) (br : Nat → Int32) (us : Nat → Int32) (sp : Nat → Int32) (p1 : Int32) (p2 : Int32) (res : Int32) (h : fX4_find lk lots p1 p2 = some res) : gMI E l yX4_find wsX4_find ({ frames := 0, cells := 0, slots := 0, locals := 0 } : Room) [.ref a0, .int p1, .int p2] (wSt E a0 a1 a2 a3 a4 a5 a6 a7 a8 a9 lk la ll lots pk pa pd onp br us sp) (fun res : Int32 => (wSt E a0 a1 a2 a3 a4 a5 a6 a7 a8 a9 lk la ll lots pk pa pd onp br us sp)) (fun res => res) res := by
  refine g_entI (cc := cX4_find) (maxL := 5) (by decide) rfl (Nat.le_of_ble_eq_true rfl) ?_
  intro p e s m args below meth c A Q ls hx hb hml hown hts hK hP hD hS hA hG hret hl
  unfold fX4_find at h
  replace hl : lv_has ls 5 [(0, .ref a0), (1, .int p1), (2, .int p2)] := hl
  have hiX4 : ∀ w ∈ wsX40, w ∈ wsX4_find := by decide +kernel
  have hw0 := hts (.fieldLink RX4 43 "GlacierHut$Stores" "lots" "I") (by decide +kernel)
  have hw1 := hts (.fieldLink RX4 9 "GlacierHut$Stores" "lotKind" "[I") (by decide +kernel)
  refine lv_iconst (v := (0 : Int32)) hx hb dX4_find_0 (by decide) ?_
  refine lv_istore_n (lv' := [(3, .int (0 : Int32)), (0, .ref a0), (1, .int p1), (2, .int p2)]) hx hb dX4_find_1 rfl hl (by decide) rfl (fun ls hl => ?_)
  refine lv_iconst (v := (0 : Int32)) hx hb dX4_find_2 (by decide) ?_
  refine lv_istore (lv' := [(4, .int (0 : Int32)), (3, .int (0 : Int32)), (0, .ref a0), (1, .int p1), (2, .int p2)]) hx hb dX4_find_3 hl (by decide) rfl (fun ls hl => ?_)
  refine gl2_e h (fun S_rec1 hS_rec1 h => ?_)
  have hL_rec1 : ∀ (nF : Nat) (v2 : Int32) (v3 : Int32) (H : Heap) (locs : List Loc) (ls : Array Slot), va_P E.1 vwCl (wSt E a0 a1 a2 a3 a4 a5 a6 a7 a8 a9 lk la ll lots pk pa pd onp br us sp) H → va_S A s.heap H locs → lv_has ls 5 [(4, .int v2), (3, .int v3), (0, .ref a0), (1, .int p1), (2, .int p2)] → gl2 S_rec1 nF v2 v3 = some res → W p l e ({ frames := 0, cells := 0, slots := 0, locals := 0 } : Room) s m args below meth c H locs 0 0 Q (F0 m 5 ls []) := by
    intro nF
    induction nF with
    | zero => intro v2 v3 H locs ls hP hS hl h; exact gl2_z h
    | succ nF ih_rec1 =>
      intro v2 v3 H locs ls hP hS hl h
      replace hD : va_D A (wSt E a0 a1 a2 a3 a4 a5 a6 a7 a8 a9 lk la ll lots pk pa pd onp br us sp) := gD_same hD rfl
      replace h : S_rec1 (gl2 S_rec1 nF) v2 v3 = some res := h
      generalize gl2 S_rec1 nF = rec1 at h ih_rec1
      subst hS_rec1
      unfold sX4_find_rec1 at h
      refine lv_iload hx hb dX4_find_5 (lv_at hl 0 rfl) ?_
      refine lv_aload_n hx hb dX4_find_7 rfl (lv_at hl 2 rfl) ?_
      refine va_get (D := E.1) (cl := vwCl) (ci := 4) (v := .int lots) (C := RX4) (T := TX4) (N := 11) hx hb hts hiX4 hown hK hP 0 rfl rfl 3 (by decide) hw0 (fun _ h9 => h9) rfl dX4_find_8 ?_
      refine lv_icmp_ge (tgt := 42) hx hb dX4_find_11 (by decide) (fun hc4 => ?_) (fun hc4 => ?_)
      · replace h := g_it hc4 h
        refine lv_iconst (v := (-1 : Int32)) hx hb dX4_find_42 (by decide) ?_
        exact hret (-1 : Int32) _ _ _ _ _ (Option.some.inj h) hP hS rfl dX4_find_43
      · replace h := g_if hc4 h
        refine lv_aload_n hx hb dX4_find_14 rfl (lv_at hl 2 rfl) ?_
        refine va_get (D := E.1) (cl := vwCl) (ci := 4) (v := .ref a1) (C := RX4) (T := TX4) (N := 11) hx hb hts hiX4 hown hK hP 0 rfl rfl 0 (by decide) hw1 (fun _ h9 => h9) rfl dX4_find_15 ?_
        refine lv_iload hx hb dX4_find_18 (lv_at hl 0 rfl) ?_
        obtain ⟨hg5, h⟩ := gd_s h
        refine va_iald (D := E.1) (cl := vwCl) (tys := gT E) hx hb hK hP 1 0 rfl rfl (inB_in hg5) dX4_find_20 ?_
        refine lv_iload_n hx hb dX4_find_21 rfl (lv_at hl 3 rfl) ?_
        refine lv_icmp_ne (tgt := 36) hx hb dX4_find_22 (by decide) (fun hc6 => ?_) (fun hc6 => ?_)
        · replace h := g_if hc6 h
          obtain ⟨v7, e_v7⟩ : ∃ y : Int32, y = (v2 + (1 : Int32)) := ⟨_, rfl⟩
          replace h := jl_s e_v7 h
          refine lv_iinc (v := v7) (lv' := [(4, .int v7), (3, .int v3), (0, .ref a0), (1, .int p1), (2, .int p2)]) hx hb dX4_find_36 hl (k := 0) rfl (by rw [e_v7]; rfl) (by decide) rfl (fun ls hl => ?_)
          refine lv_goto (tgt := 5) hx hb dX4_find_39 (by decide) ?_
          exact ih_rec1 v7 v3 _ _ _ hP hS (lv_sub hl [0, 1, 2, 3, 4] rfl) h
        · replace h := g_it hc6 h
          refine lv_iload_n hx hb dX4_find_25 rfl (lv_at hl 1 rfl) ?_
          refine lv_iload_n hx hb dX4_find_26 rfl (lv_at hl 4 rfl) ?_
          refine lv_icmp_ne (tgt := 33) hx hb dX4_find_27 (by decide) (fun hc8 => ?_) (fun hc8 => ?_)
          · replace h := g_if hc8 h
            obtain ⟨v9, e_v9⟩ : ∃ y : Int32, y = (v3 + (1 : Int32)) := ⟨_, rfl⟩
            replace h := jl_s e_v9 h
            refine lv_iinc (v := v9) (lv' := [(3, .int v9), (4, .int v2), (0, .ref a0), (1, .int p1), (2, .int p2)]) hx hb dX4_find_33 hl (k := 1) rfl (by rw [e_v9]; rfl) (by decide) rfl (fun ls hl => ?_)
            obtain ⟨v10, e_v10⟩ : ∃ y : Int32, y = (v2 + (1 : Int32)) := ⟨_, rfl⟩
            replace h := jl_s e_v10 h
            refine lv_iinc (v := v10) (lv' := [(4, .int v10), (3, .int v9), (0, .ref a0), (1, .int p1), (2, .int p2)]) hx hb dX4_find_36 hl (k := 1) rfl (by rw [e_v10]; rfl) (by decide) rfl (fun ls hl => ?_)
            refine lv_goto (tgt := 5) hx hb dX4_find_39 (by decide) ?_
            exact ih_rec1 v10 v9 _ _ _ hP hS (lv_sub hl [0, 1, 2, 3, 4] rfl) h
          · replace h := g_it hc8 h
            refine lv_iload hx hb dX4_find_30 (lv_at hl 0 rfl) ?_
            exact hret v2 _ _ _ _ _ (Option.some.inj h) hP hS rfl dX4_find_32
  exact hL_rec1 gFU (0 : Int32) (0 : Int32) _ _ _ hP hS (lv_sub hl [0, 1, 2, 3, 4] rfl) h
set_option maxHeartbeats 4000000 in
set_option maxRecDepth 100000 in
theorem kX4_lotsOfKind (E : gE) (l : Launch) (a0 a1 a2 a3 a4 a5 a6 a7 a8 a9 : Nat) (lk : Nat → Int32) (la : Nat → Int32) (ll : Nat → Int32) (lots : Int32) (pk : Nat → Int32) (pa : Nat → Int32) (pd : Nat → Int32) (onp : Int32) (br : Nat → Int32) (us : Nat → Int32) (sp : Nat → Int32) (p1 : Int32) (res : Int32) (h : fX4_lotsOfKind lk lots p1 = some res) : gMI E l yX4_lotsOfKind wsX4_lotsOfKind ({ frames := 0, cells := 0, slots := 0, locals := 0 } : Room) [.ref a0, .int p1] (wSt E a0 a1 a2 a3 a4 a5 a6 a7 a8 a9 lk la ll lots pk pa pd onp br us sp) (fun res : Int32 => (wSt E a0 a1 a2 a3 a4 a5 a6 a7 a8 a9 lk la ll lots pk pa pd onp br us sp)) (fun res => res) res := by
  refine g_entI (cc := cX4_lotsOfKind) (maxL := 4) (by decide) rfl (Nat.le_of_ble_eq_true rfl) ?_
  intro p e s m args below meth c A Q ls hx hb hml hown hts hK hP hD hS hA hG hret hl
  unfold fX4_lotsOfKind at h
  replace hl : lv_has ls 4 [(0, .ref a0), (1, .int p1)] := hl
  have hiX4 : ∀ w ∈ wsX40, w ∈ wsX4_lotsOfKind := by decide +kernel
  have hw0 := hts (.fieldLink RX4 43 "GlacierHut$Stores" "lots" "I") (by decide +kernel)
  have hw1 := hts (.fieldLink RX4 9 "GlacierHut$Stores" "lotKind" "[I") (by decide +kernel)
  refine lv_iconst (v := (0 : Int32)) hx hb dX4_lotsOfKind_0 (by decide) ?_
  refine lv_istore_n (lv' := [(2, .int (0 : Int32)), (0, .ref a0), (1, .int p1)]) hx hb dX4_lotsOfKind_1 rfl hl (by decide) rfl (fun ls hl => ?_)
  refine lv_iconst (v := (0 : Int32)) hx hb dX4_lotsOfKind_2 (by decide) ?_
  refine lv_istore_n (lv' := [(3, .int (0 : Int32)), (2, .int (0 : Int32)), (0, .ref a0), (1, .int p1)]) hx hb dX4_lotsOfKind_3 rfl hl (by decide) rfl (fun ls hl => ?_)
  refine gl2_e h (fun S_rec1 hS_rec1 h => ?_)
  have hL_rec1 : ∀ (nF : Nat) (v2 : Int32) (v3 : Int32) (H : Heap) (locs : List Loc) (ls : Array Slot), va_P E.1 vwCl (wSt E a0 a1 a2 a3 a4 a5 a6 a7 a8 a9 lk la ll lots pk pa pd onp br us sp) H → va_S A s.heap H locs → lv_has ls 4 [(3, .int v2), (2, .int v3), (0, .ref a0), (1, .int p1)] → gl2 S_rec1 nF v2 v3 = some res → W p l e ({ frames := 0, cells := 0, slots := 0, locals := 0 } : Room) s m args below meth c H locs 0 0 Q (F0 m 4 ls []) := by
    intro nF
    induction nF with
    | zero => intro v2 v3 H locs ls hP hS hl h; exact gl2_z h
    | succ nF ih_rec1 =>
      intro v2 v3 H locs ls hP hS hl h
      replace hD : va_D A (wSt E a0 a1 a2 a3 a4 a5 a6 a7 a8 a9 lk la ll lots pk pa pd onp br us sp) := gD_same hD rfl
      replace h : S_rec1 (gl2 S_rec1 nF) v2 v3 = some res := h
      generalize gl2 S_rec1 nF = rec1 at h ih_rec1
      subst hS_rec1
      unfold sX4_lotsOfKind_rec1 at h
      refine lv_iload_n hx hb dX4_lotsOfKind_4 rfl (lv_at hl 0 rfl) ?_
      refine lv_aload_n hx hb dX4_lotsOfKind_5 rfl (lv_at hl 2 rfl) ?_
      refine va_get (D := E.1) (cl := vwCl) (ci := 4) (v := .int lots) (C := RX4) (T := TX4) (N := 11) hx hb hts hiX4 hown hK hP 0 rfl rfl 3 (by decide) hw0 (fun _ h9 => h9) rfl dX4_lotsOfKind_6 ?_
      refine lv_icmp_ge (tgt := 31) hx hb dX4_lotsOfKind_9 (by decide) (fun hc4 => ?_) (fun hc4 => ?_)
      · replace h := g_it hc4 h
        refine lv_iload_n hx hb dX4_lotsOfKind_31 rfl (lv_at hl 1 rfl) ?_
        exact hret v3 _ _ _ _ _ (Option.some.inj h) hP hS rfl dX4_lotsOfKind_32
      · replace h := g_if hc4 h
        refine lv_aload_n hx hb dX4_lotsOfKind_12 rfl (lv_at hl 2 rfl) ?_
        refine va_get (D := E.1) (cl := vwCl) (ci := 4) (v := .ref a1) (C := RX4) (T := TX4) (N := 11) hx hb hts hiX4 hown hK hP 0 rfl rfl 0 (by decide) hw1 (fun _ h9 => h9) rfl dX4_lotsOfKind_13 ?_
        refine lv_iload_n hx hb dX4_lotsOfKind_16 rfl (lv_at hl 0 rfl) ?_
        obtain ⟨hg5, h⟩ := gd_s h
        refine va_iald (D := E.1) (cl := vwCl) (tys := gT E) hx hb hK hP 1 0 rfl rfl (inB_in hg5) dX4_lotsOfKind_17 ?_
        refine lv_iload_n hx hb dX4_lotsOfKind_18 rfl (lv_at hl 3 rfl) ?_
        refine lv_icmp_ne (tgt := 25) hx hb dX4_lotsOfKind_19 (by decide) (fun hc6 => ?_) (fun hc6 => ?_)
        · replace h := g_if hc6 h
          obtain ⟨v7, e_v7⟩ : ∃ y : Int32, y = (v2 + (1 : Int32)) := ⟨_, rfl⟩
          replace h := jl_s e_v7 h
          refine lv_iinc (v := v7) (lv' := [(3, .int v7), (2, .int v3), (0, .ref a0), (1, .int p1)]) hx hb dX4_lotsOfKind_25 hl (k := 0) rfl (by rw [e_v7]; rfl) (by decide) rfl (fun ls hl => ?_)
          refine lv_goto (tgt := 4) hx hb dX4_lotsOfKind_28 (by decide) ?_
          exact ih_rec1 v7 v3 _ _ _ hP hS (lv_sub hl [0, 1, 2, 3] rfl) h
        · replace h := g_it hc6 h
          obtain ⟨v8, e_v8⟩ : ∃ y : Int32, y = (v3 + (1 : Int32)) := ⟨_, rfl⟩
          replace h := jl_s e_v8 h
          refine lv_iinc (v := v8) (lv' := [(2, .int v8), (3, .int v2), (0, .ref a0), (1, .int p1)]) hx hb dX4_lotsOfKind_22 hl (k := 1) rfl (by rw [e_v8]; rfl) (by decide) rfl (fun ls hl => ?_)
          obtain ⟨v9, e_v9⟩ : ∃ y : Int32, y = (v2 + (1 : Int32)) := ⟨_, rfl⟩
          replace h := jl_s e_v9 h
          refine lv_iinc (v := v9) (lv' := [(3, .int v9), (2, .int v8), (0, .ref a0), (1, .int p1)]) hx hb dX4_lotsOfKind_25 hl (k := 1) rfl (by rw [e_v9]; rfl) (by decide) rfl (fun ls hl => ?_)
          refine lv_goto (tgt := 4) hx hb dX4_lotsOfKind_28 (by decide) ?_
          exact ih_rec1 v9 v8 _ _ _ hP hS (lv_sub hl [0, 1, 2, 3] rfl) h
  exact hL_rec1 gFU (0 : Int32) (0 : Int32) _ _ _ hP hS (lv_sub hl [0, 1, 2, 3] rfl) h
set_option maxHeartbeats 4000000 in
set_option maxRecDepth 100000 in
theorem kX4_spoil (E : gE) (l : Launch) (a0 a1 a2 a3 a4 a5 a6 a7 a8 a9 : Nat) (lk : Nat → Int32) (la : Nat → Int32) (ll : Nat → Int32) (lots : Int32) (pk : Nat → Int32) (pa : Nat → Int32) (pd : Nat → Int32) (onp : Int32) (br : Nat → Int32) (us : Nat → Int32) (sp : Nat → Int32) (p1 : Int32) (res : (Nat → Int32) × (Nat → Int32)) (h : fX4_spoil lk la ll lots sp p1 = some res) : gMV E l yX4_spoil wsX4_spoil ({ frames := 0, cells := 0, slots := 0, locals := 0 } : Room) [.ref a0, .int p1] (wSt E a0 a1 a2 a3 a4 a5 a6 a7 a8 a9 lk la ll lots pk pa pd onp br us sp) (fun res : (Nat → Int32) × (Nat → Int32) => (wSt E a0 a1 a2 a3 a4 a5 a6 a7 a8 a9 lk res.1 ll lots pk pa pd onp br us res.2)) res := by
  refine g_entV (cc := cX4_spoil) (maxL := 4) (by decide) rfl (Nat.le_of_ble_eq_true rfl) ?_
  intro p e s m args below meth c A Q ls hx hb hml hown hts hK hP hD hS hA hG hret hl
  unfold fX4_spoil at h
  replace hl : lv_has ls 4 [(0, .ref a0), (1, .int p1)] := hl
  have hiX4 : ∀ w ∈ wsX40, w ∈ wsX4_spoil := by decide +kernel
  have hw0 := hts (.fieldLink RX4 43 "GlacierHut$Stores" "lots" "I") (by decide +kernel)
  have hw1 := hts (.fieldLink RX4 9 "GlacierHut$Stores" "lotKind" "[I") (by decide +kernel)
  have hw2 := hts (.fieldLink RX4 16 "GlacierHut$Stores" "lotLast" "[I") (by decide +kernel)
  have hw3 := hts (.fieldLink RX4 34 "GlacierHut$Stores" "spoilt" "[I") (by decide +kernel)
  have hw4 := hts (.fieldLink RX4 13 "GlacierHut$Stores" "lotAmount" "[I") (by decide +kernel)
  refine lv_iconst (v := (0 : Int32)) hx hb dX4_spoil_0 (by decide) ?_
  refine lv_istore_n (lv' := [(2, .int (0 : Int32)), (0, .ref a0), (1, .int p1)]) hx hb dX4_spoil_1 rfl hl (by decide) rfl (fun ls hl => ?_)
  refine gl3_e h (fun S_rec1 hS_rec1 h => ?_)
  have hL_rec1 : ∀ (nF : Nat) (v2 : Int32) (la3 : Nat → Int32) (sp4 : Nat → Int32) (H : Heap) (locs : List Loc) (ls : Array Slot), va_P E.1 vwCl (wSt E a0 a1 a2 a3 a4 a5 a6 a7 a8 a9 lk la3 ll lots pk pa pd onp br us sp4) H → va_S A s.heap H locs → lv_has ls 4 [(2, .int v2), (0, .ref a0), (1, .int p1)] → gl3 S_rec1 nF v2 la3 sp4 = some res → W p l e ({ frames := 0, cells := 0, slots := 0, locals := 0 } : Room) s m args below meth c H locs 0 0 Q (F0 m 2 ls []) := by
    intro nF
    induction nF with
    | zero => intro v2 la3 sp4 H locs ls hP hS hl h; exact gl3_z h
    | succ nF ih_rec1 =>
      intro v2 la3 sp4 H locs ls hP hS hl h
      replace hD : va_D A (wSt E a0 a1 a2 a3 a4 a5 a6 a7 a8 a9 lk la3 ll lots pk pa pd onp br us sp4) := gD_same hD rfl
      replace h : S_rec1 (gl3 S_rec1 nF) v2 la3 sp4 = some res := h
      generalize gl3 S_rec1 nF = rec1 at h ih_rec1
      subst hS_rec1
      unfold sX4_spoil_rec1 at h
      refine lv_iload_n hx hb dX4_spoil_2 rfl (lv_at hl 0 rfl) ?_
      refine lv_iconst (v := (3 : Int32)) hx hb dX4_spoil_3 (by decide) ?_
      refine lv_icmp_ge (tgt := 71) hx hb dX4_spoil_4 (by decide) (fun hc5 => ?_) (fun hc5 => ?_)
      · replace h := g_it hc5 h
        exact hret (la3, sp4) _ _ _ _ (Option.some.inj h) hP hS dX4_spoil_71
      · replace h := g_if hc5 h
        refine lv_iconst (v := (0 : Int32)) hx hb dX4_spoil_7 (by decide) ?_
        refine lv_istore_n (lv' := [(3, .int (0 : Int32)), (2, .int v2), (0, .ref a0), (1, .int p1)]) hx hb dX4_spoil_8 rfl hl (by decide) rfl (fun ls hl => ?_)
        refine gl3_e h (fun S_rec6 hS_rec6 h => ?_)
        have hL_rec6 : ∀ (nF : Nat) (v7 : Int32) (la8 : Nat → Int32) (sp9 : Nat → Int32) (H : Heap) (locs : List Loc) (ls : Array Slot), va_P E.1 vwCl (wSt E a0 a1 a2 a3 a4 a5 a6 a7 a8 a9 lk la8 ll lots pk pa pd onp br us sp9) H → va_S A s.heap H locs → lv_has ls 4 [(3, .int v7), (2, .int v2), (0, .ref a0), (1, .int p1)] → gl3 S_rec6 nF v7 la8 sp9 = some res → W p l e ({ frames := 0, cells := 0, slots := 0, locals := 0 } : Room) s m args below meth c H locs 0 0 Q (F0 m 9 ls []) := by
          intro nF
          induction nF with
          | zero => intro v7 la8 sp9 H locs ls hP hS hl h; exact gl3_z h
          | succ nF ih_rec6 =>
            intro v7 la8 sp9 H locs ls hP hS hl h
            replace hD : va_D A (wSt E a0 a1 a2 a3 a4 a5 a6 a7 a8 a9 lk la8 ll lots pk pa pd onp br us sp9) := gD_same hD rfl
            replace h : S_rec6 (gl3 S_rec6 nF) v7 la8 sp9 = some res := h
            generalize gl3 S_rec6 nF = rec6 at h ih_rec6
            subst hS_rec6
            unfold sX4_spoil_rec6 at h
            refine lv_iload_n hx hb dX4_spoil_9 rfl (lv_at hl 0 rfl) ?_
            refine lv_aload_n hx hb dX4_spoil_10 rfl (lv_at hl 2 rfl) ?_
            refine va_get (D := E.1) (cl := vwCl) (ci := 4) (v := .int lots) (C := RX4) (T := TX4) (N := 11) hx hb hts hiX4 hown hK hP 0 rfl rfl 3 (by decide) hw0 (fun _ h9 => h9) rfl dX4_spoil_11 ?_
            refine lv_icmp_ge (tgt := 65) hx hb dX4_spoil_14 (by decide) (fun hc10 => ?_) (fun hc10 => ?_)
            · replace h := g_it hc10 h
              obtain ⟨v11, e_v11⟩ : ∃ y : Int32, y = (v2 + (1 : Int32)) := ⟨_, rfl⟩
              replace h := jl_s e_v11 h
              refine lv_iinc (v := v11) (lv' := [(2, .int v11), (3, .int v7), (0, .ref a0), (1, .int p1)]) hx hb dX4_spoil_65 hl (k := 1) rfl (by rw [e_v11]; rfl) (by decide) rfl (fun ls hl => ?_)
              refine lv_goto (tgt := 2) hx hb dX4_spoil_68 (by decide) ?_
              exact ih_rec1 v11 la8 sp9 _ _ _ hP hS (lv_sub hl [0, 2, 3] rfl) h
            · replace h := g_if hc10 h
              refine lv_aload_n hx hb dX4_spoil_17 rfl (lv_at hl 2 rfl) ?_
              refine va_get (D := E.1) (cl := vwCl) (ci := 4) (v := .ref a1) (C := RX4) (T := TX4) (N := 11) hx hb hts hiX4 hown hK hP 0 rfl rfl 0 (by decide) hw1 (fun _ h9 => h9) rfl dX4_spoil_18 ?_
              refine lv_iload_n hx hb dX4_spoil_21 rfl (lv_at hl 0 rfl) ?_
              obtain ⟨hg12, h⟩ := gd_s h
              refine va_iald (D := E.1) (cl := vwCl) (tys := gT E) hx hb hK hP 1 0 rfl rfl (inB_in hg12) dX4_spoil_22 ?_
              refine lv_iload_n hx hb dX4_spoil_23 rfl (lv_at hl 1 rfl) ?_
              refine lv_icmp_ne (tgt := 59) hx hb dX4_spoil_24 (by decide) (fun hc13 => ?_) (fun hc13 => ?_)
              · replace h := g_if hc13 h
                obtain ⟨v14, e_v14⟩ : ∃ y : Int32, y = (v7 + (1 : Int32)) := ⟨_, rfl⟩
                replace h := jl_s e_v14 h
                refine lv_iinc (v := v14) (lv' := [(3, .int v14), (2, .int v2), (0, .ref a0), (1, .int p1)]) hx hb dX4_spoil_59 hl (k := 0) rfl (by rw [e_v14]; rfl) (by decide) rfl (fun ls hl => ?_)
                refine lv_goto (tgt := 9) hx hb dX4_spoil_62 (by decide) ?_
                exact ih_rec6 v14 la8 sp9 _ _ _ hP hS (lv_sub hl [0, 1, 2, 3] rfl) h
              · replace h := g_it hc13 h
                refine lv_aload_n hx hb dX4_spoil_27 rfl (lv_at hl 2 rfl) ?_
                refine va_get (D := E.1) (cl := vwCl) (ci := 4) (v := .ref a3) (C := RX4) (T := TX4) (N := 11) hx hb hts hiX4 hown hK hP 0 rfl rfl 2 (by decide) hw2 (fun _ h9 => h9) rfl dX4_spoil_28 ?_
                refine lv_iload_n hx hb dX4_spoil_31 rfl (lv_at hl 0 rfl) ?_
                refine va_iald (D := E.1) (cl := vwCl) (tys := gT E) hx hb hK hP 3 0 rfl rfl (inB_in hg12) dX4_spoil_32 ?_
                refine lv_iload_n hx hb dX4_spoil_33 rfl (lv_at hl 3 rfl) ?_
                refine lv_icmp_ne (tgt := 59) hx hb dX4_spoil_34 (by decide) (fun hc15 => ?_) (fun hc15 => ?_)
                · replace h := g_if hc15 h
                  obtain ⟨v16, e_v16⟩ : ∃ y : Int32, y = (v7 + (1 : Int32)) := ⟨_, rfl⟩
                  replace h := jl_s e_v16 h
                  refine lv_iinc (v := v16) (lv' := [(3, .int v16), (2, .int v2), (0, .ref a0), (1, .int p1)]) hx hb dX4_spoil_59 hl (k := 0) rfl (by rw [e_v16]; rfl) (by decide) rfl (fun ls hl => ?_)
                  refine lv_goto (tgt := 9) hx hb dX4_spoil_62 (by decide) ?_
                  exact ih_rec6 v16 la8 sp9 _ _ _ hP hS (lv_sub hl [0, 1, 2, 3] rfl) h
                · replace h := g_it hc15 h
                  refine lv_aload_n hx hb dX4_spoil_37 rfl (lv_at hl 2 rfl) ?_
                  refine va_get (D := E.1) (cl := vwCl) (ci := 4) (v := .ref a9) (C := RX4) (T := TX4) (N := 11) hx hb hts hiX4 hown hK hP 0 rfl rfl 10 (by decide) hw3 (fun _ h9 => h9) rfl dX4_spoil_38 ?_
                  refine lv_iload_n hx hb dX4_spoil_41 rfl (lv_at hl 1 rfl) ?_
                  refine lv_dup2_11 hx hb dX4_spoil_42 rfl rfl ?_
                  obtain ⟨hg17, h⟩ := gd_s h
                  refine va_iald (D := E.1) (cl := vwCl) (tys := gT E) hx hb hK hP 9 0 rfl rfl (inB_in hg17) dX4_spoil_43 ?_
                  refine lv_aload_n hx hb dX4_spoil_44 rfl (lv_at hl 2 rfl) ?_
                  refine va_get (D := E.1) (cl := vwCl) (ci := 4) (v := .ref a2) (C := RX4) (T := TX4) (N := 11) hx hb hts hiX4 hown hK hP 0 rfl rfl 1 (by decide) hw4 (fun _ h9 => h9) rfl dX4_spoil_45 ?_
                  refine lv_iload_n hx hb dX4_spoil_48 rfl (lv_at hl 0 rfl) ?_
                  refine va_iald (D := E.1) (cl := vwCl) (tys := gT E) hx hb hK hP 2 0 rfl rfl (inB_in hg12) dX4_spoil_49 ?_
                  refine lv_iadd hx hb dX4_spoil_50 ?_
                  refine va_iast (D := E.1) (cl := vwCl) (tys := gT E) hx hb hK hP hD hS 9 0 rfl rfl (inB_in hg17) dX4_spoil_51 (fun H locs hP hD hS => ?_)
                  obtain ⟨sp18, e_sp18⟩ : ∃ y : Nat → Int32, y = (upd sp9 (v2).toNatClampNeg ((sp9 (v2).toNatClampNeg) + (la8 (v7).toNatClampNeg))) := ⟨_, rfl⟩
                  replace h := jl_s e_sp18 h
                  replace hP : va_P E.1 vwCl (wSt E a0 a1 a2 a3 a4 a5 a6 a7 a8 a9 lk la8 ll lots pk pa pd onp br us sp18) H := (by rw [e_sp18]; exact hP)
                  replace hD : va_D A (wSt E a0 a1 a2 a3 a4 a5 a6 a7 a8 a9 lk la8 ll lots pk pa pd onp br us sp18) := gD_same hD rfl
                  refine lv_aload_n hx hb dX4_spoil_52 rfl (lv_at hl 2 rfl) ?_
                  refine va_get (D := E.1) (cl := vwCl) (ci := 4) (v := .ref a2) (C := RX4) (T := TX4) (N := 11) hx hb hts hiX4 hown hK hP 0 rfl rfl 1 (by decide) hw4 (fun _ h9 => h9) rfl dX4_spoil_53 ?_
                  refine lv_iload_n hx hb dX4_spoil_56 rfl (lv_at hl 0 rfl) ?_
                  refine lv_iconst (v := (0 : Int32)) hx hb dX4_spoil_57 (by decide) ?_
                  refine va_iast (D := E.1) (cl := vwCl) (tys := gT E) hx hb hK hP hD hS 2 0 rfl rfl (inB_in hg12) dX4_spoil_58 (fun H locs hP hD hS => ?_)
                  obtain ⟨la19, e_la19⟩ : ∃ y : Nat → Int32, y = (upd la8 (v7).toNatClampNeg (0 : Int32)) := ⟨_, rfl⟩
                  replace h := jl_s e_la19 h
                  replace hP : va_P E.1 vwCl (wSt E a0 a1 a2 a3 a4 a5 a6 a7 a8 a9 lk la19 ll lots pk pa pd onp br us sp18) H := (by rw [e_la19]; exact hP)
                  replace hD : va_D A (wSt E a0 a1 a2 a3 a4 a5 a6 a7 a8 a9 lk la19 ll lots pk pa pd onp br us sp18) := gD_same hD rfl
                  obtain ⟨v20, e_v20⟩ : ∃ y : Int32, y = (v7 + (1 : Int32)) := ⟨_, rfl⟩
                  replace h := jl_s e_v20 h
                  refine lv_iinc (v := v20) (lv' := [(3, .int v20), (2, .int v2), (0, .ref a0), (1, .int p1)]) hx hb dX4_spoil_59 hl (k := 0) rfl (by rw [e_v20]; rfl) (by decide) rfl (fun ls hl => ?_)
                  refine lv_goto (tgt := 9) hx hb dX4_spoil_62 (by decide) ?_
                  exact ih_rec6 v20 la19 sp18 _ _ _ hP hS (lv_sub hl [0, 1, 2, 3] rfl) h
        exact hL_rec6 gFU (0 : Int32) la3 sp4 _ _ _ hP hS (lv_sub hl [0, 1, 2, 3] rfl) h
  exact hL_rec1 gFU (0 : Int32) la sp _ _ _ hP hS (lv_sub hl [0, 1, 2] rfl) h
