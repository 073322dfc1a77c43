set_option maxHeartbeats 4000000 in
set_option maxRecDepth 100000 in
theorem kX1_tellStorm (E : gE) (l : Launch) (a0 a1 a2 a3 a4 a5 a6 a7 a8 a9 a10 a11 a12 a13 a14 a15 a16 a17 a18 a19 : Nat) (lk : Nat → Int32) (la : Nat → Int32) (ll : Nat → Int32) (lots : Int32) (pk : Nat → Int32) (pa : Nat → Int32) (pd : Nat → Int32) (onp : Int32) (br : Nat → Int32) (us : Nat → Int32) (sp : Nat → Int32) (zs : Nat → Int32) (zd : Nat → Int32) (zn : Nat → Int32) (zt : Nat → Int32) (zl : Nat → Int32) (zc : Nat → Int32) (nm : Int32) (sto : Nat → Int32) (sg : Nat → Int32) (dy : Int32) (fl : Int32) (hu : Int32) (cn : Int32) (gn : Int32) (cs : Int32) (p1 : Int32) (p2 : Int32) (res : Int32 × (Nat → Int32)) (h : fX1_tellStorm sto dy p1 p2 = some res) : gMI E l yX1_tellStorm wsX1_tellStorm ({ frames := 0, cells := 0, slots := 0, locals := 0 } : Room) [.ref a0, .int p1, .int p2] (List.flatten [wHo E a0 a1 a11 a18 a19 dy fl hu cn gn cs, wSt E a1 a2 a3 a4 a5 a6 a7 a8 a9 a10 lk la ll lots pk pa pd onp br us sp, wPa E a11 a12 a13 a14 a15 a16 a17 zs zd zn zt zl zc nm, wH8 E a18 sto, wH9 E a19 sg]) (fun res : Int32 × (Nat → Int32) => (List.flatten [wHo E a0 a1 a11 a18 a19 dy fl hu cn gn cs, wSt E a1 a2 a3 a4 a5 a6 a7 a8 a9 a10 lk la ll lots pk pa pd onp br us sp, wPa E a11 a12 a13 a14 a15 a16 a17 zs zd zn zt zl zc nm, wH8 E a18 res.2, wH9 E a19 sg])) (fun res => res.1) res := by
  refine g_entI (cc := cX1_tellStorm) (maxL := 6) (by decide) rfl (Nat.le_of_ble_eq_true rfl) ?_
  intro p e s m args below meth c A Q ls hx hb hml hown hts hK hP hD hS hA hG hret hl
  unfold fX1_tellStorm at h
  replace hl : lv_has ls 6 [(0, .ref a0), (1, .int p1), (2, .int p2)] := hl
  have hiX1 : ∀ w ∈ wsX10, w ∈ wsX1_tellStorm := by decide +kernel
  have hw0 := hts (.fieldLink RX1 49 "GlacierHut$Hut" "day" "I") (by decide +kernel)
  have hw1 := hts (.fieldLink RX1 25 "GlacierHut$Hut" "storms" "[Z") (by decide +kernel)
  refine lv_iload_n hx hb dX1_tellStorm_0 rfl (lv_at hl 1 rfl) ?_
  refine lv_aload_n hx hb dX1_tellStorm_1 rfl (lv_at hl 0 rfl) ?_
  refine va_get (D := E.1) (cl := vwCl) (ci := 1) (v := .int dy) (C := RX1) (T := TX1) (N := 10) hx hb hts hiX1 hown hK hP 0 rfl rfl 4 (by decide) hw0 (fun _ h9 => h9) rfl dX1_tellStorm_2 ?_
  refine lv_icmp_lt (tgt := 26) hx hb dX1_tellStorm_5 (by decide) (fun hc1 => ?_) (fun hc1 => ?_)
  · replace h := g_it hc1 h
    refine lv_iconst (v := (-1 : Int32)) hx hb dX1_tellStorm_26 (by decide) ?_
    exact hret ((-1 : Int32), sto) _ _ _ _ _ (Option.some.inj h) hP hS rfl dX1_tellStorm_27
  · replace h := g_if hc1 h
    refine lv_iload_n hx hb dX1_tellStorm_8 rfl (lv_at hl 1 rfl) ?_
    refine lv_sipush (v := (365 : Int32)) hx hb dX1_tellStorm_9 (by decide) ?_
    refine lv_icmp_gt (tgt := 26) hx hb dX1_tellStorm_12 (by decide) (fun hc2 => ?_) (fun hc2 => ?_)
    · replace h := g_it hc2 h
      refine lv_iconst (v := (-1 : Int32)) hx hb dX1_tellStorm_26 (by decide) ?_
      exact hret ((-1 : Int32), sto) _ _ _ _ _ (Option.some.inj h) hP hS rfl dX1_tellStorm_27
    · replace h := g_if hc2 h
      refine lv_iload_n hx hb dX1_tellStorm_15 rfl (lv_at hl 2 rfl) ?_
      refine lv_iconst (v := (1 : Int32)) hx hb dX1_tellStorm_16 (by decide) ?_
      refine lv_icmp_lt (tgt := 26) hx hb dX1_tellStorm_17 (by decide) (fun hc3 => ?_) (fun hc3 => ?_)
      · replace h := g_it hc3 h
        refine lv_iconst (v := (-1 : Int32)) hx hb dX1_tellStorm_26 (by decide) ?_
        exact hret ((-1 : Int32), sto) _ _ _ _ _ (Option.some.inj h) hP hS rfl dX1_tellStorm_27
      · replace h := g_if hc3 h
        refine lv_iload_n hx hb dX1_tellStorm_20 rfl (lv_at hl 2 rfl) ?_
        refine lv_bipush (v := (30 : Int32)) hx hb dX1_tellStorm_21 (by decide) ?_
        refine lv_icmp_le (tgt := 28) hx hb dX1_tellStorm_23 (by decide) (fun hc4 => ?_) (fun hc4 => ?_)
        · replace h := g_it hc4 h
          refine lv_iload_n hx hb dX1_tellStorm_28 rfl (lv_at hl 1 rfl) ?_
          refine lv_iload_n hx hb dX1_tellStorm_29 rfl (lv_at hl 2 rfl) ?_
          refine lv_iadd hx hb dX1_tellStorm_30 ?_
          refine lv_topi (fun v5 e_v5 => ?_)
          replace h := jl_s e_v5 h
          refine lv_istore_n (lv' := [(3, .int v5), (0, .ref a0), (1, .int p1), (2, .int p2)]) hx hb dX1_tellStorm_31 rfl hl (by decide) rfl (fun ls hl => ?_)
          refine lv_iconst (v := (0 : Int32)) hx hb dX1_tellStorm_32 (by decide) ?_
          refine lv_istore (lv' := [(4, .int (0 : Int32)), (3, .int v5), (0, .ref a0), (1, .int p1), (2, .int p2)]) hx hb dX1_tellStorm_33 hl (by decide) rfl (fun ls hl => ?_)
          refine lv_aload_n hx hb dX1_tellStorm_35 rfl (lv_at hl 2 rfl) ?_
          refine va_get (D := E.1) (cl := vwCl) (ci := 1) (v := .int dy) (C := RX1) (T := TX1) (N := 10) hx hb hts hiX1 hown hK hP 0 rfl rfl 4 (by decide) hw0 (fun _ h9 => h9) rfl dX1_tellStorm_36 ?_
          refine lv_istore (lv' := [(5, .int dy), (4, .int (0 : Int32)), (3, .int v5), (0, .ref a0), (1, .int p1), (2, .int p2)]) hx hb dX1_tellStorm_39 hl (by decide) rfl (fun ls hl => ?_)
          refine gl2_e h (fun S_rec6 hS_rec6 h => ?_)
          have hL_rec6 : ∀ (n : Nat) (v7 : Int32) (v8 : Int32) (H : Heap) (locs : List Loc) (ls : Array Slot), va_P E.1 vwCl (List.flatten [wHo E a0 a1 a11 a18 a19 dy fl hu cn gn cs, wSt E a1 a2 a3 a4 a5 a6 a7 a8 a9 a10 lk la ll lots pk pa pd onp br us sp, wPa E a11 a12 a13 a14 a15 a16 a17 zs zd zn zt zl zc nm, wH8 E a18 sto, wH9 E a19 sg]) H → va_S A s.heap H locs → lv_has ls 6 [(5, .int v7), (4, .int v8), (3, .int v5), (0, .ref a0), (1, .int p1)] → gl2 S_rec6 n v7 v8 = some res → W p l e ({ frames := 0, cells := 0, slots := 0, locals := 0 } : Room) s m args below meth c H locs 0 0 Q (F0 m 41 ls []) := by
            intro n
            induction n with
            | zero => intro v7 v8 H locs ls hP hS hl h; exact gl2_z h
            | succ n ih_rec6 =>
              intro v7 v8 H locs ls hP hS hl h
              replace hD : va_D A (List.flatten [wHo E a0 a1 a11 a18 a19 dy fl hu cn gn cs, wSt E a1 a2 a3 a4 a5 a6 a7 a8 a9 a10 lk la ll lots pk pa pd onp br us sp, wPa E a11 a12 a13 a14 a15 a16 a17 zs zd zn zt zl zc nm, wH8 E a18 sto, wH9 E a19 sg]) := gD_same hD rfl
              replace h : S_rec6 (gl2 S_rec6 n) v7 v8 = some res := h
              generalize gl2 S_rec6 n = rec6 at h ih_rec6
              subst hS_rec6
              refine lv_iload hx hb dX1_tellStorm_41 (lv_at hl 0 rfl) ?_
              refine lv_aload_n hx hb dX1_tellStorm_43 rfl (lv_at hl 3 rfl) ?_
              refine va_get (D := E.1) (cl := vwCl) (ci := 1) (v := .ref a18) (C := RX1) (T := TX1) (N := 10) hx hb hts hiX1 hown hK hP 0 rfl rfl 2 (by decide) hw1 (fun _ h9 => h9) rfl dX1_tellStorm_44 ?_
              refine va_alen (D := E.1) (cl := vwCl) (tys := gT E) (v := (396 : Int32)) hx hb hK hP 18 1 rfl rfl (show Int32.ofNat 396 = (396 : Int32) by decide) dX1_tellStorm_47 ?_
              refine lv_icmp_ge (tgt := 82) hx hb dX1_tellStorm_48 (by decide) (fun hc9 => ?_) (fun hc9 => ?_)
              · replace h := g_it hc9 h
                refine lv_iload hx hb dX1_tellStorm_82 (lv_at hl 1 rfl) ?_
                refine lv_bipush (v := (40 : Int32)) hx hb dX1_tellStorm_84 (by decide) ?_
                refine lv_icmp_le (tgt := 92) hx hb dX1_tellStorm_86 (by decide) (fun hc10 => ?_) (fun hc10 => ?_)
                · replace h := g_it hc10 h
                  refine lv_iload_n hx hb dX1_tellStorm_92 rfl (lv_at hl 4 rfl) ?_
                  refine lv_istore (lv' := [(5, .int p1), (4, .int v8), (3, .int v5), (0, .ref a0), (1, .int p1)]) hx hb dX1_tellStorm_93 hl (by decide) rfl (fun ls hl => ?_)
                  refine gl2_e h (fun S_rec11 hS_rec11 h => ?_)
                  have hL_rec11 : ∀ (n : Nat) (v12 : Int32) (sto13 : Nat → Int32) (H : Heap) (locs : List Loc) (ls : Array Slot), va_P E.1 vwCl (List.flatten [wHo E a0 a1 a11 a18 a19 dy fl hu cn gn cs, wSt E a1 a2 a3 a4 a5 a6 a7 a8 a9 a10 lk la ll lots pk pa pd onp br us sp, wPa E a11 a12 a13 a14 a15 a16 a17 zs zd zn zt zl zc nm, wH8 E a18 sto13, wH9 E a19 sg]) H → va_S A s.heap H locs → lv_has ls 6 [(5, .int v12), (4, .int v8), (3, .int v5), (0, .ref a0)] → gl2 S_rec11 n v12 sto13 = some res → W p l e ({ frames := 0, cells := 0, slots := 0, locals := 0 } : Room) s m args below meth c H locs 0 0 Q (F0 m 95 ls []) := by
                    intro n
                    induction n with
                    | zero => intro v12 sto13 H locs ls hP hS hl h; exact gl2_z h
                    | succ n ih_rec11 =>
                      intro v12 sto13 H locs ls hP hS hl h
                      replace hD : va_D A (List.flatten [wHo E a0 a1 a11 a18 a19 dy fl hu cn gn cs, wSt E a1 a2 a3 a4 a5 a6 a7 a8 a9 a10 lk la ll lots pk pa pd onp br us sp, wPa E a11 a12 a13 a14 a15 a16 a17 zs zd zn zt zl zc nm, wH8 E a18 sto13, wH9 E a19 sg]) := gD_same hD rfl
                      replace h : S_rec11 (gl2 S_rec11 n) v12 sto13 = some res := h
                      generalize gl2 S_rec11 n = rec11 at h ih_rec11
                      subst hS_rec11
                      refine lv_iload hx hb dX1_tellStorm_95 (lv_at hl 0 rfl) ?_
                      refine lv_iload_n hx hb dX1_tellStorm_97 rfl (lv_at hl 2 rfl) ?_
                      refine lv_icmp_ge (tgt := 125) hx hb dX1_tellStorm_98 (by decide) (fun hc14 => ?_) (fun hc14 => ?_)
                      · replace h := g_it hc14 h
                        refine lv_iload hx hb dX1_tellStorm_125 (lv_at hl 1 rfl) ?_
                        exact hret (v8, sto13) _ _ _ _ _ (Option.some.inj h) hP hS rfl dX1_tellStorm_127
                      · replace h := g_if hc14 h
                        refine lv_iload hx hb dX1_tellStorm_101 (lv_at hl 0 rfl) ?_
                        refine lv_aload_n hx hb dX1_tellStorm_103 rfl (lv_at hl 3 rfl) ?_
                        refine va_get (D := E.1) (cl := vwCl) (ci := 1) (v := .ref a18) (C := RX1) (T := TX1) (N := 10) hx hb hts hiX1 hown hK hP 0 rfl rfl 2 (by decide) hw1 (fun _ h9 => h9) rfl dX1_tellStorm_104 ?_
                        refine va_alen (D := E.1) (cl := vwCl) (tys := gT E) (v := (396 : Int32)) hx hb hK hP 18 1 rfl rfl (show Int32.ofNat 396 = (396 : Int32) by decide) dX1_tellStorm_107 ?_
                        refine lv_icmp_ge (tgt := 125) hx hb dX1_tellStorm_108 (by decide) (fun hc15 => ?_) (fun hc15 => ?_)
                        · replace h := g_it hc15 h
                          refine lv_iload hx hb dX1_tellStorm_125 (lv_at hl 1 rfl) ?_
                          exact hret (v8, sto13) _ _ _ _ _ (Option.some.inj h) hP hS rfl dX1_tellStorm_127
                        · replace h := g_if hc15 h
                          refine lv_aload_n hx hb dX1_tellStorm_111 rfl (lv_at hl 3 rfl) ?_
                          refine va_get (D := E.1) (cl := vwCl) (ci := 1) (v := .ref a18) (C := RX1) (T := TX1) (N := 10) hx hb hts hiX1 hown hK hP 0 rfl rfl 2 (by decide) hw1 (fun _ h9 => h9) rfl dX1_tellStorm_112 ?_
                          refine lv_iload hx hb dX1_tellStorm_115 (lv_at hl 0 rfl) ?_
                          refine lv_iconst (v := (1 : Int32)) hx hb dX1_tellStorm_117 (by decide) ?_
                          obtain ⟨hg16, h⟩ := gd_s h
                          refine va_zast (D := E.1) (cl := vwCl) (tys := gT E) hx hb hK hP hD hS 18 1 rfl rfl (inB_in hg16) dX1_tellStorm_118 (fun H locs hP hD hS => ?_)
                          obtain ⟨sto17, e_sto17⟩ : ∃ y : Nat → Int32, y = (upd sto13 (v12).toNatClampNeg (vp_nar .boolean (1 : Int32))) := ⟨_, rfl⟩
                          replace h := jl_s e_sto17 h
                          replace hP : va_P E.1 vwCl (List.flatten [wHo E a0 a1 a11 a18 a19 dy fl hu cn gn cs, wSt E a1 a2 a3 a4 a5 a6 a7 a8 a9 a10 lk la ll lots pk pa pd onp br us sp, wPa E a11 a12 a13 a14 a15 a16 a17 zs zd zn zt zl zc nm, wH8 E a18 sto17, wH9 E a19 sg]) H := (by rw [e_sto17]; exact hP)
                          replace hD : va_D A (List.flatten [wHo E a0 a1 a11 a18 a19 dy fl hu cn gn cs, wSt E a1 a2 a3 a4 a5 a6 a7 a8 a9 a10 lk la ll lots pk pa pd onp br us sp, wPa E a11 a12 a13 a14 a15 a16 a17 zs zd zn zt zl zc nm, wH8 E a18 sto17, wH9 E a19 sg]) := gD_same hD rfl
                          obtain ⟨v18, e_v18⟩ : ∃ y : Int32, y = (v12 + (1 : Int32)) := ⟨_, rfl⟩
                          replace h := jl_s e_v18 h
                          refine lv_iinc (v := v18) (lv' := [(5, .int v18), (4, .int v8), (3, .int v5), (0, .ref a0)]) hx hb dX1_tellStorm_119 hl (k := 0) rfl (by rw [e_v18]; rfl) (by decide) rfl (fun ls hl => ?_)
                          refine lv_goto (tgt := 95) hx hb dX1_tellStorm_122 (by decide) ?_
                          exact ih_rec11 v18 sto17 _ _ _ hP hS (lv_sub hl [0, 1, 2, 3] rfl) h
                  exact hL_rec11 gFU p1 sto _ _ _ hP hS (lv_sub hl [0, 1, 2, 3] rfl) h
                · replace h := g_if hc10 h
                  refine lv_bipush (v := (-3 : Int32)) hx hb dX1_tellStorm_89 (by decide) ?_
                  exact hret ((-3 : Int32), sto) _ _ _ _ _ (Option.some.inj h) hP hS rfl dX1_tellStorm_91
              · replace h := g_if hc9 h
                refine lv_aload_n hx hb dX1_tellStorm_51 rfl (lv_at hl 3 rfl) ?_
                refine va_get (D := E.1) (cl := vwCl) (ci := 1) (v := .ref a18) (C := RX1) (T := TX1) (N := 10) hx hb hts hiX1 hown hK hP 0 rfl rfl 2 (by decide) hw1 (fun _ h9 => h9) rfl dX1_tellStorm_52 ?_
                refine lv_iload hx hb dX1_tellStorm_55 (lv_at hl 0 rfl) ?_
                obtain ⟨hg19, h⟩ := gd_s h
                refine va_zald (D := E.1) (cl := vwCl) (tys := gT E) hx hb hK hP 18 1 rfl rfl (inB_in hg19) dX1_tellStorm_57 ?_
                refine lv_if_ne (tgt := 73) hx hb dX1_tellStorm_58 (by decide) (fun hc20 => ?_) (fun hc20 => ?_)
                · replace h := g_if hc20 h
                  obtain ⟨v21, e_v21⟩ : ∃ y : Int32, y = (v8 + (1 : Int32)) := ⟨_, rfl⟩
                  replace h := jl_s e_v21 h
                  refine lv_iinc (v := v21) (lv' := [(4, .int v21), (5, .int v7), (3, .int v5), (0, .ref a0), (1, .int p1)]) hx hb dX1_tellStorm_73 hl (k := 1) rfl (by rw [e_v21]; rfl) (by decide) rfl (fun ls hl => ?_)
                  obtain ⟨v22, e_v22⟩ : ∃ y : Int32, y = (v7 + (1 : Int32)) := ⟨_, rfl⟩
                  replace h := jl_s e_v22 h
                  refine lv_iinc (v := v22) (lv' := [(5, .int v22), (4, .int v21), (3, .int v5), (0, .ref a0), (1, .int p1)]) hx hb dX1_tellStorm_76 hl (k := 1) rfl (by rw [e_v22]; rfl) (by decide) rfl (fun ls hl => ?_)
                  refine lv_goto (tgt := 41) hx hb dX1_tellStorm_79 (by decide) ?_
                  exact ih_rec6 v22 v21 _ _ _ hP hS (lv_sub hl [0, 1, 2, 3, 4] rfl) h
                · replace h := g_it hc20 h
                  refine lv_iload hx hb dX1_tellStorm_61 (lv_at hl 0 rfl) ?_
                  refine lv_iload_n hx hb dX1_tellStorm_63 rfl (lv_at hl 4 rfl) ?_
                  refine lv_icmp_lt (tgt := 76) hx hb dX1_tellStorm_64 (by decide) (fun hc23 => ?_) (fun hc23 => ?_)
                  · replace h := g_it hc23 h
                    obtain ⟨v24, e_v24⟩ : ∃ y : Int32, y = (v7 + (1 : Int32)) := ⟨_, rfl⟩
                    replace h := jl_s e_v24 h
                    refine lv_iinc (v := v24) (lv' := [(5, .int v24), (4, .int v8), (3, .int v5), (0, .ref a0), (1, .int p1)]) hx hb dX1_tellStorm_76 hl (k := 0) rfl (by rw [e_v24]; rfl) (by decide) rfl (fun ls hl => ?_)
                    refine lv_goto (tgt := 41) hx hb dX1_tellStorm_79 (by decide) ?_
                    exact ih_rec6 v24 v8 _ _ _ hP hS (lv_sub hl [0, 1, 2, 3, 4] rfl) h
                  · replace h := g_if hc23 h
                    refine lv_iload hx hb dX1_tellStorm_67 (lv_at hl 0 rfl) ?_
                    refine lv_iload_n hx hb dX1_tellStorm_69 rfl (lv_at hl 2 rfl) ?_
                    refine lv_icmp_ge (tgt := 76) hx hb dX1_tellStorm_70 (by decide) (fun hc25 => ?_) (fun hc25 => ?_)
                    · replace h := g_it hc25 h
                      obtain ⟨v26, e_v26⟩ : ∃ y : Int32, y = (v7 + (1 : Int32)) := ⟨_, rfl⟩
                      replace h := jl_s e_v26 h
                      refine lv_iinc (v := v26) (lv' := [(5, .int v26), (4, .int v8), (3, .int v5), (0, .ref a0), (1, .int p1)]) hx hb dX1_tellStorm_76 hl (k := 0) rfl (by rw [e_v26]; rfl) (by decide) rfl (fun ls hl => ?_)
                      refine lv_goto (tgt := 41) hx hb dX1_tellStorm_79 (by decide) ?_
                      exact ih_rec6 v26 v8 _ _ _ hP hS (lv_sub hl [0, 1, 2, 3, 4] rfl) h
                    · replace h := g_if hc25 h
                      obtain ⟨v27, e_v27⟩ : ∃ y : Int32, y = (v8 + (1 : Int32)) := ⟨_, rfl⟩
                      replace h := jl_s e_v27 h
                      refine lv_iinc (v := v27) (lv' := [(4, .int v27), (5, .int v7), (3, .int v5), (0, .ref a0), (1, .int p1)]) hx hb dX1_tellStorm_73 hl (k := 1) rfl (by rw [e_v27]; rfl) (by decide) rfl (fun ls hl => ?_)
                      obtain ⟨v28, e_v28⟩ : ∃ y : Int32, y = (v7 + (1 : Int32)) := ⟨_, rfl⟩
                      replace h := jl_s e_v28 h
                      refine lv_iinc (v := v28) (lv' := [(5, .int v28), (4, .int v27), (3, .int v5), (0, .ref a0), (1, .int p1)]) hx hb dX1_tellStorm_76 hl (k := 1) rfl (by rw [e_v28]; rfl) (by decide) rfl (fun ls hl => ?_)
                      refine lv_goto (tgt := 41) hx hb dX1_tellStorm_79 (by decide) ?_
                      exact ih_rec6 v28 v27 _ _ _ hP hS (lv_sub hl [0, 1, 2, 3, 4] rfl) h
          exact hL_rec6 gFU dy (0 : Int32) _ _ _ hP hS (lv_sub hl [0, 1, 2, 3, 4] rfl) h
        · replace h := g_if hc4 h
          refine lv_iconst (v := (-1 : Int32)) hx hb dX1_tellStorm_26 (by decide) ?_
          exact hret ((-1 : Int32), sto) _ _ _ _ _ (Option.some.inj h) hP hS rfl dX1_tellStorm_27
