set_option maxHeartbeats 4000000 in
set_option maxRecDepth 100000 in
theorem kL_low (E : gE) (l : Launch)   (p1 : Int32) (p2 : Int32) (res : Int32) (h : fL_low  p1 p2 = some res) : gMI E l yL_low wsL_low ({ frames := 0, cells := 0, slots := 0, locals := 0 } : Room) [.int p1, .int p2] (List.flatten []) (fun res : Int32 => (List.flatten [])) (fun res => res) res := by
  refine g_entI (cc := cL_low) (maxL := 2) (by decide) rfl (Nat.le_of_ble_eq_true rfl) ?_
  intro p e s m args below meth c A Q ls hx hb hml hown hts hK hP hD hS hA hG hret hl
  unfold fL_low at h
  replace hl : lv_has ls 2 [(0, .int p1), (1, .int p2)] := hl
  have hw0 := hts (.constant RL 8 (2147483647)) (by decide +kernel)
  refine lv_iload_n hx hb dL_low_0 rfl (lv_at hl 0 rfl) ?_
  refine lv_ldc hx hb hown hw0 dL_low_1 ?_
  refine lv_iand hx hb dL_low_3 ?_
  refine lv_iload_n hx hb dL_low_4 rfl (lv_at hl 1 rfl) ?_
  obtain ⟨hg1, h⟩ := gd_s h
  refine lv_irem hx hb dL_low_5 (dzB_ne hg1) ?_
  exact hret ((p1 &&& (2147483647 : Int32)) - (p1 &&& (2147483647 : Int32)) / p2 * p2) _ _ _ _ _ (Option.some.inj h) hP hS rfl dL_low_6
set_option maxHeartbeats 4000000 in
set_option maxRecDepth 100000 in
theorem kL_digest (E : gE) (l : Launch) (g0 q0 q1 x0 x1 x2 r0 : Nat) (an au ap ar aw : Nat → Nat) (ba : Nat → Nat → Nat) (ke : Int32) (lnn : Int32) (pm : Nat → Nat) (ch : Nat → Int32) (tl : Int32) (nu : Nat → Int32) (le : Int32) (nx : Int32) (cmd : Int32) (pos : Int32) (rea : Int32) (cau : Int32) (xn : HutS) (xt : HutS) (xp : HutS) (xr : HutS) (xw : HutS) (h0 : HutS) (h1 : HutS) (h2 : HutS) (h3 : HutS) (h4 : HutS)  (res : Int64) (h : fL_digest ke lnn tl xn  = some res) : gML E l yL_digest wsL_digest ({ frames := 2, cells := 0, slots := 0, locals := 48 } : Room) [.ref g0] (List.flatten [[(g0, .inr (6, [.ref (an 0), .ref (au 0), .ref (ap 0), .ref q0, .ref x0, .ref r0, .int ke]))], [(q0, .inr (0, [.ref q1, .int lnn]))], wHa E q1 ba pm, wTx E x0 x1 x2 ch tl nu le nx, [(r0, .inr (3, [.ref (ar 0), .ref (aw 0), .int cmd, .int pos, .int rea, .int cau]))], wHuT E an xn, wHuT E au xt, wHuT E ap xp, wHuT E ar xr, wHuT E aw xw, wHuT E (ba 0) h0, wHuT E (ba 1) h1, wHuT E (ba 2) h2, wHuT E (ba 3) h3, wHuT E (ba 4) h4]) (fun res : Int64 => (List.flatten [[(g0, .inr (6, [.ref (an 0), .ref (au 0), .ref (ap 0), .ref q0, .ref x0, .ref r0, .int ke]))], [(q0, .inr (0, [.ref q1, .int lnn]))], wHa E q1 ba pm, wTx E x0 x1 x2 ch tl nu le nx, [(r0, .inr (3, [.ref (ar 0), .ref (aw 0), .int cmd, .int pos, .int rea, .int cau]))], wHuT E an xn, wHuT E au xt, wHuT E ap xp, wHuT E ar xr, wHuT E aw xw, wHuT E (ba 0) h0, wHuT E (ba 1) h1, wHuT E (ba 2) h2, wHuT E (ba 3) h3, wHuT E (ba 4) h4])) (fun res => res) res := by
  refine g_entL (cc := cL_digest) (maxL := 4) (by decide) rfl (Nat.le_of_ble_eq_true rfl) ?_
  intro p e s m args below meth c A Q ls hx hb hml hown hts hK hP hD hS hA hG hret hl
  unfold fL_digest at h
  replace hl : lv_has ls 4 [(0, .ref g0)] := hl
  have hw0 := hts (.constantLong RL 9 (73)) (by decide +kernel)
  have hw1 := hts (.constantLong RL 11 (31)) (by decide +kernel)
  refine lv_ldc2 hx hb hown hw0 dL_digest_0 ?_
  refine lv_lstore_n (lv' := [(1, .long (73 : Int64)), (0, .ref g0)]) hx hb dL_digest_3 rfl hl (by decide) rfl (fun ls hl => ?_)
  refine lv_iconst (v := (0 : Int32)) hx hb dL_digest_4 (by decide) ?_
  refine lv_istore_n (lv' := [(3, .int (0 : Int32)), (1, .long (73 : Int64)), (0, .ref g0)]) hx hb dL_digest_5 rfl hl (by decide) rfl (fun ls hl => ?_)
  refine gl2_e h (fun S_rec1 hS_rec1 h => ?_)
  have hL_rec1 : ∀ (nF : Nat) (v2 : Int32) (v3 : Int64) (H : Heap) (locs : List Loc) (ls : Array Slot), va_P E.1 vwCl (List.flatten [[(g0, .inr (6, [.ref (an 0), .ref (au 0), .ref (ap 0), .ref q0, .ref x0, .ref r0, .int ke]))], [(q0, .inr (0, [.ref q1, .int lnn]))], wHa E q1 ba pm, wTx E x0 x1 x2 ch tl nu le nx, [(r0, .inr (3, [.ref (ar 0), .ref (aw 0), .int cmd, .int pos, .int rea, .int cau]))], wHuT E an xn, wHuT E au xt, wHuT E ap xp, wHuT E ar xr, wHuT E aw xw, wHuT E (ba 0) h0, wHuT E (ba 1) h1, wHuT E (ba 2) h2, wHuT E (ba 3) h3, wHuT E (ba 4) h4]) H → va_S A s.heap H locs → lv_has ls 4 [(3, .int v2), (1, .long v3), (0, .ref g0)] → gl2 S_rec1 nF v2 v3 = some res → W p l e ({ frames := 2, cells := 0, slots := 0, locals := 48 } : Room) s m args below meth c H locs 0 0 Q (F0 m 6 ls []) := by
    intro nF
    induction nF with
    | zero => intro v2 v3 H locs ls hP hS hl h; exact gl2_z h
    | succ nF ih_rec1 =>
      intro v2 v3 H locs ls hP hS hl h
      replace hD : va_D A (List.flatten [[(g0, .inr (6, [.ref (an 0), .ref (au 0), .ref (ap 0), .ref q0, .ref x0, .ref r0, .int ke]))], [(q0, .inr (0, [.ref q1, .int lnn]))], wHa E q1 ba pm, wTx E x0 x1 x2 ch tl nu le nx, [(r0, .inr (3, [.ref (ar 0), .ref (aw 0), .int cmd, .int pos, .int rea, .int cau]))], wHuT E an xn, wHuT E au xt, wHuT E ap xp, wHuT E ar xr, wHuT E aw xw, wHuT E (ba 0) h0, wHuT E (ba 1) h1, wHuT E (ba 2) h2, wHuT E (ba 3) h3, wHuT E (ba 4) h4]) := gD_same hD rfl
      replace h : S_rec1 (gl2 S_rec1 nF) v2 v3 = some res := h
      generalize gl2 S_rec1 nF = rec1 at h ih_rec1
      subst hS_rec1
      unfold sL_digest_rec1 at h
      refine lv_iload_n hx hb dL_digest_6 rfl (lv_at hl 0 rfl) ?_
      refine lv_bipush (v := (24 : Int32)) hx hb dL_digest_7 (by decide) ?_
      refine lv_icmp_ge (tgt := 47) hx hb dL_digest_9 (by decide) (fun hc4 => ?_) (fun hc4 => ?_)
      · replace h := g_it hc4 h
        refine lv_iconst (v := (0 : Int32)) hx hb dL_digest_47 (by decide) ?_
        refine lv_istore_n (lv' := [(3, .int (0 : Int32)), (1, .long v3), (0, .ref g0)]) hx hb dL_digest_48 rfl hl (by decide) rfl (fun ls hl => ?_)
        refine gl2_e h (fun S_rec5 hS_rec5 h => ?_)
        have hL_rec5 : ∀ (nF : Nat) (v6 : Int32) (v7 : Int64) (H : Heap) (locs : List Loc) (ls : Array Slot), va_P E.1 vwCl (List.flatten [[(g0, .inr (6, [.ref (an 0), .ref (au 0), .ref (ap 0), .ref q0, .ref x0, .ref r0, .int ke]))], [(q0, .inr (0, [.ref q1, .int lnn]))], wHa E q1 ba pm, wTx E x0 x1 x2 ch tl nu le nx, [(r0, .inr (3, [.ref (ar 0), .ref (aw 0), .int cmd, .int pos, .int rea, .int cau]))], wHuT E an xn, wHuT E au xt, wHuT E ap xp, wHuT E ar xr, wHuT E aw xw, wHuT E (ba 0) h0, wHuT E (ba 1) h1, wHuT E (ba 2) h2, wHuT E (ba 3) h3, wHuT E (ba 4) h4]) H → va_S A s.heap H locs → lv_has ls 4 [(3, .int v6), (1, .long v7), (0, .ref g0)] → gl2 S_rec5 nF v6 v7 = some res → W p l e ({ frames := 2, cells := 0, slots := 0, locals := 48 } : Room) s m args below meth c H locs 0 0 Q (F0 m 49 ls []) := by
          intro nF
          induction nF with
          | zero => intro v6 v7 H locs ls hP hS hl h; exact gl2_z h
          | succ nF ih_rec5 =>
            intro v6 v7 H locs ls hP hS hl h
            replace hD : va_D A (List.flatten [[(g0, .inr (6, [.ref (an 0), .ref (au 0), .ref (ap 0), .ref q0, .ref x0, .ref r0, .int ke]))], [(q0, .inr (0, [.ref q1, .int lnn]))], wHa E q1 ba pm, wTx E x0 x1 x2 ch tl nu le nx, [(r0, .inr (3, [.ref (ar 0), .ref (aw 0), .int cmd, .int pos, .int rea, .int cau]))], wHuT E an xn, wHuT E au xt, wHuT E ap xp, wHuT E ar xr, wHuT E aw xw, wHuT E (ba 0) h0, wHuT E (ba 1) h1, wHuT E (ba 2) h2, wHuT E (ba 3) h3, wHuT E (ba 4) h4]) := gD_same hD rfl
            replace h : S_rec5 (gl2 S_rec5 nF) v6 v7 = some res := h
            generalize gl2 S_rec5 nF = rec5 at h ih_rec5
            subst hS_rec5
            unfold sL_digest_rec5 at h
            refine lv_iload_n hx hb dL_digest_49 rfl (lv_at hl 0 rfl) ?_
            refine lv_bipush (v := (18 : Int32)) hx hb dL_digest_50 (by decide) ?_
            refine lv_icmp_ge (tgt := 81) hx hb dL_digest_52 (by decide) (fun hc8 => ?_) (fun hc8 => ?_)
            · replace h := g_it hc8 h
              refine lv_iconst (v := (0 : Int32)) hx hb dL_digest_81 (by decide) ?_
              refine lv_istore_n (lv' := [(3, .int (0 : Int32)), (1, .long v7), (0, .ref g0)]) hx hb dL_digest_82 rfl hl (by decide) rfl (fun ls hl => ?_)
              refine gl2_e h (fun S_rec9 hS_rec9 h => ?_)
              have hL_rec9 : ∀ (nF : Nat) (v10 : Int32) (v11 : Int64) (H : Heap) (locs : List Loc) (ls : Array Slot), va_P E.1 vwCl (List.flatten [[(g0, .inr (6, [.ref (an 0), .ref (au 0), .ref (ap 0), .ref q0, .ref x0, .ref r0, .int ke]))], [(q0, .inr (0, [.ref q1, .int lnn]))], wHa E q1 ba pm, wTx E x0 x1 x2 ch tl nu le nx, [(r0, .inr (3, [.ref (ar 0), .ref (aw 0), .int cmd, .int pos, .int rea, .int cau]))], wHuT E an xn, wHuT E au xt, wHuT E ap xp, wHuT E ar xr, wHuT E aw xw, wHuT E (ba 0) h0, wHuT E (ba 1) h1, wHuT E (ba 2) h2, wHuT E (ba 3) h3, wHuT E (ba 4) h4]) H → va_S A s.heap H locs → lv_has ls 4 [(3, .int v10), (1, .long v11), (0, .ref g0)] → gl2 S_rec9 nF v10 v11 = some res → W p l e ({ frames := 2, cells := 0, slots := 0, locals := 48 } : Room) s m args below meth c H locs 0 0 Q (F0 m 83 ls []) := by
                intro nF
                induction nF with
                | zero => intro v10 v11 H locs ls hP hS hl h; exact gl2_z h
                | succ nF ih_rec9 =>
                  intro v10 v11 H locs ls hP hS hl h
                  replace hD : va_D A (List.flatten [[(g0, .inr (6, [.ref (an 0), .ref (au 0), .ref (ap 0), .ref q0, .ref x0, .ref r0, .int ke]))], [(q0, .inr (0, [.ref q1, .int lnn]))], wHa E q1 ba pm, wTx E x0 x1 x2 ch tl nu le nx, [(r0, .inr (3, [.ref (ar 0), .ref (aw 0), .int cmd, .int pos, .int rea, .int cau]))], wHuT E an xn, wHuT E au xt, wHuT E ap xp, wHuT E ar xr, wHuT E aw xw, wHuT E (ba 0) h0, wHuT E (ba 1) h1, wHuT E (ba 2) h2, wHuT E (ba 3) h3, wHuT E (ba 4) h4]) := gD_same hD rfl
                  replace h : S_rec9 (gl2 S_rec9 nF) v10 v11 = some res := h
                  generalize gl2 S_rec9 nF = rec9 at h ih_rec9
                  subst hS_rec9
                  unfold sL_digest_rec9 at h
                  refine lv_iload_n hx hb dL_digest_83 rfl (lv_at hl 0 rfl) ?_
                  refine lv_bipush (v := (120 : Int32)) hx hb dL_digest_84 (by decide) ?_
                  refine lv_icmp_ge (tgt := 120) hx hb dL_digest_86 (by decide) (fun hc12 => ?_) (fun hc12 => ?_)
                  · replace h := g_it hc12 h
                    refine lv_iconst (v := (0 : Int32)) hx hb dL_digest_120 (by decide) ?_
                    refine lv_istore_n (lv' := [(3, .int (0 : Int32)), (1, .long v11), (0, .ref g0)]) hx hb dL_digest_121 rfl hl (by decide) rfl (fun ls hl => ?_)
                    refine gl2_e h (fun S_rec13 hS_rec13 h => ?_)
                    have hL_rec13 : ∀ (nF : Nat) (v14 : Int32) (v15 : Int64) (H : Heap) (locs : List Loc) (ls : Array Slot), va_P E.1 vwCl (List.flatten [[(g0, .inr (6, [.ref (an 0), .ref (au 0), .ref (ap 0), .ref q0, .ref x0, .ref r0, .int ke]))], [(q0, .inr (0, [.ref q1, .int lnn]))], wHa E q1 ba pm, wTx E x0 x1 x2 ch tl nu le nx, [(r0, .inr (3, [.ref (ar 0), .ref (aw 0), .int cmd, .int pos, .int rea, .int cau]))], wHuT E an xn, wHuT E au xt, wHuT E ap xp, wHuT E ar xr, wHuT E aw xw, wHuT E (ba 0) h0, wHuT E (ba 1) h1, wHuT E (ba 2) h2, wHuT E (ba 3) h3, wHuT E (ba 4) h4]) H → va_S A s.heap H locs → lv_has ls 4 [(3, .int v14), (1, .long v15), (0, .ref g0)] → gl2 S_rec13 nF v14 v15 = some res → W p l e ({ frames := 2, cells := 0, slots := 0, locals := 48 } : Room) s m args below meth c H locs 0 0 Q (F0 m 122 ls []) := by
                      intro nF
                      induction nF with
                      | zero => intro v14 v15 H locs ls hP hS hl h; exact gl2_z h
                      | succ nF ih_rec13 =>
                        intro v14 v15 H locs ls hP hS hl h
                        replace hD : va_D A (List.flatten [[(g0, .inr (6, [.ref (an 0), .ref (au 0), .ref (ap 0), .ref q0, .ref x0, .ref r0, .int ke]))], [(q0, .inr (0, [.ref q1, .int lnn]))], wHa E q1 ba pm, wTx E x0 x1 x2 ch tl nu le nx, [(r0, .inr (3, [.ref (ar 0), .ref (aw 0), .int cmd, .int pos, .int rea, .int cau]))], wHuT E an xn, wHuT E au xt, wHuT E ap xp, wHuT E ar xr, wHuT E aw xw, wHuT E (ba 0) h0, wHuT E (ba 1) h1, wHuT E (ba 2) h2, wHuT E (ba 3) h3, wHuT E (ba 4) h4]) := gD_same hD rfl
                        replace h : S_rec13 (gl2 S_rec13 nF) v14 v15 = some res := h
                        generalize gl2 S_rec13 nF = rec13 at h ih_rec13
                        subst hS_rec13
                        unfold sL_digest_rec13 at h
                        refine lv_iload_n hx hb dL_digest_122 rfl (lv_at hl 0 rfl) ?_
                        refine lv_aload_n hx hb dL_digest_123 rfl (lv_at hl 2 rfl) ?_
                        refine lv_iconst (v := (0 : Int32)) hx hb dL_digest_124 (by decide) ?_
                        obtain ⟨r16, hc17, h⟩ := bd1_s h
                        refine g_callBi (As := [.int (0 : Int32)]) (rest := [.int v14]) (r := r16) (bs1 := [[(g0, .inr (6, [.ref (an 0), .ref (au 0), .ref (ap 0), .ref q0, .ref x0, .ref r0, .int ke]))], [(q0, .inr (0, [.ref q1, .int lnn]))], wHa E q1 ba pm, wTx E x0 x1 x2 ch tl nu le nx, [(r0, .inr (3, [.ref (ar 0), .ref (aw 0), .int cmd, .int pos, .int rea, .int cau]))], wHuT E an xn, wHuT E au xt, wHuT E ap xp, wHuT E ar xr, wHuT E aw xw, wHuT E (ba 0) h0, wHuT E (ba 1) h1, wHuT E (ba 2) h2, wHuT E (ba 3) h3, wHuT E (ba 4) h4]) ⟨hx, hb, hml, hown, hts⟩ (kX6_count E l g0 q0 q1 x0 x1 x2 r0 an au ap ar aw ba ke lnn pm ch tl nu le nx cmd pos rea cau xn xt xp xr xw h0 h1 h2 h3 h4 (0 : Int32) r16 hc17) (cwV 1 hts gL_digest_X6_count rfl rfl rfl (by decide +kernel) ⟨Nat.le_of_ble_eq_true rfl, Nat.le_of_ble_eq_true rfl⟩) hK hP hD hS hA hG hl [0, 1, 2, 3, 4, 5, 6, 7, 8, 9, 10, 11, 12, 13, 14] 0 0 (by decide) rfl (ci := 6) rfl rfl rfl rfl rfl rfl rfl rfl rfl rfl (Nat.le_of_ble_eq_true rfl) dL_digest_125 (Nat.zero_le _) (Nat.zero_le _) (fun H locs hP hD hS => ?_)
                        refine lv_bipush (v := (7 : Int32)) hx hb dL_digest_128 (by decide) ?_
                        refine lv_imul hx hb dL_digest_130 ?_
                        refine lv_icmp_ge (tgt := 160) hx hb dL_digest_131 (by decide) (fun hc18 => ?_) (fun hc18 => ?_)
                        · replace h := g_it hc18 h
                          refine lv_lload_n hx hb dL_digest_160 rfl (lv_at hl 1 rfl) ?_
                          exact hret v15 _ _ _ _ _ (Option.some.inj h) hP hS rfl dL_digest_161
                        · replace h := g_if hc18 h
                          refine lv_ldc2 hx hb hown hw1 dL_digest_134 ?_
                          refine lv_lload_n hx hb dL_digest_137 rfl (lv_at hl 1 rfl) ?_
                          refine lv_lmul hx hb dL_digest_138 ?_
                          refine lv_aload_n hx hb dL_digest_139 rfl (lv_at hl 2 rfl) ?_
                          refine lv_iload_n hx hb dL_digest_140 rfl (lv_at hl 0 rfl) ?_
                          refine lv_bipush (v := (7 : Int32)) hx hb dL_digest_141 (by decide) ?_
                          refine lv_idiv hx hb dL_digest_143 (by decide) ?_
                          refine lv_iload_n hx hb dL_digest_144 rfl (lv_at hl 0 rfl) ?_
                          refine lv_bipush (v := (7 : Int32)) hx hb dL_digest_145 (by decide) ?_
                          refine lv_irem hx hb dL_digest_147 (by decide) ?_
                          obtain ⟨r19, hc20, h⟩ := bd1_s h
                          refine g_callBi (As := [.int (v14 / (7 : Int32)), .int (v14 - v14 / (7 : Int32) * (7 : Int32))]) (rest := [.long ((31 : Int64) * v15)]) (r := r19) (bs1 := [[(g0, .inr (6, [.ref (an 0), .ref (au 0), .ref (ap 0), .ref q0, .ref x0, .ref r0, .int ke]))], [(q0, .inr (0, [.ref q1, .int lnn]))], wHa E q1 ba pm, wTx E x0 x1 x2 ch tl nu le nx, [(r0, .inr (3, [.ref (ar 0), .ref (aw 0), .int cmd, .int pos, .int rea, .int cau]))], wHuT E an xn, wHuT E au xt, wHuT E ap xp, wHuT E ar xr, wHuT E aw xw, wHuT E (ba 0) h0, wHuT E (ba 1) h1, wHuT E (ba 2) h2, wHuT E (ba 3) h3, wHuT E (ba 4) h4]) ⟨hx, hb, hml, hown, hts⟩ (kX6_partyOf E l g0 q0 q1 x0 x1 x2 r0 an au ap ar aw ba ke lnn pm ch tl nu le nx cmd pos rea cau xn xt xp xr xw h0 h1 h2 h3 h4 (v14 / (7 : Int32)) (v14 - v14 / (7 : Int32) * (7 : Int32)) r19 hc20) (cwV 2 hts gL_digest_X6_partyOf rfl rfl rfl (by decide +kernel) ⟨Nat.le_of_ble_eq_true rfl, Nat.le_of_ble_eq_true rfl⟩) hK hP hD hS hA hG hl [0, 1, 2, 3, 4, 5, 6, 7, 8, 9, 10, 11, 12, 13, 14] 0 0 (by decide) rfl (ci := 6) rfl rfl rfl rfl rfl rfl rfl rfl rfl rfl (Nat.le_of_ble_eq_true rfl) dL_digest_148 (Nat.zero_le _) (Nat.zero_le _) (fun H locs hP hD hS => ?_)
                          refine lv_i2l hx hb dL_digest_151 rfl ?_
                          refine lv_ladd hx hb dL_digest_152 ?_
                          refine lv_topl (fun v21 e_v21 => ?_)
                          replace h := jl_s e_v21 h
                          refine lv_lstore_n (lv' := [(1, .long v21), (3, .int v14), (0, .ref g0)]) hx hb dL_digest_153 rfl hl (by decide) rfl (fun ls hl => ?_)
                          obtain ⟨v22, e_v22⟩ : ∃ y : Int32, y = (v14 + (1 : Int32)) := ⟨_, rfl⟩
                          replace h := jl_s e_v22 h
                          refine lv_iinc (v := v22) (lv' := [(3, .int v22), (1, .long v21), (0, .ref g0)]) hx hb dL_digest_154 hl (k := 1) rfl (by rw [e_v22]; rfl) (by decide) rfl (fun ls hl => ?_)
                          refine lv_goto (tgt := 122) hx hb dL_digest_157 (by decide) ?_
                          exact ih_rec13 v22 v21 _ _ _ hP hS (lv_sub hl [0, 1, 2] rfl) h
                    exact hL_rec13 gFU (0 : Int32) v11 _ _ _ hP hS (lv_sub hl [0, 1, 2] rfl) h
                  · replace h := g_if hc12 h
                    refine lv_ldc2 hx hb hown hw1 dL_digest_89 ?_
                    refine lv_lload_n hx hb dL_digest_92 rfl (lv_at hl 1 rfl) ?_
                    refine lv_lmul hx hb dL_digest_93 ?_
                    refine lv_aload_n hx hb dL_digest_94 rfl (lv_at hl 2 rfl) ?_
                    refine lv_iload_n hx hb dL_digest_95 rfl (lv_at hl 0 rfl) ?_
                    refine lv_bipush (v := (40 : Int32)) hx hb dL_digest_96 (by decide) ?_
                    refine lv_idiv hx hb dL_digest_98 (by decide) ?_
                    refine lv_iload_n hx hb dL_digest_99 rfl (lv_at hl 0 rfl) ?_
                    refine lv_iconst (v := (2 : Int32)) hx hb dL_digest_100 (by decide) ?_
                    refine lv_idiv hx hb dL_digest_101 (by decide) ?_
                    refine lv_bipush (v := (20 : Int32)) hx hb dL_digest_102 (by decide) ?_
                    refine lv_irem hx hb dL_digest_104 (by decide) ?_
                    refine lv_iload_n hx hb dL_digest_105 rfl (lv_at hl 0 rfl) ?_
                    refine lv_iconst (v := (2 : Int32)) hx hb dL_digest_106 (by decide) ?_
                    refine lv_irem hx hb dL_digest_107 (by decide) ?_
                    obtain ⟨r23, hc24, h⟩ := bd1_s h
                    refine g_callBi (As := [.int (v10 / (40 : Int32)), .int ((v10 / (2 : Int32)) - (v10 / (2 : Int32)) / (20 : Int32) * (20 : Int32)), .int (v10 - v10 / (2 : Int32) * (2 : Int32))]) (rest := [.long ((31 : Int64) * v11)]) (r := r23) (bs1 := [[(g0, .inr (6, [.ref (an 0), .ref (au 0), .ref (ap 0), .ref q0, .ref x0, .ref r0, .int ke]))], [(q0, .inr (0, [.ref q1, .int lnn]))], wHa E q1 ba pm, wTx E x0 x1 x2 ch tl nu le nx, [(r0, .inr (3, [.ref (ar 0), .ref (aw 0), .int cmd, .int pos, .int rea, .int cau]))], wHuT E an xn, wHuT E au xt, wHuT E ap xp, wHuT E ar xr, wHuT E aw xw, wHuT E (ba 0) h0, wHuT E (ba 1) h1, wHuT E (ba 2) h2, wHuT E (ba 3) h3, wHuT E (ba 4) h4]) ⟨hx, hb, hml, hown, hts⟩ (kX6_lotOf E l g0 q0 q1 x0 x1 x2 r0 an au ap ar aw ba ke lnn pm ch tl nu le nx cmd pos rea cau xn xt xp xr xw h0 h1 h2 h3 h4 (v10 / (40 : Int32)) ((v10 / (2 : Int32)) - (v10 / (2 : Int32)) / (20 : Int32) * (20 : Int32)) (v10 - v10 / (2 : Int32) * (2 : Int32)) r23 hc24) (cwV 3 hts gL_digest_X6_lotOf rfl rfl rfl (by decide +kernel) ⟨Nat.le_of_ble_eq_true rfl, Nat.le_of_ble_eq_true rfl⟩) hK hP hD hS hA hG hl [0, 1, 2, 3, 4, 5, 6, 7, 8, 9, 10, 11, 12, 13, 14] 0 0 (by decide) rfl (ci := 6) rfl rfl rfl rfl rfl rfl rfl rfl rfl rfl (Nat.le_of_ble_eq_true rfl) dL_digest_108 (Nat.zero_le _) (Nat.zero_le _) (fun H locs hP hD hS => ?_)
                    refine lv_i2l hx hb dL_digest_111 rfl ?_
                    refine lv_ladd hx hb dL_digest_112 ?_
                    refine lv_topl (fun v25 e_v25 => ?_)
                    replace h := jl_s e_v25 h
                    refine lv_lstore_n (lv' := [(1, .long v25), (3, .int v10), (0, .ref g0)]) hx hb dL_digest_113 rfl hl (by decide) rfl (fun ls hl => ?_)
                    obtain ⟨v26, e_v26⟩ : ∃ y : Int32, y = (v10 + (1 : Int32)) := ⟨_, rfl⟩
                    replace h := jl_s e_v26 h
                    refine lv_iinc (v := v26) (lv' := [(3, .int v26), (1, .long v25), (0, .ref g0)]) hx hb dL_digest_114 hl (k := 1) rfl (by rw [e_v26]; rfl) (by decide) rfl (fun ls hl => ?_)
                    refine lv_goto (tgt := 83) hx hb dL_digest_117 (by decide) ?_
                    exact ih_rec9 v26 v25 _ _ _ hP hS (lv_sub hl [0, 1, 2] rfl) h
              exact hL_rec9 gFU (0 : Int32) v7 _ _ _ hP hS (lv_sub hl [0, 1, 2] rfl) h
            · replace h := g_if hc8 h
              refine lv_ldc2 hx hb hown hw1 dL_digest_55 ?_
              refine lv_lload_n hx hb dL_digest_58 rfl (lv_at hl 1 rfl) ?_
              refine lv_lmul hx hb dL_digest_59 ?_
              refine lv_aload_n hx hb dL_digest_60 rfl (lv_at hl 2 rfl) ?_
              refine lv_iload_n hx hb dL_digest_61 rfl (lv_at hl 0 rfl) ?_
              refine lv_bipush (v := (6 : Int32)) hx hb dL_digest_62 (by decide) ?_
              refine lv_idiv hx hb dL_digest_64 (by decide) ?_
              refine lv_iload_n hx hb dL_digest_65 rfl (lv_at hl 0 rfl) ?_
              refine lv_bipush (v := (6 : Int32)) hx hb dL_digest_66 (by decide) ?_
              refine lv_irem hx hb dL_digest_68 (by decide) ?_
              obtain ⟨r27, hc28, h⟩ := bd1_s h
              refine g_callBi (As := [.int (v6 / (6 : Int32)), .int (v6 - v6 / (6 : Int32) * (6 : Int32))]) (rest := [.long ((31 : Int64) * v7)]) (r := r27) (bs1 := [[(g0, .inr (6, [.ref (an 0), .ref (au 0), .ref (ap 0), .ref q0, .ref x0, .ref r0, .int ke]))], [(q0, .inr (0, [.ref q1, .int lnn]))], wHa E q1 ba pm, wTx E x0 x1 x2 ch tl nu le nx, [(r0, .inr (3, [.ref (ar 0), .ref (aw 0), .int cmd, .int pos, .int rea, .int cau]))], wHuT E an xn, wHuT E au xt, wHuT E ap xp, wHuT E ar xr, wHuT E aw xw, wHuT E (ba 0) h0, wHuT E (ba 1) h1, wHuT E (ba 2) h2, wHuT E (ba 3) h3, wHuT E (ba 4) h4]) ⟨hx, hb, hml, hown, hts⟩ (kX6_storeOf E l g0 q0 q1 x0 x1 x2 r0 an au ap ar aw ba ke lnn pm ch tl nu le nx cmd pos rea cau xn xt xp xr xw h0 h1 h2 h3 h4 (v6 / (6 : Int32)) (v6 - v6 / (6 : Int32) * (6 : Int32)) r27 hc28) (cwV 2 hts gL_digest_X6_storeOf rfl rfl rfl (by decide +kernel) ⟨Nat.le_of_ble_eq_true rfl, Nat.le_of_ble_eq_true rfl⟩) hK hP hD hS hA hG hl [0, 1, 2, 3, 4, 5, 6, 7, 8, 9, 10, 11, 12, 13, 14] 0 0 (by decide) rfl (ci := 6) rfl rfl rfl rfl rfl rfl rfl rfl rfl rfl (Nat.le_of_ble_eq_true rfl) dL_digest_69 (Nat.zero_le _) (Nat.zero_le _) (fun H locs hP hD hS => ?_)
              refine lv_i2l hx hb dL_digest_72 rfl ?_
              refine lv_ladd hx hb dL_digest_73 ?_
              refine lv_topl (fun v29 e_v29 => ?_)
              replace h := jl_s e_v29 h
              refine lv_lstore_n (lv' := [(1, .long v29), (3, .int v6), (0, .ref g0)]) hx hb dL_digest_74 rfl hl (by decide) rfl (fun ls hl => ?_)
              obtain ⟨v30, e_v30⟩ : ∃ y : Int32, y = (v6 + (1 : Int32)) := ⟨_, rfl⟩
              replace h := jl_s e_v30 h
              refine lv_iinc (v := v30) (lv' := [(3, .int v30), (1, .long v29), (0, .ref g0)]) hx hb dL_digest_75 hl (k := 1) rfl (by rw [e_v30]; rfl) (by decide) rfl (fun ls hl => ?_)
              refine lv_goto (tgt := 49) hx hb dL_digest_78 (by decide) ?_
              exact ih_rec5 v30 v29 _ _ _ hP hS (lv_sub hl [0, 1, 2] rfl) h
        exact hL_rec5 gFU (0 : Int32) v3 _ _ _ hP hS (lv_sub hl [0, 1, 2] rfl) h
      · replace h := g_if hc4 h
        refine lv_ldc2 hx hb hown hw1 dL_digest_12 ?_
        refine lv_lload_n hx hb dL_digest_15 rfl (lv_at hl 1 rfl) ?_
        refine lv_lmul hx hb dL_digest_16 ?_
        refine lv_iload_n hx hb dL_digest_17 rfl (lv_at hl 0 rfl) ?_
        refine lv_bipush (v := (11 : Int32)) hx hb dL_digest_18 (by decide) ?_
        refine mrg_e h (fun J32 hK_J32 h => ?_)
        have hJ_J32 : ∀ (_ : Unit) (H : Heap) (locs : List Loc) (ls : Array Slot), va_P E.1 vwCl (List.flatten [[(g0, .inr (6, [.ref (an 0), .ref (au 0), .ref (ap 0), .ref q0, .ref x0, .ref r0, .int ke]))], [(q0, .inr (0, [.ref q1, .int lnn]))], wHa E q1 ba pm, wTx E x0 x1 x2 ch tl nu le nx, [(r0, .inr (3, [.ref (ar 0), .ref (aw 0), .int cmd, .int pos, .int rea, .int cau]))], wHuT E an xn, wHuT E au xt, wHuT E ap xp, wHuT E ar xr, wHuT E aw xw, wHuT E (ba 0) h0, wHuT E (ba 1) h1, wHuT E (ba 2) h2, wHuT E (ba 3) h3, wHuT E (ba 4) h4]) H → va_S A s.heap H locs → lv_has ls 4 [(3, .int v2), (0, .ref g0)] → J32 () = some res → W p l e ({ frames := 2, cells := 0, slots := 0, locals := 48 } : Room) s m args below meth c H locs 0 0 Q (F0 m 33 ls [.long ((31 : Int64) * v3)]) := by
          intro _ H locs ls hP hS hl h
          replace hD : va_D A (List.flatten [[(g0, .inr (6, [.ref (an 0), .ref (au 0), .ref (ap 0), .ref q0, .ref x0, .ref r0, .int ke]))], [(q0, .inr (0, [.ref q1, .int lnn]))], wHa E q1 ba pm, wTx E x0 x1 x2 ch tl nu le nx, [(r0, .inr (3, [.ref (ar 0), .ref (aw 0), .int cmd, .int pos, .int rea, .int cau]))], wHuT E an xn, wHuT E au xt, wHuT E ap xp, wHuT E ar xr, wHuT E aw xw, wHuT E (ba 0) h0, wHuT E (ba 1) h1, wHuT E (ba 2) h2, wHuT E (ba 3) h3, wHuT E (ba 4) h4]) := gD_same hD rfl
          subst hK_J32
          refine lv_aload_n hx hb dL_digest_33 rfl (lv_at hl 1 rfl) ?_
          refine lv_iload_n hx hb dL_digest_34 rfl (lv_at hl 0 rfl) ?_
          obtain ⟨r36, hc37, h⟩ := bd1_s h
          refine g_callBi (As := [.int v2]) (rest := [.long ((31 : Int64) * v3)]) (r := r36) (bs1 := [[(g0, .inr (6, [.ref (an 0), .ref (au 0), .ref (ap 0), .ref q0, .ref x0, .ref r0, .int ke]))], [(q0, .inr (0, [.ref q1, .int lnn]))], wHa E q1 ba pm, wTx E x0 x1 x2 ch tl nu le nx, [(r0, .inr (3, [.ref (ar 0), .ref (aw 0), .int cmd, .int pos, .int rea, .int cau]))], wHuT E an xn, wHuT E au xt, wHuT E ap xp, wHuT E ar xr, wHuT E aw xw, wHuT E (ba 0) h0, wHuT E (ba 1) h1, wHuT E (ba 2) h2, wHuT E (ba 3) h3, wHuT E (ba 4) h4]) ⟨hx, hb, hml, hown, hts⟩ (kX6_count E l g0 q0 q1 x0 x1 x2 r0 an au ap ar aw ba ke lnn pm ch tl nu le nx cmd pos rea cau xn xt xp xr xw h0 h1 h2 h3 h4 v2 r36 hc37) (cwV 1 hts gL_digest_X6_count rfl rfl rfl (by decide +kernel) ⟨Nat.le_of_ble_eq_true rfl, Nat.le_of_ble_eq_true rfl⟩) hK hP hD hS hA hG hl [0, 1, 2, 3, 4, 5, 6, 7, 8, 9, 10, 11, 12, 13, 14] 0 0 (by decide) rfl (ci := 6) rfl rfl rfl rfl rfl rfl rfl rfl rfl rfl (Nat.le_of_ble_eq_true rfl) dL_digest_35 (Nat.zero_le _) (Nat.zero_le _) (fun H locs hP hD hS => ?_)
          refine lv_i2l hx hb dL_digest_38 rfl ?_
          refine lv_ladd hx hb dL_digest_39 ?_
          refine lv_topl (fun v38 e_v38 => ?_)
          replace h := jl_s e_v38 h
          refine lv_lstore_n (lv' := [(1, .long v38), (3, .int v2), (0, .ref g0)]) hx hb dL_digest_40 rfl hl (by decide) rfl (fun ls hl => ?_)
          obtain ⟨v39, e_v39⟩ : ∃ y : Int32, y = (v2 + (1 : Int32)) := ⟨_, rfl⟩
          replace h := jl_s e_v39 h
          refine lv_iinc (v := v39) (lv' := [(3, .int v39), (1, .long v38), (0, .ref g0)]) hx hb dL_digest_41 hl (k := 1) rfl (by rw [e_v39]; rfl) (by decide) rfl (fun ls hl => ?_)
          refine lv_goto (tgt := 6) hx hb dL_digest_44 (by decide) ?_
          exact ih_rec1 v39 v38 _ _ _ hP hS (lv_sub hl [0, 1, 2] rfl) h
        refine lv_icmp_le (tgt := 33) hx hb dL_digest_20 (by decide) (fun hc31 => ?_) (fun hc31 => ?_)
        · replace h := g_it hc31 h
          exact hJ_J32 () _ _ _ hP hS (lv_sub hl [0, 2] rfl) h
        · replace h := g_if hc31 h
          refine lv_iload_n hx hb dL_digest_23 rfl (lv_at hl 0 rfl) ?_
          refine lv_bipush (v := (15 : Int32)) hx hb dL_digest_24 (by decide) ?_
          refine lv_icmp_ge (tgt := 33) hx hb dL_digest_26 (by decide) (fun hc33 => ?_) (fun hc33 => ?_)
          · replace h := g_it hc33 h
            exact hJ_J32 () _ _ _ hP hS (lv_sub hl [0, 2] rfl) h
          · replace h := g_if hc33 h
            refine lv_iconst (v := (0 : Int32)) hx hb dL_digest_29 (by decide) ?_
            refine lv_goto (tgt := 38) hx hb dL_digest_30 (by decide) ?_
            refine lv_i2l hx hb dL_digest_38 rfl ?_
            refine lv_ladd hx hb dL_digest_39 ?_
            refine lv_topl (fun v34 e_v34 => ?_)
            replace h := jl_s e_v34 h
            refine lv_lstore_n (lv' := [(1, .long v34), (3, .int v2), (0, .ref g0)]) hx hb dL_digest_40 rfl hl (by decide) rfl (fun ls hl => ?_)
            obtain ⟨v35, e_v35⟩ : ∃ y : Int32, y = (v2 + (1 : Int32)) := ⟨_, rfl⟩
            replace h := jl_s e_v35 h
            refine lv_iinc (v := v35) (lv' := [(3, .int v35), (1, .long v34), (0, .ref g0)]) hx hb dL_digest_41 hl (k := 1) rfl (by rw [e_v35]; rfl) (by decide) rfl (fun ls hl => ?_)
            refine lv_goto (tgt := 6) hx hb dL_digest_44 (by decide) ?_
            exact ih_rec1 v35 v34 _ _ _ hP hS (lv_sub hl [0, 1, 2] rfl) h
  exact hL_rec1 gFU (0 : Int32) (73 : Int64) _ _ _ hP hS (lv_sub hl [0, 1, 2] rfl) h
