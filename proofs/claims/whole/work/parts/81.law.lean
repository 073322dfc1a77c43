set_option maxHeartbeats 40000000 in
set_option maxRecDepth 100000 in
theorem kL_law {p : Program} {e : Env} {s : State} {m : MethodId} {below : List Frame} {meth : Method} {c : Code} {l : Launch} {b L : Nat} {xs : Nat → Int32} (E : gE) (g0 q0 q1 x0 x1 x2 r0 : Nat) (an au ap ar aw : Nat → Nat) (ba : Nat → Nat → Nat) (m0 m1 m2 m3 m4 m5 m6 m7 : Nat) (ke : Int32) (lnn : Int32) (pm : Nat → Nat) (ch : Nat → Int32) (tl : Int32) (nu : Nat → Int32) (le : Int32) (nx : Int32) (cmd : Int32) (pos : Int32) (rea : Int32) (cau : Int32) (xn : HutS) (xt : HutS) (xp : HutS) (xr : HutS) (xw : HutS) (h0 : HutS) (h1 : HutS) (h2 : HutS) (h3 : HutS) (h4 : HutS) (ss : Nat → Int32) (bg : Nat → Int32) (kp : Nat → Int32) (ik : Int32) (pt : Nat → Int32) (st : Int32) (tx : Nat → Int32) (ln : Int32) (asd : Nat → Int32) (att : Int32) (dn : Int32) (td : Int32) (fo : Int32) (nb : Nat → Int32) (C0 : lw_At p s m meth c b L xs) (hK : va_K E.1 vwCl (gT E) s) (hG : gSt E (fun q : Nat => s.heap.size ≤ q) s s.heap) {H : Heap} {locs : List Loc} {ls : Array Slot} (hP : va_P E.1 vwCl (List.flatten [[(g0, .inr (6, [.ref (an 0), .ref (au 0), .ref (ap 0), .ref q0, .ref x0, .ref r0, .int ke]))], [(q0, .inr (0, [.ref q1, .int lnn]))], wHa E q1 ba pm, wTx E x0 x1 x2 ch tl nu le nx, [(r0, .inr (3, [.ref (ar 0), .ref (aw 0), .int cmd, .int pos, .int rea, .int cau]))], wHuT E an xn, wHuT E au xt, wHuT E ap xp, wHuT E ar xr, wHuT E aw xw, wHuT E (ba 0) h0, wHuT E (ba 1) h1, wHuT E (ba 2) h2, wHuT E (ba 3) h3, wHuT E (ba 4) h4, wMo E m0 m1 m2 m3 m4 m5 m6 m7 ss bg kp ik pt st tx ln asd att dn td fo nb]) H) (hD : va_D (fun q : Nat => s.heap.size ≤ q) (List.flatten [[(g0, .inr (6, [.ref (an 0), .ref (au 0), .ref (ap 0), .ref q0, .ref x0, .ref r0, .int ke]))], [(q0, .inr (0, [.ref q1, .int lnn]))], wHa E q1 ba pm, wTx E x0 x1 x2 ch tl nu le nx, [(r0, .inr (3, [.ref (ar 0), .ref (aw 0), .int cmd, .int pos, .int rea, .int cau]))], wHuT E an xn, wHuT E au xt, wHuT E ap xp, wHuT E ar xr, wHuT E aw xw, wHuT E (ba 0) h0, wHuT E (ba 1) h1, wHuT E (ba 2) h2, wHuT E (ba 3) h3, wHuT E (ba 4) h4, wMo E m0 m1 m2 m3 m4 m5 m6 m7 ss bg kp ik pt st tx ln asd att dn td fo nb])) (hS : va_S (fun q : Nat => s.heap.size ≤ q) s.heap H locs) (hl : lv_has ls 4 [(2, .ref m0), (1, .ref g0), (0, .ref b)]) (h : fL_law xs L ke lnn pm ch tl nu le nx cmd pos rea cau xn xt xp xr xw h0 h1 h2 h3 h4 ss bg kp ik pt st tx ln asd att dn td fo nb = some 1) : W p l e room_1 s m #[Value.ref b] below meth c H locs 215 11127 (lw_Z below #[Value.ref b] s) (F0 m 16 ls []) := by
  obtain ⟨hx, hb, hr, hml, hown, hts0, hX, hbl, hlocks, hgv⟩ := C0
  have hts := fun w (h : w ∈ wsL_law) => hts0 w (wsL_law_in w h)
  have hown : s.vm.findClass RL = some m.cls := hown
  have hA : ∀ q : Nat, s.heap.size ≤ q → (fun q : Nat => s.heap.size ≤ q) q := fun _ h => h
  have hbA : ¬ (fun q : Nat => s.heap.size ≤ q) b := Nat.not_le.mpr hbl
  generalize hAe : (fun q : Nat => s.heap.size ≤ q) = A at hK hG hP hD hS hA hbA
  obtain ⟨res, hres⟩ : ∃ r : Int32, r = 1 := ⟨1, rfl⟩
  rw [← hres] at h
  unfold fL_law at h
  refine lv_iconst (v := (0 : Int32)) hx hb dL_law_16 (by decide) ?_
  refine lv_istore_n (lv' := [(3, .int (0 : Int32)), (2, .ref m0), (1, .ref g0), (0, .ref b)]) hx hb dL_law_17 rfl hl (by decide) rfl (fun ls hl => ?_)
  refine gl37_e h (fun S_rec1 hS_rec1 h => ?_)
  have hL_rec1 : ∀ (nF : Nat) (v2 : Int32) (ke3 : Int32) (lnn4 : Int32) (pm5 : Nat → Nat) (ch6 : Nat → Int32) (tl7 : Int32) (nu8 : Nat → Int32) (le9 : Int32) (nx10 : Int32) (cmd11 : Int32) (pos12 : Int32) (rea13 : Int32) (cau14 : Int32) (xn15 : HutS) (xt16 : HutS) (xp17 : HutS) (xr18 : HutS) (xw19 : HutS) (h20 : HutS) (h21 : HutS) (h22 : HutS) (h23 : HutS) (h24 : HutS) (ss25 : Nat → Int32) (bg26 : Nat → Int32) (kp27 : Nat → Int32) (ik28 : Int32) (pt29 : Nat → Int32) (st30 : Int32) (tx31 : Nat → Int32) (ln32 : Int32) (asd33 : Nat → Int32) (att34 : Int32) (dn35 : Int32) (td36 : Int32) (fo37 : Int32) (nb38 : Nat → Int32) (H : Heap) (locs : List Loc) (ls : Array Slot), va_P E.1 vwCl (List.flatten [[(g0, .inr (6, [.ref (an 0), .ref (au 0), .ref (ap 0), .ref q0, .ref x0, .ref r0, .int ke3]))], [(q0, .inr (0, [.ref q1, .int lnn4]))], wHa E q1 ba pm5, wTx E x0 x1 x2 ch6 tl7 nu8 le9 nx10, [(r0, .inr (3, [.ref (ar 0), .ref (aw 0), .int cmd11, .int pos12, .int rea13, .int cau14]))], wHuT E an xn15, wHuT E au xt16, wHuT E ap xp17, wHuT E ar xr18, wHuT E aw xw19, wHuT E (ba 0) h20, wHuT E (ba 1) h21, wHuT E (ba 2) h22, wHuT E (ba 3) h23, wHuT E (ba 4) h24, wMo E m0 m1 m2 m3 m4 m5 m6 m7 ss25 bg26 kp27 ik28 pt29 st30 tx31 ln32 asd33 att34 dn35 td36 fo37 nb38]) H → va_S A s.heap H locs → lv_has ls 4 [(3, .int v2), (2, .ref m0), (1, .ref g0), (0, .ref b)] → gl37 S_rec1 nF v2 ke3 lnn4 pm5 ch6 tl7 nu8 le9 nx10 cmd11 pos12 rea13 cau14 xn15 xt16 xp17 xr18 xw19 h20 h21 h22 h23 h24 ss25 bg26 kp27 ik28 pt29 st30 tx31 ln32 asd33 att34 dn35 td36 fo37 nb38 = some res → W p l e room_1 s m #[Value.ref b] below meth c H locs 215 11127 (lw_Z below #[Value.ref b] s) (F0 m 18 ls []) := by
    intro nF
    induction nF with
    | zero => intro v2 ke3 lnn4 pm5 ch6 tl7 nu8 le9 nx10 cmd11 pos12 rea13 cau14 xn15 xt16 xp17 xr18 xw19 h20 h21 h22 h23 h24 ss25 bg26 kp27 ik28 pt29 st30 tx31 ln32 asd33 att34 dn35 td36 fo37 nb38 H locs ls hP hS hl h; exact gl37_z h
    | succ nF ih_rec1 =>
      intro v2 ke3 lnn4 pm5 ch6 tl7 nu8 le9 nx10 cmd11 pos12 rea13 cau14 xn15 xt16 xp17 xr18 xw19 h20 h21 h22 h23 h24 ss25 bg26 kp27 ik28 pt29 st30 tx31 ln32 asd33 att34 dn35 td36 fo37 nb38 H locs ls hP hS hl h
      replace hD : va_D A (List.flatten [[(g0, .inr (6, [.ref (an 0), .ref (au 0), .ref (ap 0), .ref q0, .ref x0, .ref r0, .int ke3]))], [(q0, .inr (0, [.ref q1, .int lnn4]))], wHa E q1 ba pm5, wTx E x0 x1 x2 ch6 tl7 nu8 le9 nx10, [(r0, .inr (3, [.ref (ar 0), .ref (aw 0), .int cmd11, .int pos12, .int rea13, .int cau14]))], wHuT E an xn15, wHuT E au xt16, wHuT E ap xp17, wHuT E ar xr18, wHuT E aw xw19, wHuT E (ba 0) h20, wHuT E (ba 1) h21, wHuT E (ba 2) h22, wHuT E (ba 3) h23, wHuT E (ba 4) h24, wMo E m0 m1 m2 m3 m4 m5 m6 m7 ss25 bg26 kp27 ik28 pt29 st30 tx31 ln32 asd33 att34 dn35 td36 fo37 nb38]) := gD_same hD rfl
      replace h : S_rec1 (gl37 S_rec1 nF) v2 ke3 lnn4 pm5 ch6 tl7 nu8 le9 nx10 cmd11 pos12 rea13 cau14 xn15 xt16 xp17 xr18 xw19 h20 h21 h22 h23 h24 ss25 bg26 kp27 ik28 pt29 st30 tx31 ln32 asd33 att34 dn35 td36 fo37 nb38 = some res := h
      generalize gl37 S_rec1 nF = rec1 at h ih_rec1
      subst hS_rec1
      unfold sL_law_rec1 at h
      refine lv_iload_n hx hb dL_law_18 rfl (lv_at hl 0 rfl) ?_
      refine lv_aload_n hx hb dL_law_19 rfl (lv_at hl 3 rfl) ?_
      refine va_slen hx hb hX hbl hbA hS dL_law_20 ?_
      refine lv_iconst (v := (4 : Int32)) hx hb dL_law_21 (by decide) ?_
      refine lv_isub hx hb dL_law_22 ?_
      refine lv_icmp_gt (tgt := 698) hx hb dL_law_23 (by decide) (fun hc39 => ?_) (fun hc39 => ?_)
      · replace h := g_it hc39 h
        refine lv_iconst (v := (1 : Int32)) hx hb dL_law_698 (by decide) ?_
        refine va_forget (fun q hq => by have h9 := hS.2.2 q hq; rw [← hAe] at h9; exact h9) ?_
        refine W.widen (k := 600000) (n := 7302250) (Nat.le_of_ble_eq_true rfl) (Nat.le_of_ble_eq_true rfl) ?_
        exact lw_ret hx hb hr hlocks dL_law_699
      · replace h := g_if hc39 h
        refine lv_aload_n hx hb dL_law_26 rfl (lv_at hl 3 rfl) ?_
        refine lv_iload_n hx hb dL_law_27 rfl (lv_at hl 0 rfl) ?_
        obtain ⟨hg40, h⟩ := gd_s h
        refine va_sld hx hb hX hbl hbA hS (inB_in hg40) dL_law_28 ?_
        refine lv_bipush (v := (31 : Int32)) hx hb dL_law_29 (by decide) ?_
        refine lv_iand hx hb dL_law_31 ?_
        by_cases hk41 : ((xs (v2).toNatClampNeg) &&& (31 : Int32)) = (0 : Int32)
        · replace h := g_it hk41 h
          refine lv_tableIn (tgt := 136) (off := 104) hx hb dL_law_32 (by rw [hk41]; decide) (by rw [hk41]; decide) (by rw [hk41]; rfl) (by decide) ?_
          refine lv_aload_n hx hb dL_law_136 rfl (lv_at hl 2 rfl) ?_
          refine lv_aload_n hx hb dL_law_137 rfl (lv_at hl 3 rfl) ?_
          refine lv_iload_n hx hb dL_law_138 rfl (lv_at hl 0 rfl) ?_
          refine lv_iconst (v := (1 : Int32)) hx hb dL_law_139 (by decide) ?_
          refine lv_iadd hx hb dL_law_140 ?_
          obtain ⟨hg63, h⟩ := gd_s h
          refine va_sld hx hb hX hbl hbA hS (inB_in hg63) dL_law_141 ?_
          refine lv_aload_n hx hb dL_law_142 rfl (lv_at hl 3 rfl) ?_
          refine lv_iload_n hx hb dL_law_143 rfl (lv_at hl 0 rfl) ?_
          refine lv_iconst (v := (2 : Int32)) hx hb dL_law_144 (by decide) ?_
          refine lv_iadd hx hb dL_law_145 ?_
          obtain ⟨hg64, h⟩ := gd_s h
          refine va_sld hx hb hX hbl hbA hS (inB_in hg64) dL_law_146 ?_
          refine lv_aload_n hx hb dL_law_147 rfl (lv_at hl 3 rfl) ?_
          refine lv_iload_n hx hb dL_law_148 rfl (lv_at hl 0 rfl) ?_
          refine lv_iconst (v := (3 : Int32)) hx hb dL_law_149 (by decide) ?_
          refine lv_iadd hx hb dL_law_150 ?_
          obtain ⟨hg65, h⟩ := gd_s h
          refine va_sld hx hb hX hbl hbA hS (inB_in hg65) dL_law_151 ?_
          obtain ⟨r66, lnn_68, pm_70, xn_72, h0_74, h1_76, h2_78, h3_80, h4_82, hc83, h⟩ := bd9_s h
          refine g_callBi (As := [.int (xs ((v2 + (1 : Int32))).toNatClampNeg), .int (xs ((v2 + (2 : Int32))).toNatClampNeg), .int (xs ((v2 + (3 : Int32))).toNatClampNeg)]) (rest := []) (r := r66) (bs1 := [[(g0, .inr (6, [.ref (an 0), .ref (au 0), .ref (ap 0), .ref q0, .ref x0, .ref r0, .int ke3]))], [(q0, .inr (0, [.ref q1, .int lnn_68]))], wHa E q1 ba pm_70, wTx E x0 x1 x2 ch6 tl7 nu8 le9 nx10, [(r0, .inr (3, [.ref (ar 0), .ref (aw 0), .int cmd11, .int pos12, .int rea13, .int cau14]))], wHuT E an xn_72, wHuT E au xt16, wHuT E ap xp17, wHuT E ar xr18, wHuT E aw xw19, wHuT E (ba 0) h0_74, wHuT E (ba 1) h1_76, wHuT E (ba 2) h2_78, wHuT E (ba 3) h3_80, wHuT E (ba 4) h4_82, wMo E m0 m1 m2 m3 m4 m5 m6 m7 ss25 bg26 kp27 ik28 pt29 st30 tx31 ln32 asd33 att34 dn35 td36 fo37 nb38]) ⟨hx, hb, hml, hown, hts⟩ (kX6_load E l g0 q0 q1 x0 x1 x2 r0 an au ap ar aw ba ke3 lnn4 pm5 ch6 tl7 nu8 le9 nx10 cmd11 pos12 rea13 cau14 xn15 xt16 xp17 xr18 xw19 h20 h21 h22 h23 h24 (xs ((v2 + (1 : Int32))).toNatClampNeg) (xs ((v2 + (2 : Int32))).toNatClampNeg) (xs ((v2 + (3 : Int32))).toNatClampNeg) (r66, lnn_68, pm_70, xn_72, h0_74, h1_76, h2_78, h3_80, h4_82) hc83) (cwV 3 hts gL_law_X6_load rfl rfl rfl (by decide +kernel) ⟨Nat.le_of_ble_eq_true rfl, Nat.le_of_ble_eq_true rfl⟩) hK hP hD hS hA hG hl [0, 1, 2, 3, 4, 5, 6, 7, 8, 9, 10, 11, 12, 13, 14] 0 0 (by decide) rfl (ci := 6) rfl rfl rfl rfl rfl rfl rfl rfl rfl rfl (Nat.le_of_ble_eq_true rfl) dL_law_152 (Nat.le_of_ble_eq_true rfl) (Nat.le_of_ble_eq_true rfl) (fun H locs hP hD hS => ?_)
          refine lv_aload_n hx hb dL_law_155 rfl (lv_at hl 1 rfl) ?_
          refine lv_aload_n hx hb dL_law_156 rfl (lv_at hl 3 rfl) ?_
          refine lv_iload_n hx hb dL_law_157 rfl (lv_at hl 0 rfl) ?_
          refine lv_iconst (v := (1 : Int32)) hx hb dL_law_158 (by decide) ?_
          refine lv_iadd hx hb dL_law_159 ?_
          refine va_sld hx hb hX hbl hbA hS (inB_in hg63) dL_law_160 ?_
          refine lv_aload_n hx hb dL_law_161 rfl (lv_at hl 3 rfl) ?_
          refine lv_iload_n hx hb dL_law_162 rfl (lv_at hl 0 rfl) ?_
          refine lv_iconst (v := (2 : Int32)) hx hb dL_law_163 (by decide) ?_
          refine lv_iadd hx hb dL_law_164 ?_
          refine va_sld hx hb hX hbl hbA hS (inB_in hg64) dL_law_165 ?_
          refine lv_aload_n hx hb dL_law_166 rfl (lv_at hl 3 rfl) ?_
          refine lv_iload_n hx hb dL_law_167 rfl (lv_at hl 0 rfl) ?_
          refine lv_iconst (v := (3 : Int32)) hx hb dL_law_168 (by decide) ?_
          refine lv_iadd hx hb dL_law_169 ?_
          refine va_sld hx hb hX hbl hbA hS (inB_in hg65) dL_law_170 ?_
          obtain ⟨r84, ss85, bg86, pt87, st88, hc89, h⟩ := bd5_s h
          refine g_call1i (As := [.int (xs ((v2 + (1 : Int32))).toNatClampNeg), .int (xs ((v2 + (2 : Int32))).toNatClampNeg), .int (xs ((v2 + (3 : Int32))).toNatClampNeg)]) (rest := [.int r66]) (r := r84) (bs1 := [[(g0, .inr (6, [.ref (an 0), .ref (au 0), .ref (ap 0), .ref q0, .ref x0, .ref r0, .int ke3]))], [(q0, .inr (0, [.ref q1, .int lnn_68]))], wHa E q1 ba pm_70, wTx E x0 x1 x2 ch6 tl7 nu8 le9 nx10, [(r0, .inr (3, [.ref (ar 0), .ref (aw 0), .int cmd11, .int pos12, .int rea13, .int cau14]))], wHuT E an xn_72, wHuT E au xt16, wHuT E ap xp17, wHuT E ar xr18, wHuT E aw xw19, wHuT E (ba 0) h0_74, wHuT E (ba 1) h1_76, wHuT E (ba 2) h2_78, wHuT E (ba 3) h3_80, wHuT E (ba 4) h4_82, wMo E m0 m1 m2 m3 m4 m5 m6 m7 ss85 bg86 kp27 ik28 pt87 st88 tx31 ln32 asd33 att34 dn35 td36 fo37 nb38]) ⟨hx, hb, hml, hown, hts⟩ (kX7_load E l m0 m1 m2 m3 m4 m5 m6 m7 ss25 bg26 kp27 ik28 pt29 st30 tx31 ln32 asd33 att34 dn35 td36 fo37 nb38 (xs ((v2 + (1 : Int32))).toNatClampNeg) (xs ((v2 + (2 : Int32))).toNatClampNeg) (xs ((v2 + (3 : Int32))).toNatClampNeg) (r84, ss85, bg86, pt87, st88) hc89) (cwV 3 hts gL_law_X7_load rfl rfl rfl (by decide +kernel) ⟨Nat.le_of_ble_eq_true rfl, Nat.le_of_ble_eq_true rfl⟩) hK hP hD hS hA hG hl 15 0 (ci := 7) rfl rfl rfl rfl rfl rfl rfl rfl rfl (Nat.le_of_ble_eq_true rfl) dL_law_171 (Nat.le_of_ble_eq_true rfl) (Nat.le_of_ble_eq_true rfl) (fun H locs hP hD hS => ?_)
          refine lv_icmp_eq (tgt := 692) hx hb dL_law_174 (by decide) (fun hc90 => ?_) (fun hc90 => ?_)
          · replace h := g_it hc90 h
            obtain ⟨v91, e_v91⟩ : ∃ y : Int32, y = (v2 + (4 : Int32)) := ⟨_, rfl⟩
            replace h := jl_s e_v91 h
            refine lv_iinc (v := v91) (lv' := [(3, .int v91), (2, .ref m0), (1, .ref g0), (0, .ref b)]) hx hb dL_law_692 hl (k := 0) rfl (by rw [e_v91]; rfl) (by decide) rfl (fun ls hl => ?_)
            refine lv_goto (tgt := 18) hx hb dL_law_695 (by decide) ?_
            exact ih_rec1 v91 ke3 lnn_68 pm_70 ch6 tl7 nu8 le9 nx10 cmd11 pos12 rea13 cau14 xn_72 xt16 xp17 xr18 xw19 h0_74 h1_76 h2_78 h3_80 h4_82 ss85 bg86 kp27 ik28 pt87 st88 tx31 ln32 asd33 att34 dn35 td36 fo37 nb38 _ _ _ hP hS (lv_sub hl [0, 1, 2, 3] rfl) h
          · replace h := g_if hc90 h
            refine lv_iconst (v := (0 : Int32)) hx hb dL_law_177 (by decide) ?_
            exact absurd ((Option.some.inj h).trans hres) (by decide)
        replace h := g_if hk41 h
        by_cases hk42 : ((xs (v2).toNatClampNeg) &&& (31 : Int32)) = (1 : Int32)
        · replace h := g_it hk42 h
          refine lv_tableIn (tgt := 179) (off := 147) hx hb dL_law_32 (by rw [hk42]; decide) (by rw [hk42]; decide) (by rw [hk42]; rfl) (by decide) ?_
          refine lv_aload_n hx hb dL_law_179 rfl (lv_at hl 2 rfl) ?_
          obtain ⟨r92, lnn_94, pm_96, xn_98, h0_100, h1_102, h2_104, h3_106, h4_108, hc109, h⟩ := bd9_s h
          refine g_callBi (As := []) (rest := []) (r := r92) (bs1 := [[(g0, .inr (6, [.ref (an 0), .ref (au 0), .ref (ap 0), .ref q0, .ref x0, .ref r0, .int ke3]))], [(q0, .inr (0, [.ref q1, .int lnn_94]))], wHa E q1 ba pm_96, wTx E x0 x1 x2 ch6 tl7 nu8 le9 nx10, [(r0, .inr (3, [.ref (ar 0), .ref (aw 0), .int cmd11, .int pos12, .int rea13, .int cau14]))], wHuT E an xn_98, wHuT E au xt16, wHuT E ap xp17, wHuT E ar xr18, wHuT E aw xw19, wHuT E (ba 0) h0_100, wHuT E (ba 1) h1_102, wHuT E (ba 2) h2_104, wHuT E (ba 3) h3_106, wHuT E (ba 4) h4_108, wMo E m0 m1 m2 m3 m4 m5 m6 m7 ss25 bg26 kp27 ik28 pt29 st30 tx31 ln32 asd33 att34 dn35 td36 fo37 nb38]) ⟨hx, hb, hml, hown, hts⟩ (kX6_fly E l g0 q0 q1 x0 x1 x2 r0 an au ap ar aw ba ke3 lnn4 pm5 ch6 tl7 nu8 le9 nx10 cmd11 pos12 rea13 cau14 xn15 xt16 xp17 xr18 xw19 h20 h21 h22 h23 h24 (r92, lnn_94, pm_96, xn_98, h0_100, h1_102, h2_104, h3_106, h4_108) hc109) (cwV 0 hts gL_law_X6_fly rfl rfl rfl (by decide +kernel) ⟨Nat.le_of_ble_eq_true rfl, Nat.le_of_ble_eq_true rfl⟩) hK hP hD hS hA hG hl [0, 1, 2, 3, 4, 5, 6, 7, 8, 9, 10, 11, 12, 13, 14] 0 0 (by decide) rfl (ci := 6) rfl rfl rfl rfl rfl rfl rfl rfl rfl rfl (Nat.le_of_ble_eq_true rfl) dL_law_180 (Nat.le_of_ble_eq_true rfl) (Nat.le_of_ble_eq_true rfl) (fun H locs hP hD hS => ?_)
          refine lv_aload_n hx hb dL_law_183 rfl (lv_at hl 1 rfl) ?_
          obtain ⟨r110, ss111, bg112, pt113, st114, hc115, h⟩ := bd5_s h
          refine g_call1i (As := []) (rest := [.int r92]) (r := r110) (bs1 := [[(g0, .inr (6, [.ref (an 0), .ref (au 0), .ref (ap 0), .ref q0, .ref x0, .ref r0, .int ke3]))], [(q0, .inr (0, [.ref q1, .int lnn_94]))], wHa E q1 ba pm_96, wTx E x0 x1 x2 ch6 tl7 nu8 le9 nx10, [(r0, .inr (3, [.ref (ar 0), .ref (aw 0), .int cmd11, .int pos12, .int rea13, .int cau14]))], wHuT E an xn_98, wHuT E au xt16, wHuT E ap xp17, wHuT E ar xr18, wHuT E aw xw19, wHuT E (ba 0) h0_100, wHuT E (ba 1) h1_102, wHuT E (ba 2) h2_104, wHuT E (ba 3) h3_106, wHuT E (ba 4) h4_108, wMo E m0 m1 m2 m3 m4 m5 m6 m7 ss111 bg112 kp27 ik28 pt113 st114 tx31 ln32 asd33 att34 dn35 td36 fo37 nb38]) ⟨hx, hb, hml, hown, hts⟩ (kX7_fly E l m0 m1 m2 m3 m4 m5 m6 m7 ss25 bg26 kp27 ik28 pt29 st30 tx31 ln32 asd33 att34 dn35 td36 fo37 nb38 (r110, ss111, bg112, pt113, st114) hc115) (cwV 0 hts gL_law_X7_fly rfl rfl rfl (by decide +kernel) ⟨Nat.le_of_ble_eq_true rfl, Nat.le_of_ble_eq_true rfl⟩) hK hP hD hS hA hG hl 15 0 (ci := 7) rfl rfl rfl rfl rfl rfl rfl rfl rfl (Nat.le_of_ble_eq_true rfl) dL_law_184 (Nat.le_of_ble_eq_true rfl) (Nat.le_of_ble_eq_true rfl) (fun H locs hP hD hS => ?_)
          refine lv_icmp_eq (tgt := 692) hx hb dL_law_187 (by decide) (fun hc116 => ?_) (fun hc116 => ?_)
          · replace h := g_it hc116 h
            obtain ⟨v117, e_v117⟩ : ∃ y : Int32, y = (v2 + (4 : Int32)) := ⟨_, rfl⟩
            replace h := jl_s e_v117 h
            refine lv_iinc (v := v117) (lv' := [(3, .int v117), (2, .ref m0), (1, .ref g0), (0, .ref b)]) hx hb dL_law_692 hl (k := 0) rfl (by rw [e_v117]; rfl) (by decide) rfl (fun ls hl => ?_)
            refine lv_goto (tgt := 18) hx hb dL_law_695 (by decide) ?_
            exact ih_rec1 v117 ke3 lnn_94 pm_96 ch6 tl7 nu8 le9 nx10 cmd11 pos12 rea13 cau14 xn_98 xt16 xp17 xr18 xw19 h0_100 h1_102 h2_104 h3_106 h4_108 ss111 bg112 kp27 ik28 pt113 st114 tx31 ln32 asd33 att34 dn35 td36 fo37 nb38 _ _ _ hP hS (lv_sub hl [0, 1, 2, 3] rfl) h
          · replace h := g_if hc116 h
            refine lv_iconst (v := (0 : Int32)) hx hb dL_law_190 (by decide) ?_
            exact absurd ((Option.some.inj h).trans hres) (by decide)
        replace h := g_if hk42 h
        by_cases hk43 : ((xs (v2).toNatClampNeg) &&& (31 : Int32)) = (2 : Int32)
        · replace h := g_it hk43 h
          refine lv_tableIn (tgt := 192) (off := 160) hx hb dL_law_32 (by rw [hk43]; decide) (by rw [hk43]; decide) (by rw [hk43]; rfl) (by decide) ?_
          refine lv_aload_n hx hb dL_law_192 rfl (lv_at hl 2 rfl) ?_
          refine lv_aload_n hx hb dL_law_193 rfl (lv_at hl 3 rfl) ?_
          refine lv_iload_n hx hb dL_law_194 rfl (lv_at hl 0 rfl) ?_
          refine lv_iconst (v := (1 : Int32)) hx hb dL_law_195 (by decide) ?_
          refine lv_iadd hx hb dL_law_196 ?_
          obtain ⟨hg118, h⟩ := gd_s h
          refine va_sld hx hb hX hbl hbA hS (inB_in hg118) dL_law_197 ?_
          refine lv_aload_n hx hb dL_law_198 rfl (lv_at hl 3 rfl) ?_
          refine lv_iload_n hx hb dL_law_199 rfl (lv_at hl 0 rfl) ?_
          refine lv_iconst (v := (2 : Int32)) hx hb dL_law_200 (by decide) ?_
          refine lv_iadd hx hb dL_law_201 ?_
          obtain ⟨hg119, h⟩ := gd_s h
          refine va_sld hx hb hX hbl hbA hS (inB_in hg119) dL_law_202 ?_
          refine lv_aload_n hx hb dL_law_203 rfl (lv_at hl 3 rfl) ?_
          refine lv_iload_n hx hb dL_law_204 rfl (lv_at hl 0 rfl) ?_
          refine lv_iconst (v := (3 : Int32)) hx hb dL_law_205 (by decide) ?_
          refine lv_iadd hx hb dL_law_206 ?_
          obtain ⟨hg120, h⟩ := gd_s h
          refine va_sld hx hb hX hbl hbA hS (inB_in hg120) dL_law_207 ?_
          obtain ⟨r121, lnn_123, pm_125, xn_127, xt_129, h0_131, h1_133, h2_135, h3_137, h4_139, hc140, h⟩ := bd10_s h
          refine g_callBi (As := [.int (xs ((v2 + (1 : Int32))).toNatClampNeg), .int (xs ((v2 + (2 : Int32))).toNatClampNeg), .int (xs ((v2 + (3 : Int32))).toNatClampNeg)]) (rest := []) (r := r121) (bs1 := [[(g0, .inr (6, [.ref (an 0), .ref (au 0), .ref (ap 0), .ref q0, .ref x0, .ref r0, .int ke3]))], [(q0, .inr (0, [.ref q1, .int lnn_123]))], wHa E q1 ba pm_125, wTx E x0 x1 x2 ch6 tl7 nu8 le9 nx10, [(r0, .inr (3, [.ref (ar 0), .ref (aw 0), .int cmd11, .int pos12, .int rea13, .int cau14]))], wHuT E an xn_127, wHuT E au xt_129, wHuT E ap xp17, wHuT E ar xr18, wHuT E aw xw19, wHuT E (ba 0) h0_131, wHuT E (ba 1) h1_133, wHuT E (ba 2) h2_135, wHuT E (ba 3) h3_137, wHuT E (ba 4) h4_139, wMo E m0 m1 m2 m3 m4 m5 m6 m7 ss25 bg26 kp27 ik28 pt29 st30 tx31 ln32 asd33 att34 dn35 td36 fo37 nb38]) ⟨hx, hb, hml, hown, hts⟩ (kX6_book E l g0 q0 q1 x0 x1 x2 r0 an au ap ar aw ba ke3 lnn4 pm5 ch6 tl7 nu8 le9 nx10 cmd11 pos12 rea13 cau14 xn15 xt16 xp17 xr18 xw19 h20 h21 h22 h23 h24 (xs ((v2 + (1 : Int32))).toNatClampNeg) (xs ((v2 + (2 : Int32))).toNatClampNeg) (xs ((v2 + (3 : Int32))).toNatClampNeg) (r121, lnn_123, pm_125, xn_127, xt_129, h0_131, h1_133, h2_135, h3_137, h4_139) hc140) (cwV 3 hts gL_law_X6_book rfl rfl rfl (by decide +kernel) ⟨Nat.le_of_ble_eq_true rfl, Nat.le_of_ble_eq_true rfl⟩) hK hP hD hS hA hG hl [0, 1, 2, 3, 4, 5, 6, 7, 8, 9, 10, 11, 12, 13, 14] 0 0 (by decide) rfl (ci := 6) rfl rfl rfl rfl rfl rfl rfl rfl rfl rfl (Nat.le_of_ble_eq_true rfl) dL_law_208 (Nat.le_of_ble_eq_true rfl) (Nat.le_of_ble_eq_true rfl) (fun H locs hP hD hS => ?_)
          refine lv_aload_n hx hb dL_law_211 rfl (lv_at hl 1 rfl) ?_
          refine lv_aload_n hx hb dL_law_212 rfl (lv_at hl 3 rfl) ?_
          refine lv_iload_n hx hb dL_law_213 rfl (lv_at hl 0 rfl) ?_
          refine lv_iconst (v := (1 : Int32)) hx hb dL_law_214 (by decide) ?_
          refine lv_iadd hx hb dL_law_215 ?_
          refine va_sld hx hb hX hbl hbA hS (inB_in hg118) dL_law_216 ?_
          refine lv_aload_n hx hb dL_law_217 rfl (lv_at hl 3 rfl) ?_
          refine lv_iload_n hx hb dL_law_218 rfl (lv_at hl 0 rfl) ?_
          refine lv_iconst (v := (2 : Int32)) hx hb dL_law_219 (by decide) ?_
          refine lv_iadd hx hb dL_law_220 ?_
          refine va_sld hx hb hX hbl hbA hS (inB_in hg119) dL_law_221 ?_
          refine lv_aload_n hx hb dL_law_222 rfl (lv_at hl 3 rfl) ?_
          refine lv_iload_n hx hb dL_law_223 rfl (lv_at hl 0 rfl) ?_
          refine lv_iconst (v := (3 : Int32)) hx hb dL_law_224 (by decide) ?_
          refine lv_iadd hx hb dL_law_225 ?_
          refine va_sld hx hb hX hbl hbA hS (inB_in hg120) dL_law_226 ?_
          obtain ⟨r141, ss142, bg143, pt144, st145, asd146, hc147, h⟩ := bd6_s h
          refine g_call1i (As := [.int (xs ((v2 + (1 : Int32))).toNatClampNeg), .int (xs ((v2 + (2 : Int32))).toNatClampNeg), .int (xs ((v2 + (3 : Int32))).toNatClampNeg)]) (rest := [.int r121]) (r := r141) (bs1 := [[(g0, .inr (6, [.ref (an 0), .ref (au 0), .ref (ap 0), .ref q0, .ref x0, .ref r0, .int ke3]))], [(q0, .inr (0, [.ref q1, .int lnn_123]))], wHa E q1 ba pm_125, wTx E x0 x1 x2 ch6 tl7 nu8 le9 nx10, [(r0, .inr (3, [.ref (ar 0), .ref (aw 0), .int cmd11, .int pos12, .int rea13, .int cau14]))], wHuT E an xn_127, wHuT E au xt_129, wHuT E ap xp17, wHuT E ar xr18, wHuT E aw xw19, wHuT E (ba 0) h0_131, wHuT E (ba 1) h1_133, wHuT E (ba 2) h2_135, wHuT E (ba 3) h3_137, wHuT E (ba 4) h4_139, wMo E m0 m1 m2 m3 m4 m5 m6 m7 ss142 bg143 kp27 ik28 pt144 st145 tx31 ln32 asd146 att34 dn35 td36 fo37 nb38]) ⟨hx, hb, hml, hown, hts⟩ (kX7_book E l m0 m1 m2 m3 m4 m5 m6 m7 ss25 bg26 kp27 ik28 pt29 st30 tx31 ln32 asd33 att34 dn35 td36 fo37 nb38 (xs ((v2 + (1 : Int32))).toNatClampNeg) (xs ((v2 + (2 : Int32))).toNatClampNeg) (xs ((v2 + (3 : Int32))).toNatClampNeg) (r141, ss142, bg143, pt144, st145, asd146) hc147) (cwV 3 hts gL_law_X7_book rfl rfl rfl (by decide +kernel) ⟨Nat.le_of_ble_eq_true rfl, Nat.le_of_ble_eq_true rfl⟩) hK hP hD hS hA hG hl 15 0 (ci := 7) rfl rfl rfl rfl rfl rfl rfl rfl rfl (Nat.le_of_ble_eq_true rfl) dL_law_227 (Nat.le_of_ble_eq_true rfl) (Nat.le_of_ble_eq_true rfl) (fun H locs hP hD hS => ?_)
          refine lv_icmp_eq (tgt := 692) hx hb dL_law_230 (by decide) (fun hc148 => ?_) (fun hc148 => ?_)
          · replace h := g_it hc148 h
            obtain ⟨v149, e_v149⟩ : ∃ y : Int32, y = (v2 + (4 : Int32)) := ⟨_, rfl⟩
            replace h := jl_s e_v149 h
            refine lv_iinc (v := v149) (lv' := [(3, .int v149), (2, .ref m0), (1, .ref g0), (0, .ref b)]) hx hb dL_law_692 hl (k := 0) rfl (by rw [e_v149]; rfl) (by decide) rfl (fun ls hl => ?_)
            refine lv_goto (tgt := 18) hx hb dL_law_695 (by decide) ?_
            exact ih_rec1 v149 ke3 lnn_123 pm_125 ch6 tl7 nu8 le9 nx10 cmd11 pos12 rea13 cau14 xn_127 xt_129 xp17 xr18 xw19 h0_131 h1_133 h2_135 h3_137 h4_139 ss142 bg143 kp27 ik28 pt144 st145 tx31 ln32 asd146 att34 dn35 td36 fo37 nb38 _ _ _ hP hS (lv_sub hl [0, 1, 2, 3] rfl) h
          · replace h := g_if hc148 h
            refine lv_iconst (v := (0 : Int32)) hx hb dL_law_233 (by decide) ?_
            exact absurd ((Option.some.inj h).trans hres) (by decide)
        replace h := g_if hk43 h
        by_cases hk44 : ((xs (v2).toNatClampNeg) &&& (31 : Int32)) = (3 : Int32)
        · replace h := g_it hk44 h
          refine lv_tableIn (tgt := 235) (off := 203) hx hb dL_law_32 (by rw [hk44]; decide) (by rw [hk44]; decide) (by rw [hk44]; rfl) (by decide) ?_
          refine lv_aload_n hx hb dL_law_235 rfl (lv_at hl 2 rfl) ?_
          refine lv_aload_n hx hb dL_law_236 rfl (lv_at hl 3 rfl) ?_
          refine lv_iload_n hx hb dL_law_237 rfl (lv_at hl 0 rfl) ?_
          refine lv_iconst (v := (1 : Int32)) hx hb dL_law_238 (by decide) ?_
          refine lv_iadd hx hb dL_law_239 ?_
          obtain ⟨hg150, h⟩ := gd_s h
          refine va_sld hx hb hX hbl hbA hS (inB_in hg150) dL_law_240 ?_
          obtain ⟨r151, lnn_153, pm_155, xn_157, h0_159, h1_161, h2_163, h3_165, h4_167, hc168, h⟩ := bd9_s h
          refine g_callBi (As := [.int (xs ((v2 + (1 : Int32))).toNatClampNeg)]) (rest := []) (r := r151) (bs1 := [[(g0, .inr (6, [.ref (an 0), .ref (au 0), .ref (ap 0), .ref q0, .ref x0, .ref r0, .int ke3]))], [(q0, .inr (0, [.ref q1, .int lnn_153]))], wHa E q1 ba pm_155, wTx E x0 x1 x2 ch6 tl7 nu8 le9 nx10, [(r0, .inr (3, [.ref (ar 0), .ref (aw 0), .int cmd11, .int pos12, .int rea13, .int cau14]))], wHuT E an xn_157, wHuT E au xt16, wHuT E ap xp17, wHuT E ar xr18, wHuT E aw xw19, wHuT E (ba 0) h0_159, wHuT E (ba 1) h1_161, wHuT E (ba 2) h2_163, wHuT E (ba 3) h3_165, wHuT E (ba 4) h4_167, wMo E m0 m1 m2 m3 m4 m5 m6 m7 ss25 bg26 kp27 ik28 pt29 st30 tx31 ln32 asd33 att34 dn35 td36 fo37 nb38]) ⟨hx, hb, hml, hown, hts⟩ (kX6_cancel E l g0 q0 q1 x0 x1 x2 r0 an au ap ar aw ba ke3 lnn4 pm5 ch6 tl7 nu8 le9 nx10 cmd11 pos12 rea13 cau14 xn15 xt16 xp17 xr18 xw19 h20 h21 h22 h23 h24 (xs ((v2 + (1 : Int32))).toNatClampNeg) (r151, lnn_153, pm_155, xn_157, h0_159, h1_161, h2_163, h3_165, h4_167) hc168) (cwV 1 hts gL_law_X6_cancel rfl rfl rfl (by decide +kernel) ⟨Nat.le_of_ble_eq_true rfl, Nat.le_of_ble_eq_true rfl⟩) hK hP hD hS hA hG hl [0, 1, 2, 3, 4, 5, 6, 7, 8, 9, 10, 11, 12, 13, 14] 0 0 (by decide) rfl (ci := 6) rfl rfl rfl rfl rfl rfl rfl rfl rfl rfl (Nat.le_of_ble_eq_true rfl) dL_law_241 (Nat.le_of_ble_eq_true rfl) (Nat.le_of_ble_eq_true rfl) (fun H locs hP hD hS => ?_)
          refine lv_aload_n hx hb dL_law_244 rfl (lv_at hl 1 rfl) ?_
          refine lv_aload_n hx hb dL_law_245 rfl (lv_at hl 3 rfl) ?_
          refine lv_iload_n hx hb dL_law_246 rfl (lv_at hl 0 rfl) ?_
          refine lv_iconst (v := (1 : Int32)) hx hb dL_law_247 (by decide) ?_
          refine lv_iadd hx hb dL_law_248 ?_
          refine va_sld hx hb hX hbl hbA hS (inB_in hg150) dL_law_249 ?_
          obtain ⟨r169, ss170, bg171, pt172, st173, hc174, h⟩ := bd5_s h
          refine g_call1i (As := [.int (xs ((v2 + (1 : Int32))).toNatClampNeg)]) (rest := [.int r151]) (r := r169) (bs1 := [[(g0, .inr (6, [.ref (an 0), .ref (au 0), .ref (ap 0), .ref q0, .ref x0, .ref r0, .int ke3]))], [(q0, .inr (0, [.ref q1, .int lnn_153]))], wHa E q1 ba pm_155, wTx E x0 x1 x2 ch6 tl7 nu8 le9 nx10, [(r0, .inr (3, [.ref (ar 0), .ref (aw 0), .int cmd11, .int pos12, .int rea13, .int cau14]))], wHuT E an xn_157, wHuT E au xt16, wHuT E ap xp17, wHuT E ar xr18, wHuT E aw xw19, wHuT E (ba 0) h0_159, wHuT E (ba 1) h1_161, wHuT E (ba 2) h2_163, wHuT E (ba 3) h3_165, wHuT E (ba 4) h4_167, wMo E m0 m1 m2 m3 m4 m5 m6 m7 ss170 bg171 kp27 ik28 pt172 st173 tx31 ln32 asd33 att34 dn35 td36 fo37 nb38]) ⟨hx, hb, hml, hown, hts⟩ (kX7_cancel E l m0 m1 m2 m3 m4 m5 m6 m7 ss25 bg26 kp27 ik28 pt29 st30 tx31 ln32 asd33 att34 dn35 td36 fo37 nb38 (xs ((v2 + (1 : Int32))).toNatClampNeg) (r169, ss170, bg171, pt172, st173) hc174) (cwV 1 hts gL_law_X7_cancel rfl rfl rfl (by decide +kernel) ⟨Nat.le_of_ble_eq_true rfl, Nat.le_of_ble_eq_true rfl⟩) hK hP hD hS hA hG hl 15 0 (ci := 7) rfl rfl rfl rfl rfl rfl rfl rfl rfl (Nat.le_of_ble_eq_true rfl) dL_law_250 (Nat.le_of_ble_eq_true rfl) (Nat.le_of_ble_eq_true rfl) (fun H locs hP hD hS => ?_)
          refine lv_icmp_eq (tgt := 692) hx hb dL_law_253 (by decide) (fun hc175 => ?_) (fun hc175 => ?_)
          · replace h := g_it hc175 h
            obtain ⟨v176, e_v176⟩ : ∃ y : Int32, y = (v2 + (4 : Int32)) := ⟨_, rfl⟩
            replace h := jl_s e_v176 h
            refine lv_iinc (v := v176) (lv' := [(3, .int v176), (2, .ref m0), (1, .ref g0), (0, .ref b)]) hx hb dL_law_692 hl (k := 0) rfl (by rw [e_v176]; rfl) (by decide) rfl (fun ls hl => ?_)
            refine lv_goto (tgt := 18) hx hb dL_law_695 (by decide) ?_
            exact ih_rec1 v176 ke3 lnn_153 pm_155 ch6 tl7 nu8 le9 nx10 cmd11 pos12 rea13 cau14 xn_157 xt16 xp17 xr18 xw19 h0_159 h1_161 h2_163 h3_165 h4_167 ss170 bg171 kp27 ik28 pt172 st173 tx31 ln32 asd33 att34 dn35 td36 fo37 nb38 _ _ _ hP hS (lv_sub hl [0, 1, 2, 3] rfl) h
          · replace h := g_if hc175 h
            refine lv_iconst (v := (0 : Int32)) hx hb dL_law_256 (by decide) ?_
            exact absurd ((Option.some.inj h).trans hres) (by decide)
        replace h := g_if hk44 h
        by_cases hk45 : ((xs (v2).toNatClampNeg) &&& (31 : Int32)) = (4 : Int32)
        · replace h := g_it hk45 h
          refine lv_tableIn (tgt := 258) (off := 226) hx hb dL_law_32 (by rw [hk45]; decide) (by rw [hk45]; decide) (by rw [hk45]; rfl) (by decide) ?_
          refine lv_aload_n hx hb dL_law_258 rfl (lv_at hl 2 rfl) ?_
          refine lv_aload_n hx hb dL_law_259 rfl (lv_at hl 3 rfl) ?_
          refine lv_iload_n hx hb dL_law_260 rfl (lv_at hl 0 rfl) ?_
          refine lv_iconst (v := (1 : Int32)) hx hb dL_law_261 (by decide) ?_
          refine lv_iadd hx hb dL_law_262 ?_
          obtain ⟨hg177, h⟩ := gd_s h
          refine va_sld hx hb hX hbl hbA hS (inB_in hg177) dL_law_263 ?_
          refine lv_aload_n hx hb dL_law_264 rfl (lv_at hl 3 rfl) ?_
          refine lv_iload_n hx hb dL_law_265 rfl (lv_at hl 0 rfl) ?_
          refine lv_iconst (v := (2 : Int32)) hx hb dL_law_266 (by decide) ?_
          refine lv_iadd hx hb dL_law_267 ?_
          obtain ⟨hg178, h⟩ := gd_s h
          refine va_sld hx hb hX hbl hbA hS (inB_in hg178) dL_law_268 ?_
          obtain ⟨r179, lnn_181, pm_183, xn_185, h0_187, h1_189, h2_191, h3_193, h4_195, hc196, h⟩ := bd9_s h
          refine g_callBi (As := [.int (xs ((v2 + (1 : Int32))).toNatClampNeg), .int (xs ((v2 + (2 : Int32))).toNatClampNeg)]) (rest := []) (r := r179) (bs1 := [[(g0, .inr (6, [.ref (an 0), .ref (au 0), .ref (ap 0), .ref q0, .ref x0, .ref r0, .int ke3]))], [(q0, .inr (0, [.ref q1, .int lnn_181]))], wHa E q1 ba pm_183, wTx E x0 x1 x2 ch6 tl7 nu8 le9 nx10, [(r0, .inr (3, [.ref (ar 0), .ref (aw 0), .int cmd11, .int pos12, .int rea13, .int cau14]))], wHuT E an xn_185, wHuT E au xt16, wHuT E ap xp17, wHuT E ar xr18, wHuT E aw xw19, wHuT E (ba 0) h0_187, wHuT E (ba 1) h1_189, wHuT E (ba 2) h2_191, wHuT E (ba 3) h3_193, wHuT E (ba 4) h4_195, wMo E m0 m1 m2 m3 m4 m5 m6 m7 ss25 bg26 kp27 ik28 pt29 st30 tx31 ln32 asd33 att34 dn35 td36 fo37 nb38]) ⟨hx, hb, hml, hown, hts⟩ (kX6_storm E l g0 q0 q1 x0 x1 x2 r0 an au ap ar aw ba ke3 lnn4 pm5 ch6 tl7 nu8 le9 nx10 cmd11 pos12 rea13 cau14 xn15 xt16 xp17 xr18 xw19 h20 h21 h22 h23 h24 (xs ((v2 + (1 : Int32))).toNatClampNeg) (xs ((v2 + (2 : Int32))).toNatClampNeg) (r179, lnn_181, pm_183, xn_185, h0_187, h1_189, h2_191, h3_193, h4_195) hc196) (cwV 2 hts gL_law_X6_storm rfl rfl rfl (by decide +kernel) ⟨Nat.le_of_ble_eq_true rfl, Nat.le_of_ble_eq_true rfl⟩) hK hP hD hS hA hG hl [0, 1, 2, 3, 4, 5, 6, 7, 8, 9, 10, 11, 12, 13, 14] 0 0 (by decide) rfl (ci := 6) rfl rfl rfl rfl rfl rfl rfl rfl rfl rfl (Nat.le_of_ble_eq_true rfl) dL_law_269 (Nat.le_of_ble_eq_true rfl) (Nat.le_of_ble_eq_true rfl) (fun H locs hP hD hS => ?_)
          refine lv_aload_n hx hb dL_law_272 rfl (lv_at hl 1 rfl) ?_
          refine lv_aload_n hx hb dL_law_273 rfl (lv_at hl 3 rfl) ?_
          refine lv_iload_n hx hb dL_law_274 rfl (lv_at hl 0 rfl) ?_
          refine lv_iconst (v := (1 : Int32)) hx hb dL_law_275 (by decide) ?_
          refine lv_iadd hx hb dL_law_276 ?_
          refine va_sld hx hb hX hbl hbA hS (inB_in hg177) dL_law_277 ?_
          refine lv_aload_n hx hb dL_law_278 rfl (lv_at hl 3 rfl) ?_
          refine lv_iload_n hx hb dL_law_279 rfl (lv_at hl 0 rfl) ?_
          refine lv_iconst (v := (2 : Int32)) hx hb dL_law_280 (by decide) ?_
          refine lv_iadd hx hb dL_law_281 ?_
          refine va_sld hx hb hX hbl hbA hS (inB_in hg178) dL_law_282 ?_
          obtain ⟨r197, ss198, bg199, pt200, st201, hc202, h⟩ := bd5_s h
          refine g_call1i (As := [.int (xs ((v2 + (1 : Int32))).toNatClampNeg), .int (xs ((v2 + (2 : Int32))).toNatClampNeg)]) (rest := [.int r179]) (r := r197) (bs1 := [[(g0, .inr (6, [.ref (an 0), .ref (au 0), .ref (ap 0), .ref q0, .ref x0, .ref r0, .int ke3]))], [(q0, .inr (0, [.ref q1, .int lnn_181]))], wHa E q1 ba pm_183, wTx E x0 x1 x2 ch6 tl7 nu8 le9 nx10, [(r0, .inr (3, [.ref (ar 0), .ref (aw 0), .int cmd11, .int pos12, .int rea13, .int cau14]))], wHuT E an xn_185, wHuT E au xt16, wHuT E ap xp17, wHuT E ar xr18, wHuT E aw xw19, wHuT E (ba 0) h0_187, wHuT E (ba 1) h1_189, wHuT E (ba 2) h2_191, wHuT E (ba 3) h3_193, wHuT E (ba 4) h4_195, wMo E m0 m1 m2 m3 m4 m5 m6 m7 ss198 bg199 kp27 ik28 pt200 st201 tx31 ln32 asd33 att34 dn35 td36 fo37 nb38]) ⟨hx, hb, hml, hown, hts⟩ (kX7_storm E l m0 m1 m2 m3 m4 m5 m6 m7 ss25 bg26 kp27 ik28 pt29 st30 tx31 ln32 asd33 att34 dn35 td36 fo37 nb38 (xs ((v2 + (1 : Int32))).toNatClampNeg) (xs ((v2 + (2 : Int32))).toNatClampNeg) (r197, ss198, bg199, pt200, st201) hc202) (cwV 2 hts gL_law_X7_storm rfl rfl rfl (by decide +kernel) ⟨Nat.le_of_ble_eq_true rfl, Nat.le_of_ble_eq_true rfl⟩) hK hP hD hS hA hG hl 15 0 (ci := 7) rfl rfl rfl rfl rfl rfl rfl rfl rfl (Nat.le_of_ble_eq_true rfl) dL_law_283 (Nat.le_of_ble_eq_true rfl) (Nat.le_of_ble_eq_true rfl) (fun H locs hP hD hS => ?_)
          refine lv_icmp_eq (tgt := 692) hx hb dL_law_286 (by decide) (fun hc203 => ?_) (fun hc203 => ?_)
          · replace h := g_it hc203 h
            obtain ⟨v204, e_v204⟩ : ∃ y : Int32, y = (v2 + (4 : Int32)) := ⟨_, rfl⟩
            replace h := jl_s e_v204 h
            refine lv_iinc (v := v204) (lv' := [(3, .int v204), (2, .ref m0), (1, .ref g0), (0, .ref b)]) hx hb dL_law_692 hl (k := 0) rfl (by rw [e_v204]; rfl) (by decide) rfl (fun ls hl => ?_)
            refine lv_goto (tgt := 18) hx hb dL_law_695 (by decide) ?_
            exact ih_rec1 v204 ke3 lnn_181 pm_183 ch6 tl7 nu8 le9 nx10 cmd11 pos12 rea13 cau14 xn_185 xt16 xp17 xr18 xw19 h0_187 h1_189 h2_191 h3_193 h4_195 ss198 bg199 kp27 ik28 pt200 st201 tx31 ln32 asd33 att34 dn35 td36 fo37 nb38 _ _ _ hP hS (lv_sub hl [0, 1, 2, 3] rfl) h
          · replace h := g_if hc203 h
            refine lv_iconst (v := (0 : Int32)) hx hb dL_law_289 (by decide) ?_
            exact absurd ((Option.some.inj h).trans hres) (by decide)
        replace h := g_if hk45 h
        by_cases hk46 : ((xs (v2).toNatClampNeg) &&& (31 : Int32)) = (5 : Int32)
        · replace h := g_it hk46 h
          refine lv_tableIn (tgt := 291) (off := 259) hx hb dL_law_32 (by rw [hk46]; decide) (by rw [hk46]; decide) (by rw [hk46]; rfl) (by decide) ?_
          refine lv_aload_n hx hb dL_law_291 rfl (lv_at hl 2 rfl) ?_
          refine lv_aload_n hx hb dL_law_292 rfl (lv_at hl 3 rfl) ?_
          refine lv_iload_n hx hb dL_law_293 rfl (lv_at hl 0 rfl) ?_
          refine lv_iconst (v := (1 : Int32)) hx hb dL_law_294 (by decide) ?_
          refine lv_iadd hx hb dL_law_295 ?_
          obtain ⟨hg205, h⟩ := gd_s h
          refine va_sld hx hb hX hbl hbA hS (inB_in hg205) dL_law_296 ?_
          obtain ⟨r206, lnn_208, pm_210, xn_212, h0_214, h1_216, h2_218, h3_220, h4_222, hc223, h⟩ := bd9_s h
          refine g_callBi (As := [.int (xs ((v2 + (1 : Int32))).toNatClampNeg)]) (rest := []) (r := r206) (bs1 := [[(g0, .inr (6, [.ref (an 0), .ref (au 0), .ref (ap 0), .ref q0, .ref x0, .ref r0, .int ke3]))], [(q0, .inr (0, [.ref q1, .int lnn_208]))], wHa E q1 ba pm_210, wTx E x0 x1 x2 ch6 tl7 nu8 le9 nx10, [(r0, .inr (3, [.ref (ar 0), .ref (aw 0), .int cmd11, .int pos12, .int rea13, .int cau14]))], wHuT E an xn_212, wHuT E au xt16, wHuT E ap xp17, wHuT E ar xr18, wHuT E aw xw19, wHuT E (ba 0) h0_214, wHuT E (ba 1) h1_216, wHuT E (ba 2) h2_218, wHuT E (ba 3) h3_220, wHuT E (ba 4) h4_222, wMo E m0 m1 m2 m3 m4 m5 m6 m7 ss25 bg26 kp27 ik28 pt29 st30 tx31 ln32 asd33 att34 dn35 td36 fo37 nb38]) ⟨hx, hb, hml, hown, hts⟩ (kX6_clear E l g0 q0 q1 x0 x1 x2 r0 an au ap ar aw ba ke3 lnn4 pm5 ch6 tl7 nu8 le9 nx10 cmd11 pos12 rea13 cau14 xn15 xt16 xp17 xr18 xw19 h20 h21 h22 h23 h24 (xs ((v2 + (1 : Int32))).toNatClampNeg) (r206, lnn_208, pm_210, xn_212, h0_214, h1_216, h2_218, h3_220, h4_222) hc223) (cwV 1 hts gL_law_X6_clear rfl rfl rfl (by decide +kernel) ⟨Nat.le_of_ble_eq_true rfl, Nat.le_of_ble_eq_true rfl⟩) hK hP hD hS hA hG hl [0, 1, 2, 3, 4, 5, 6, 7, 8, 9, 10, 11, 12, 13, 14] 0 0 (by decide) rfl (ci := 6) rfl rfl rfl rfl rfl rfl rfl rfl rfl rfl (Nat.le_of_ble_eq_true rfl) dL_law_297 (Nat.le_of_ble_eq_true rfl) (Nat.le_of_ble_eq_true rfl) (fun H locs hP hD hS => ?_)
          refine lv_aload_n hx hb dL_law_300 rfl (lv_at hl 1 rfl) ?_
          refine lv_aload_n hx hb dL_law_301 rfl (lv_at hl 3 rfl) ?_
          refine lv_iload_n hx hb dL_law_302 rfl (lv_at hl 0 rfl) ?_
          refine lv_iconst (v := (1 : Int32)) hx hb dL_law_303 (by decide) ?_
          refine lv_iadd hx hb dL_law_304 ?_
          refine va_sld hx hb hX hbl hbA hS (inB_in hg205) dL_law_305 ?_
          obtain ⟨r224, ss225, bg226, pt227, st228, hc229, h⟩ := bd5_s h
          refine g_call1i (As := [.int (xs ((v2 + (1 : Int32))).toNatClampNeg)]) (rest := [.int r206]) (r := r224) (bs1 := [[(g0, .inr (6, [.ref (an 0), .ref (au 0), .ref (ap 0), .ref q0, .ref x0, .ref r0, .int ke3]))], [(q0, .inr (0, [.ref q1, .int lnn_208]))], wHa E q1 ba pm_210, wTx E x0 x1 x2 ch6 tl7 nu8 le9 nx10, [(r0, .inr (3, [.ref (ar 0), .ref (aw 0), .int cmd11, .int pos12, .int rea13, .int cau14]))], wHuT E an xn_212, wHuT E au xt16, wHuT E ap xp17, wHuT E ar xr18, wHuT E aw xw19, wHuT E (ba 0) h0_214, wHuT E (ba 1) h1_216, wHuT E (ba 2) h2_218, wHuT E (ba 3) h3_220, wHuT E (ba 4) h4_222, wMo E m0 m1 m2 m3 m4 m5 m6 m7 ss225 bg226 kp27 ik28 pt227 st228 tx31 ln32 asd33 att34 dn35 td36 fo37 nb38]) ⟨hx, hb, hml, hown, hts⟩ (kX7_clear E l m0 m1 m2 m3 m4 m5 m6 m7 ss25 bg26 kp27 ik28 pt29 st30 tx31 ln32 asd33 att34 dn35 td36 fo37 nb38 (xs ((v2 + (1 : Int32))).toNatClampNeg) (r224, ss225, bg226, pt227, st228) hc229) (cwV 1 hts gL_law_X7_clear rfl rfl rfl (by decide +kernel) ⟨Nat.le_of_ble_eq_true rfl, Nat.le_of_ble_eq_true rfl⟩) hK hP hD hS hA hG hl 15 0 (ci := 7) rfl rfl rfl rfl rfl rfl rfl rfl rfl (Nat.le_of_ble_eq_true rfl) dL_law_306 (Nat.le_of_ble_eq_true rfl) (Nat.le_of_ble_eq_true rfl) (fun H locs hP hD hS => ?_)
          refine lv_icmp_eq (tgt := 692) hx hb dL_law_309 (by decide) (fun hc230 => ?_) (fun hc230 => ?_)
          · replace h := g_it hc230 h
            obtain ⟨v231, e_v231⟩ : ∃ y : Int32, y = (v2 + (4 : Int32)) := ⟨_, rfl⟩
            replace h := jl_s e_v231 h
            refine lv_iinc (v := v231) (lv' := [(3, .int v231), (2, .ref m0), (1, .ref g0), (0, .ref b)]) hx hb dL_law_692 hl (k := 0) rfl (by rw [e_v231]; rfl) (by decide) rfl (fun ls hl => ?_)
            refine lv_goto (tgt := 18) hx hb dL_law_695 (by decide) ?_
            exact ih_rec1 v231 ke3 lnn_208 pm_210 ch6 tl7 nu8 le9 nx10 cmd11 pos12 rea13 cau14 xn_212 xt16 xp17 xr18 xw19 h0_214 h1_216 h2_218 h3_220 h4_222 ss225 bg226 kp27 ik28 pt227 st228 tx31 ln32 asd33 att34 dn35 td36 fo37 nb38 _ _ _ hP hS (lv_sub hl [0, 1, 2, 3] rfl) h
          · replace h := g_if hc230 h
            refine lv_iconst (v := (0 : Int32)) hx hb dL_law_312 (by decide) ?_
            exact absurd ((Option.some.inj h).trans hres) (by decide)
        replace h := g_if hk46 h
        by_cases hk47 : ((xs (v2).toNatClampNeg) &&& (31 : Int32)) = (6 : Int32)
        · replace h := g_it hk47 h
          refine lv_tableIn (tgt := 314) (off := 282) hx hb dL_law_32 (by rw [hk47]; decide) (by rw [hk47]; decide) (by rw [hk47]; rfl) (by decide) ?_
          refine lv_aload_n hx hb dL_law_314 rfl (lv_at hl 2 rfl) ?_
          refine lv_aload_n hx hb dL_law_315 rfl (lv_at hl 3 rfl) ?_
          refine lv_iload_n hx hb dL_law_316 rfl (lv_at hl 0 rfl) ?_
          refine lv_iconst (v := (1 : Int32)) hx hb dL_law_317 (by decide) ?_
          refine lv_iadd hx hb dL_law_318 ?_
          obtain ⟨hg232, h⟩ := gd_s h
          refine va_sld hx hb hX hbl hbA hS (inB_in hg232) dL_law_319 ?_
          obtain ⟨r233, lnn_235, pm_237, xn_239, h0_241, h1_243, h2_245, h3_247, h4_249, hc250, h⟩ := bd9_s h
          refine g_callBi (As := [.int (xs ((v2 + (1 : Int32))).toNatClampNeg)]) (rest := []) (r := r233) (bs1 := [[(g0, .inr (6, [.ref (an 0), .ref (au 0), .ref (ap 0), .ref q0, .ref x0, .ref r0, .int ke3]))], [(q0, .inr (0, [.ref q1, .int lnn_235]))], wHa E q1 ba pm_237, wTx E x0 x1 x2 ch6 tl7 nu8 le9 nx10, [(r0, .inr (3, [.ref (ar 0), .ref (aw 0), .int cmd11, .int pos12, .int rea13, .int cau14]))], wHuT E an xn_239, wHuT E au xt16, wHuT E ap xp17, wHuT E ar xr18, wHuT E aw xw19, wHuT E (ba 0) h0_241, wHuT E (ba 1) h1_243, wHuT E (ba 2) h2_245, wHuT E (ba 3) h3_247, wHuT E (ba 4) h4_249, wMo E m0 m1 m2 m3 m4 m5 m6 m7 ss25 bg26 kp27 ik28 pt29 st30 tx31 ln32 asd33 att34 dn35 td36 fo37 nb38]) ⟨hx, hb, hml, hown, hts⟩ (kX6_sleep E l g0 q0 q1 x0 x1 x2 r0 an au ap ar aw ba ke3 lnn4 pm5 ch6 tl7 nu8 le9 nx10 cmd11 pos12 rea13 cau14 xn15 xt16 xp17 xr18 xw19 h20 h21 h22 h23 h24 (xs ((v2 + (1 : Int32))).toNatClampNeg) (r233, lnn_235, pm_237, xn_239, h0_241, h1_243, h2_245, h3_247, h4_249) hc250) (cwV 1 hts gL_law_X6_sleep rfl rfl rfl (by decide +kernel) ⟨Nat.le_of_ble_eq_true rfl, Nat.le_of_ble_eq_true rfl⟩) hK hP hD hS hA hG hl [0, 1, 2, 3, 4, 5, 6, 7, 8, 9, 10, 11, 12, 13, 14] 0 0 (by decide) rfl (ci := 6) rfl rfl rfl rfl rfl rfl rfl rfl rfl rfl (Nat.le_of_ble_eq_true rfl) dL_law_320 (Nat.le_of_ble_eq_true rfl) (Nat.le_of_ble_eq_true rfl) (fun H locs hP hD hS => ?_)
          refine lv_aload_n hx hb dL_law_323 rfl (lv_at hl 1 rfl) ?_
          refine lv_aload_n hx hb dL_law_324 rfl (lv_at hl 3 rfl) ?_
          refine lv_iload_n hx hb dL_law_325 rfl (lv_at hl 0 rfl) ?_
          refine lv_iconst (v := (1 : Int32)) hx hb dL_law_326 (by decide) ?_
          refine lv_iadd hx hb dL_law_327 ?_
          refine va_sld hx hb hX hbl hbA hS (inB_in hg232) dL_law_328 ?_
          obtain ⟨r251, ss252, bg253, pt254, st255, hc256, h⟩ := bd5_s h
          refine g_call1i (As := [.int (xs ((v2 + (1 : Int32))).toNatClampNeg)]) (rest := [.int r233]) (r := r251) (bs1 := [[(g0, .inr (6, [.ref (an 0), .ref (au 0), .ref (ap 0), .ref q0, .ref x0, .ref r0, .int ke3]))], [(q0, .inr (0, [.ref q1, .int lnn_235]))], wHa E q1 ba pm_237, wTx E x0 x1 x2 ch6 tl7 nu8 le9 nx10, [(r0, .inr (3, [.ref (ar 0), .ref (aw 0), .int cmd11, .int pos12, .int rea13, .int cau14]))], wHuT E an xn_239, wHuT E au xt16, wHuT E ap xp17, wHuT E ar xr18, wHuT E aw xw19, wHuT E (ba 0) h0_241, wHuT E (ba 1) h1_243, wHuT E (ba 2) h2_245, wHuT E (ba 3) h3_247, wHuT E (ba 4) h4_249, wMo E m0 m1 m2 m3 m4 m5 m6 m7 ss252 bg253 kp27 ik28 pt254 st255 tx31 ln32 asd33 att34 dn35 td36 fo37 nb38]) ⟨hx, hb, hml, hown, hts⟩ (kX7_sleep E l m0 m1 m2 m3 m4 m5 m6 m7 ss25 bg26 kp27 ik28 pt29 st30 tx31 ln32 asd33 att34 dn35 td36 fo37 nb38 (xs ((v2 + (1 : Int32))).toNatClampNeg) (r251, ss252, bg253, pt254, st255) hc256) (cwV 1 hts gL_law_X7_sleep rfl rfl rfl (by decide +kernel) ⟨Nat.le_of_ble_eq_true rfl, Nat.le_of_ble_eq_true rfl⟩) hK hP hD hS hA hG hl 15 0 (ci := 7) rfl rfl rfl rfl rfl rfl rfl rfl rfl (Nat.le_of_ble_eq_true rfl) dL_law_329 (Nat.le_of_ble_eq_true rfl) (Nat.le_of_ble_eq_true rfl) (fun H locs hP hD hS => ?_)
          refine lv_icmp_eq (tgt := 692) hx hb dL_law_332 (by decide) (fun hc257 => ?_) (fun hc257 => ?_)
          · replace h := g_it hc257 h
            obtain ⟨v258, e_v258⟩ : ∃ y : Int32, y = (v2 + (4 : Int32)) := ⟨_, rfl⟩
            replace h := jl_s e_v258 h
            refine lv_iinc (v := v258) (lv' := [(3, .int v258), (2, .ref m0), (1, .ref g0), (0, .ref b)]) hx hb dL_law_692 hl (k := 0) rfl (by rw [e_v258]; rfl) (by decide) rfl (fun ls hl => ?_)
            refine lv_goto (tgt := 18) hx hb dL_law_695 (by decide) ?_
            exact ih_rec1 v258 ke3 lnn_235 pm_237 ch6 tl7 nu8 le9 nx10 cmd11 pos12 rea13 cau14 xn_239 xt16 xp17 xr18 xw19 h0_241 h1_243 h2_245 h3_247 h4_249 ss252 bg253 kp27 ik28 pt254 st255 tx31 ln32 asd33 att34 dn35 td36 fo37 nb38 _ _ _ hP hS (lv_sub hl [0, 1, 2, 3] rfl) h
          · replace h := g_if hc257 h
            refine lv_iconst (v := (0 : Int32)) hx hb dL_law_335 (by decide) ?_
            exact absurd ((Option.some.inj h).trans hres) (by decide)
        replace h := g_if hk47 h
        by_cases hk48 : ((xs (v2).toNatClampNeg) &&& (31 : Int32)) = (7 : Int32)
        · replace h := g_it hk48 h
          refine lv_tableIn (tgt := 337) (off := 305) hx hb dL_law_32 (by rw [hk48]; decide) (by rw [hk48]; decide) (by rw [hk48]; rfl) (by decide) ?_
          refine lv_aload_n hx hb dL_law_337 rfl (lv_at hl 2 rfl) ?_
          refine lv_aload_n hx hb dL_law_338 rfl (lv_at hl 3 rfl) ?_
          refine lv_iload_n hx hb dL_law_339 rfl (lv_at hl 0 rfl) ?_
          refine lv_iconst (v := (1 : Int32)) hx hb dL_law_340 (by decide) ?_
          refine lv_iadd hx hb dL_law_341 ?_
          obtain ⟨hg259, h⟩ := gd_s h
          refine va_sld hx hb hX hbl hbA hS (inB_in hg259) dL_law_342 ?_
          refine lv_aload_n hx hb dL_law_343 rfl (lv_at hl 3 rfl) ?_
          refine lv_iload_n hx hb dL_law_344 rfl (lv_at hl 0 rfl) ?_
          refine lv_iconst (v := (2 : Int32)) hx hb dL_law_345 (by decide) ?_
          refine lv_iadd hx hb dL_law_346 ?_
          obtain ⟨hg260, h⟩ := gd_s h
          refine va_sld hx hb hX hbl hbA hS (inB_in hg260) dL_law_347 ?_
          obtain ⟨r261, lnn_263, pm_265, xn_267, h0_269, h1_271, h2_273, h3_275, h4_277, hc278, h⟩ := bd9_s h
          refine g_callBi (As := [.int (xs ((v2 + (1 : Int32))).toNatClampNeg), .int (xs ((v2 + (2 : Int32))).toNatClampNeg)]) (rest := []) (r := r261) (bs1 := [[(g0, .inr (6, [.ref (an 0), .ref (au 0), .ref (ap 0), .ref q0, .ref x0, .ref r0, .int ke3]))], [(q0, .inr (0, [.ref q1, .int lnn_263]))], wHa E q1 ba pm_265, wTx E x0 x1 x2 ch6 tl7 nu8 le9 nx10, [(r0, .inr (3, [.ref (ar 0), .ref (aw 0), .int cmd11, .int pos12, .int rea13, .int cau14]))], wHuT E an xn_267, wHuT E au xt16, wHuT E ap xp17, wHuT E ar xr18, wHuT E aw xw19, wHuT E (ba 0) h0_269, wHuT E (ba 1) h1_271, wHuT E (ba 2) h2_273, wHuT E (ba 3) h3_275, wHuT E (ba 4) h4_277, wMo E m0 m1 m2 m3 m4 m5 m6 m7 ss25 bg26 kp27 ik28 pt29 st30 tx31 ln32 asd33 att34 dn35 td36 fo37 nb38]) ⟨hx, hb, hml, hown, hts⟩ (kX6_set E l g0 q0 q1 x0 x1 x2 r0 an au ap ar aw ba ke3 lnn4 pm5 ch6 tl7 nu8 le9 nx10 cmd11 pos12 rea13 cau14 xn15 xt16 xp17 xr18 xw19 h20 h21 h22 h23 h24 (xs ((v2 + (1 : Int32))).toNatClampNeg) (xs ((v2 + (2 : Int32))).toNatClampNeg) (r261, lnn_263, pm_265, xn_267, h0_269, h1_271, h2_273, h3_275, h4_277) hc278) (cwV 2 hts gL_law_X6_set rfl rfl rfl (by decide +kernel) ⟨Nat.le_of_ble_eq_true rfl, Nat.le_of_ble_eq_true rfl⟩) hK hP hD hS hA hG hl [0, 1, 2, 3, 4, 5, 6, 7, 8, 9, 10, 11, 12, 13, 14] 0 0 (by decide) rfl (ci := 6) rfl rfl rfl rfl rfl rfl rfl rfl rfl rfl (Nat.le_of_ble_eq_true rfl) dL_law_348 (Nat.le_of_ble_eq_true rfl) (Nat.le_of_ble_eq_true rfl) (fun H locs hP hD hS => ?_)
          refine lv_aload_n hx hb dL_law_351 rfl (lv_at hl 1 rfl) ?_
          refine lv_aload_n hx hb dL_law_352 rfl (lv_at hl 3 rfl) ?_
          refine lv_iload_n hx hb dL_law_353 rfl (lv_at hl 0 rfl) ?_
          refine lv_iconst (v := (1 : Int32)) hx hb dL_law_354 (by decide) ?_
          refine lv_iadd hx hb dL_law_355 ?_
          refine va_sld hx hb hX hbl hbA hS (inB_in hg259) dL_law_356 ?_
          refine lv_aload_n hx hb dL_law_357 rfl (lv_at hl 3 rfl) ?_
          refine lv_iload_n hx hb dL_law_358 rfl (lv_at hl 0 rfl) ?_
          refine lv_iconst (v := (2 : Int32)) hx hb dL_law_359 (by decide) ?_
          refine lv_iadd hx hb dL_law_360 ?_
          refine va_sld hx hb hX hbl hbA hS (inB_in hg260) dL_law_361 ?_
          obtain ⟨r279, ss280, bg281, pt282, st283, hc284, h⟩ := bd5_s h
          refine g_call1i (As := [.int (xs ((v2 + (1 : Int32))).toNatClampNeg), .int (xs ((v2 + (2 : Int32))).toNatClampNeg)]) (rest := [.int r261]) (r := r279) (bs1 := [[(g0, .inr (6, [.ref (an 0), .ref (au 0), .ref (ap 0), .ref q0, .ref x0, .ref r0, .int ke3]))], [(q0, .inr (0, [.ref q1, .int lnn_263]))], wHa E q1 ba pm_265, wTx E x0 x1 x2 ch6 tl7 nu8 le9 nx10, [(r0, .inr (3, [.ref (ar 0), .ref (aw 0), .int cmd11, .int pos12, .int rea13, .int cau14]))], wHuT E an xn_267, wHuT E au xt16, wHuT E ap xp17, wHuT E ar xr18, wHuT E aw xw19, wHuT E (ba 0) h0_269, wHuT E (ba 1) h1_271, wHuT E (ba 2) h2_273, wHuT E (ba 3) h3_275, wHuT E (ba 4) h4_277, wMo E m0 m1 m2 m3 m4 m5 m6 m7 ss280 bg281 kp27 ik28 pt282 st283 tx31 ln32 asd33 att34 dn35 td36 fo37 nb38]) ⟨hx, hb, hml, hown, hts⟩ (kX7_set E l m0 m1 m2 m3 m4 m5 m6 m7 ss25 bg26 kp27 ik28 pt29 st30 tx31 ln32 asd33 att34 dn35 td36 fo37 nb38 (xs ((v2 + (1 : Int32))).toNatClampNeg) (xs ((v2 + (2 : Int32))).toNatClampNeg) (r279, ss280, bg281, pt282, st283) hc284) (cwV 2 hts gL_law_X7_set rfl rfl rfl (by decide +kernel) ⟨Nat.le_of_ble_eq_true rfl, Nat.le_of_ble_eq_true rfl⟩) hK hP hD hS hA hG hl 15 0 (ci := 7) rfl rfl rfl rfl rfl rfl rfl rfl rfl (Nat.le_of_ble_eq_true rfl) dL_law_362 (Nat.le_of_ble_eq_true rfl) (Nat.le_of_ble_eq_true rfl) (fun H locs hP hD hS => ?_)
          refine lv_icmp_eq (tgt := 692) hx hb dL_law_365 (by decide) (fun hc285 => ?_) (fun hc285 => ?_)
          · replace h := g_it hc285 h
            obtain ⟨v286, e_v286⟩ : ∃ y : Int32, y = (v2 + (4 : Int32)) := ⟨_, rfl⟩
            replace h := jl_s e_v286 h
            refine lv_iinc (v := v286) (lv' := [(3, .int v286), (2, .ref m0), (1, .ref g0), (0, .ref b)]) hx hb dL_law_692 hl (k := 0) rfl (by rw [e_v286]; rfl) (by decide) rfl (fun ls hl => ?_)
            refine lv_goto (tgt := 18) hx hb dL_law_695 (by decide) ?_
            exact ih_rec1 v286 ke3 lnn_263 pm_265 ch6 tl7 nu8 le9 nx10 cmd11 pos12 rea13 cau14 xn_267 xt16 xp17 xr18 xw19 h0_269 h1_271 h2_273 h3_275 h4_277 ss280 bg281 kp27 ik28 pt282 st283 tx31 ln32 asd33 att34 dn35 td36 fo37 nb38 _ _ _ hP hS (lv_sub hl [0, 1, 2, 3] rfl) h
          · replace h := g_if hc285 h
            refine lv_iconst (v := (0 : Int32)) hx hb dL_law_368 (by decide) ?_
            exact absurd ((Option.some.inj h).trans hres) (by decide)
        replace h := g_if hk48 h
        by_cases hk49 : ((xs (v2).toNatClampNeg) &&& (31 : Int32)) = (8 : Int32)
        · replace h := g_it hk49 h
          refine lv_tableIn (tgt := 370) (off := 338) hx hb dL_law_32 (by rw [hk49]; decide) (by rw [hk49]; decide) (by rw [hk49]; rfl) (by decide) ?_
          refine lv_aload_n hx hb dL_law_370 rfl (lv_at hl 2 rfl) ?_
          refine lv_aload_n hx hb dL_law_371 rfl (lv_at hl 3 rfl) ?_
          refine lv_iload_n hx hb dL_law_372 rfl (lv_at hl 0 rfl) ?_
          refine lv_iconst (v := (1 : Int32)) hx hb dL_law_373 (by decide) ?_
          refine lv_iadd hx hb dL_law_374 ?_
          obtain ⟨hg287, h⟩ := gd_s h
          refine va_sld hx hb hX hbl hbA hS (inB_in hg287) dL_law_375 ?_
          refine lv_aload_n hx hb dL_law_376 rfl (lv_at hl 3 rfl) ?_
          refine lv_iload_n hx hb dL_law_377 rfl (lv_at hl 0 rfl) ?_
          refine lv_iconst (v := (2 : Int32)) hx hb dL_law_378 (by decide) ?_
          refine lv_iadd hx hb dL_law_379 ?_
          obtain ⟨hg288, h⟩ := gd_s h
          refine va_sld hx hb hX hbl hbA hS (inB_in hg288) dL_law_380 ?_
          refine lv_aload_n hx hb dL_law_381 rfl (lv_at hl 3 rfl) ?_
          refine lv_iload_n hx hb dL_law_382 rfl (lv_at hl 0 rfl) ?_
          refine lv_iconst (v := (3 : Int32)) hx hb dL_law_383 (by decide) ?_
          refine lv_iadd hx hb dL_law_384 ?_
          obtain ⟨hg289, h⟩ := gd_s h
          refine va_sld hx hb hX hbl hbA hS (inB_in hg289) dL_law_385 ?_
          obtain ⟨r290, hc291, h⟩ := bd1_s h
          refine g_callBi (As := [.int (xs ((v2 + (1 : Int32))).toNatClampNeg), .int (xs ((v2 + (2 : Int32))).toNatClampNeg), .int (xs ((v2 + (3 : Int32))).toNatClampNeg)]) (rest := []) (r := r290) (bs1 := [[(g0, .inr (6, [.ref (an 0), .ref (au 0), .ref (ap 0), .ref q0, .ref x0, .ref r0, .int ke3]))], [(q0, .inr (0, [.ref q1, .int lnn4]))], wHa E q1 ba pm5, wTx E x0 x1 x2 ch6 tl7 nu8 le9 nx10, [(r0, .inr (3, [.ref (ar 0), .ref (aw 0), .int cmd11, .int pos12, .int rea13, .int cau14]))], wHuT E an xn15, wHuT E au xt16, wHuT E ap xp17, wHuT E ar xr18, wHuT E aw xw19, wHuT E (ba 0) h20, wHuT E (ba 1) h21, wHuT E (ba 2) h22, wHuT E (ba 3) h23, wHuT E (ba 4) h24, wMo E m0 m1 m2 m3 m4 m5 m6 m7 ss25 bg26 kp27 ik28 pt29 st30 tx31 ln32 asd33 att34 dn35 td36 fo37 nb38]) ⟨hx, hb, hml, hown, hts⟩ (kX6_lotOf E l g0 q0 q1 x0 x1 x2 r0 an au ap ar aw ba ke3 lnn4 pm5 ch6 tl7 nu8 le9 nx10 cmd11 pos12 rea13 cau14 xn15 xt16 xp17 xr18 xw19 h20 h21 h22 h23 h24 (xs ((v2 + (1 : Int32))).toNatClampNeg) (xs ((v2 + (2 : Int32))).toNatClampNeg) (xs ((v2 + (3 : Int32))).toNatClampNeg) r290 hc291) (cwV 3 hts gL_law_X6_lotOf rfl rfl rfl (by decide +kernel) ⟨Nat.le_of_ble_eq_true rfl, Nat.le_of_ble_eq_true rfl⟩) hK hP hD hS hA hG hl [0, 1, 2, 3, 4, 5, 6, 7, 8, 9, 10, 11, 12, 13, 14] 0 0 (by decide) rfl (ci := 6) rfl rfl rfl rfl rfl rfl rfl rfl rfl rfl (Nat.le_of_ble_eq_true rfl) dL_law_386 (Nat.le_of_ble_eq_true rfl) (Nat.le_of_ble_eq_true rfl) (fun H locs hP hD hS => ?_)
          refine lv_aload_n hx hb dL_law_389 rfl (lv_at hl 1 rfl) ?_
          refine lv_aload_n hx hb dL_law_390 rfl (lv_at hl 3 rfl) ?_
          refine lv_iload_n hx hb dL_law_391 rfl (lv_at hl 0 rfl) ?_
          refine lv_iconst (v := (1 : Int32)) hx hb dL_law_392 (by decide) ?_
          refine lv_iadd hx hb dL_law_393 ?_
          refine va_sld hx hb hX hbl hbA hS (inB_in hg287) dL_law_394 ?_
          refine lv_aload_n hx hb dL_law_395 rfl (lv_at hl 3 rfl) ?_
          refine lv_iload_n hx hb dL_law_396 rfl (lv_at hl 0 rfl) ?_
          refine lv_iconst (v := (2 : Int32)) hx hb dL_law_397 (by decide) ?_
          refine lv_iadd hx hb dL_law_398 ?_
          refine va_sld hx hb hX hbl hbA hS (inB_in hg288) dL_law_399 ?_
          refine lv_aload_n hx hb dL_law_400 rfl (lv_at hl 3 rfl) ?_
          refine lv_iload_n hx hb dL_law_401 rfl (lv_at hl 0 rfl) ?_
          refine lv_iconst (v := (3 : Int32)) hx hb dL_law_402 (by decide) ?_
          refine lv_iadd hx hb dL_law_403 ?_
          refine va_sld hx hb hX hbl hbA hS (inB_in hg289) dL_law_404 ?_
          obtain ⟨r292, hc293, h⟩ := bd1_s h
          refine g_call1i (As := [.int (xs ((v2 + (1 : Int32))).toNatClampNeg), .int (xs ((v2 + (2 : Int32))).toNatClampNeg), .int (xs ((v2 + (3 : Int32))).toNatClampNeg)]) (rest := [.int r290]) (r := r292) (bs1 := [[(g0, .inr (6, [.ref (an 0), .ref (au 0), .ref (ap 0), .ref q0, .ref x0, .ref r0, .int ke3]))], [(q0, .inr (0, [.ref q1, .int lnn4]))], wHa E q1 ba pm5, wTx E x0 x1 x2 ch6 tl7 nu8 le9 nx10, [(r0, .inr (3, [.ref (ar 0), .ref (aw 0), .int cmd11, .int pos12, .int rea13, .int cau14]))], wHuT E an xn15, wHuT E au xt16, wHuT E ap xp17, wHuT E ar xr18, wHuT E aw xw19, wHuT E (ba 0) h20, wHuT E (ba 1) h21, wHuT E (ba 2) h22, wHuT E (ba 3) h23, wHuT E (ba 4) h24, wMo E m0 m1 m2 m3 m4 m5 m6 m7 ss25 bg26 kp27 ik28 pt29 st30 tx31 ln32 asd33 att34 dn35 td36 fo37 nb38]) ⟨hx, hb, hml, hown, hts⟩ (kX7_lotOf E l m0 m1 m2 m3 m4 m5 m6 m7 ss25 bg26 kp27 ik28 pt29 st30 tx31 ln32 asd33 att34 dn35 td36 fo37 nb38 (xs ((v2 + (1 : Int32))).toNatClampNeg) (xs ((v2 + (2 : Int32))).toNatClampNeg) (xs ((v2 + (3 : Int32))).toNatClampNeg) r292 hc293) (cwV 3 hts gL_law_X7_lotOf rfl rfl rfl (by decide +kernel) ⟨Nat.le_of_ble_eq_true rfl, Nat.le_of_ble_eq_true rfl⟩) hK hP hD hS hA hG hl 15 0 (ci := 7) rfl rfl rfl rfl rfl rfl rfl rfl rfl (Nat.le_of_ble_eq_true rfl) dL_law_405 (Nat.le_of_ble_eq_true rfl) (Nat.le_of_ble_eq_true rfl) (fun H locs hP hD hS => ?_)
          refine lv_icmp_eq (tgt := 692) hx hb dL_law_408 (by decide) (fun hc294 => ?_) (fun hc294 => ?_)
          · replace h := g_it hc294 h
            obtain ⟨v295, e_v295⟩ : ∃ y : Int32, y = (v2 + (4 : Int32)) := ⟨_, rfl⟩
            replace h := jl_s e_v295 h
            refine lv_iinc (v := v295) (lv' := [(3, .int v295), (2, .ref m0), (1, .ref g0), (0, .ref b)]) hx hb dL_law_692 hl (k := 0) rfl (by rw [e_v295]; rfl) (by decide) rfl (fun ls hl => ?_)
            refine lv_goto (tgt := 18) hx hb dL_law_695 (by decide) ?_
            exact ih_rec1 v295 ke3 lnn4 pm5 ch6 tl7 nu8 le9 nx10 cmd11 pos12 rea13 cau14 xn15 xt16 xp17 xr18 xw19 h20 h21 h22 h23 h24 ss25 bg26 kp27 ik28 pt29 st30 tx31 ln32 asd33 att34 dn35 td36 fo37 nb38 _ _ _ hP hS (lv_sub hl [0, 1, 2, 3] rfl) h
          · replace h := g_if hc294 h
            refine lv_iconst (v := (0 : Int32)) hx hb dL_law_411 (by decide) ?_
            exact absurd ((Option.some.inj h).trans hres) (by decide)
        replace h := g_if hk49 h
        by_cases hk50 : ((xs (v2).toNatClampNeg) &&& (31 : Int32)) = (9 : Int32)
        · replace h := g_it hk50 h
          refine lv_tableIn (tgt := 413) (off := 381) hx hb dL_law_32 (by rw [hk50]; decide) (by rw [hk50]; decide) (by rw [hk50]; rfl) (by decide) ?_
          refine lv_aload_n hx hb dL_law_413 rfl (lv_at hl 2 rfl) ?_
          refine lv_aload_n hx hb dL_law_414 rfl (lv_at hl 3 rfl) ?_
          refine lv_iload_n hx hb dL_law_415 rfl (lv_at hl 0 rfl) ?_
          refine lv_iconst (v := (1 : Int32)) hx hb dL_law_416 (by decide) ?_
          refine lv_iadd hx hb dL_law_417 ?_
          obtain ⟨hg296, h⟩ := gd_s h
          refine va_sld hx hb hX hbl hbA hS (inB_in hg296) dL_law_418 ?_
          refine lv_aload_n hx hb dL_law_419 rfl (lv_at hl 3 rfl) ?_
          refine lv_iload_n hx hb dL_law_420 rfl (lv_at hl 0 rfl) ?_
          refine lv_iconst (v := (2 : Int32)) hx hb dL_law_421 (by decide) ?_
          refine lv_iadd hx hb dL_law_422 ?_
          obtain ⟨hg297, h⟩ := gd_s h
          refine va_sld hx hb hX hbl hbA hS (inB_in hg297) dL_law_423 ?_
          obtain ⟨r298, hc299, h⟩ := bd1_s h
          refine g_callBi (As := [.int (xs ((v2 + (1 : Int32))).toNatClampNeg), .int (xs ((v2 + (2 : Int32))).toNatClampNeg)]) (rest := []) (r := r298) (bs1 := [[(g0, .inr (6, [.ref (an 0), .ref (au 0), .ref (ap 0), .ref q0, .ref x0, .ref r0, .int ke3]))], [(q0, .inr (0, [.ref q1, .int lnn4]))], wHa E q1 ba pm5, wTx E x0 x1 x2 ch6 tl7 nu8 le9 nx10, [(r0, .inr (3, [.ref (ar 0), .ref (aw 0), .int cmd11, .int pos12, .int rea13, .int cau14]))], wHuT E an xn15, wHuT E au xt16, wHuT E ap xp17, wHuT E ar xr18, wHuT E aw xw19, wHuT E (ba 0) h20, wHuT E (ba 1) h21, wHuT E (ba 2) h22, wHuT E (ba 3) h23, wHuT E (ba 4) h24, wMo E m0 m1 m2 m3 m4 m5 m6 m7 ss25 bg26 kp27 ik28 pt29 st30 tx31 ln32 asd33 att34 dn35 td36 fo37 nb38]) ⟨hx, hb, hml, hown, hts⟩ (kX6_storeOf E l g0 q0 q1 x0 x1 x2 r0 an au ap ar aw ba ke3 lnn4 pm5 ch6 tl7 nu8 le9 nx10 cmd11 pos12 rea13 cau14 xn15 xt16 xp17 xr18 xw19 h20 h21 h22 h23 h24 (xs ((v2 + (1 : Int32))).toNatClampNeg) (xs ((v2 + (2 : Int32))).toNatClampNeg) r298 hc299) (cwV 2 hts gL_law_X6_storeOf rfl rfl rfl (by decide +kernel) ⟨Nat.le_of_ble_eq_true rfl, Nat.le_of_ble_eq_true rfl⟩) hK hP hD hS hA hG hl [0, 1, 2, 3, 4, 5, 6, 7, 8, 9, 10, 11, 12, 13, 14] 0 0 (by decide) rfl (ci := 6) rfl rfl rfl rfl rfl rfl rfl rfl rfl rfl (Nat.le_of_ble_eq_true rfl) dL_law_424 (Nat.le_of_ble_eq_true rfl) (Nat.le_of_ble_eq_true rfl) (fun H locs hP hD hS => ?_)
          refine lv_aload_n hx hb dL_law_427 rfl (lv_at hl 1 rfl) ?_
          refine lv_aload_n hx hb dL_law_428 rfl (lv_at hl 3 rfl) ?_
          refine lv_iload_n hx hb dL_law_429 rfl (lv_at hl 0 rfl) ?_
          refine lv_iconst (v := (1 : Int32)) hx hb dL_law_430 (by decide) ?_
          refine lv_iadd hx hb dL_law_431 ?_
          refine va_sld hx hb hX hbl hbA hS (inB_in hg296) dL_law_432 ?_
          refine lv_aload_n hx hb dL_law_433 rfl (lv_at hl 3 rfl) ?_
          refine lv_iload_n hx hb dL_law_434 rfl (lv_at hl 0 rfl) ?_
          refine lv_iconst (v := (2 : Int32)) hx hb dL_law_435 (by decide) ?_
          refine lv_iadd hx hb dL_law_436 ?_
          refine va_sld hx hb hX hbl hbA hS (inB_in hg297) dL_law_437 ?_
          obtain ⟨r300, hc301, h⟩ := bd1_s h
          refine g_call1i (As := [.int (xs ((v2 + (1 : Int32))).toNatClampNeg), .int (xs ((v2 + (2 : Int32))).toNatClampNeg)]) (rest := [.int r298]) (r := r300) (bs1 := [[(g0, .inr (6, [.ref (an 0), .ref (au 0), .ref (ap 0), .ref q0, .ref x0, .ref r0, .int ke3]))], [(q0, .inr (0, [.ref q1, .int lnn4]))], wHa E q1 ba pm5, wTx E x0 x1 x2 ch6 tl7 nu8 le9 nx10, [(r0, .inr (3, [.ref (ar 0), .ref (aw 0), .int cmd11, .int pos12, .int rea13, .int cau14]))], wHuT E an xn15, wHuT E au xt16, wHuT E ap xp17, wHuT E ar xr18, wHuT E aw xw19, wHuT E (ba 0) h20, wHuT E (ba 1) h21, wHuT E (ba 2) h22, wHuT E (ba 3) h23, wHuT E (ba 4) h24, wMo E m0 m1 m2 m3 m4 m5 m6 m7 ss25 bg26 kp27 ik28 pt29 st30 tx31 ln32 asd33 att34 dn35 td36 fo37 nb38]) ⟨hx, hb, hml, hown, hts⟩ (kX7_storeOf E l m0 m1 m2 m3 m4 m5 m6 m7 ss25 bg26 kp27 ik28 pt29 st30 tx31 ln32 asd33 att34 dn35 td36 fo37 nb38 (xs ((v2 + (1 : Int32))).toNatClampNeg) (xs ((v2 + (2 : Int32))).toNatClampNeg) r300 hc301) (cwV 2 hts gL_law_X7_storeOf rfl rfl rfl (by decide +kernel) ⟨Nat.le_of_ble_eq_true rfl, Nat.le_of_ble_eq_true rfl⟩) hK hP hD hS hA hG hl 15 0 (ci := 7) rfl rfl rfl rfl rfl rfl rfl rfl rfl (Nat.le_of_ble_eq_true rfl) dL_law_438 (Nat.le_of_ble_eq_true rfl) (Nat.le_of_ble_eq_true rfl) (fun H locs hP hD hS => ?_)
          refine lv_icmp_eq (tgt := 692) hx hb dL_law_441 (by decide) (fun hc302 => ?_) (fun hc302 => ?_)
          · replace h := g_it hc302 h
            obtain ⟨v303, e_v303⟩ : ∃ y : Int32, y = (v2 + (4 : Int32)) := ⟨_, rfl⟩
            replace h := jl_s e_v303 h
            refine lv_iinc (v := v303) (lv' := [(3, .int v303), (2, .ref m0), (1, .ref g0), (0, .ref b)]) hx hb dL_law_692 hl (k := 0) rfl (by rw [e_v303]; rfl) (by decide) rfl (fun ls hl => ?_)
            refine lv_goto (tgt := 18) hx hb dL_law_695 (by decide) ?_
            exact ih_rec1 v303 ke3 lnn4 pm5 ch6 tl7 nu8 le9 nx10 cmd11 pos12 rea13 cau14 xn15 xt16 xp17 xr18 xw19 h20 h21 h22 h23 h24 ss25 bg26 kp27 ik28 pt29 st30 tx31 ln32 asd33 att34 dn35 td36 fo37 nb38 _ _ _ hP hS (lv_sub hl [0, 1, 2, 3] rfl) h
          · replace h := g_if hc302 h
            refine lv_iconst (v := (0 : Int32)) hx hb dL_law_444 (by decide) ?_
            exact absurd ((Option.some.inj h).trans hres) (by decide)
        replace h := g_if hk50 h
        by_cases hk51 : ((xs (v2).toNatClampNeg) &&& (31 : Int32)) = (10 : Int32)
        · replace h := g_it hk51 h
          refine lv_tableIn (tgt := 446) (off := 414) hx hb dL_law_32 (by rw [hk51]; decide) (by rw [hk51]; decide) (by rw [hk51]; rfl) (by decide) ?_
          refine lv_aload_n hx hb dL_law_446 rfl (lv_at hl 2 rfl) ?_
          refine lv_aload_n hx hb dL_law_447 rfl (lv_at hl 3 rfl) ?_
          refine lv_iload_n hx hb dL_law_448 rfl (lv_at hl 0 rfl) ?_
          refine lv_iconst (v := (1 : Int32)) hx hb dL_law_449 (by decide) ?_
          refine lv_iadd hx hb dL_law_450 ?_
          obtain ⟨hg304, h⟩ := gd_s h
          refine va_sld hx hb hX hbl hbA hS (inB_in hg304) dL_law_451 ?_
          refine lv_aload_n hx hb dL_law_452 rfl (lv_at hl 3 rfl) ?_
          refine lv_iload_n hx hb dL_law_453 rfl (lv_at hl 0 rfl) ?_
          refine lv_iconst (v := (2 : Int32)) hx hb dL_law_454 (by decide) ?_
          refine lv_iadd hx hb dL_law_455 ?_
          obtain ⟨hg305, h⟩ := gd_s h
          refine va_sld hx hb hX hbl hbA hS (inB_in hg305) dL_law_456 ?_
          obtain ⟨r306, hc307, h⟩ := bd1_s h
          refine g_callBi (As := [.int (xs ((v2 + (1 : Int32))).toNatClampNeg), .int (xs ((v2 + (2 : Int32))).toNatClampNeg)]) (rest := []) (r := r306) (bs1 := [[(g0, .inr (6, [.ref (an 0), .ref (au 0), .ref (ap 0), .ref q0, .ref x0, .ref r0, .int ke3]))], [(q0, .inr (0, [.ref q1, .int lnn4]))], wHa E q1 ba pm5, wTx E x0 x1 x2 ch6 tl7 nu8 le9 nx10, [(r0, .inr (3, [.ref (ar 0), .ref (aw 0), .int cmd11, .int pos12, .int rea13, .int cau14]))], wHuT E an xn15, wHuT E au xt16, wHuT E ap xp17, wHuT E ar xr18, wHuT E aw xw19, wHuT E (ba 0) h20, wHuT E (ba 1) h21, wHuT E (ba 2) h22, wHuT E (ba 3) h23, wHuT E (ba 4) h24, wMo E m0 m1 m2 m3 m4 m5 m6 m7 ss25 bg26 kp27 ik28 pt29 st30 tx31 ln32 asd33 att34 dn35 td36 fo37 nb38]) ⟨hx, hb, hml, hown, hts⟩ (kX6_partyOf E l g0 q0 q1 x0 x1 x2 r0 an au ap ar aw ba ke3 lnn4 pm5 ch6 tl7 nu8 le9 nx10 cmd11 pos12 rea13 cau14 xn15 xt16 xp17 xr18 xw19 h20 h21 h22 h23 h24 (xs ((v2 + (1 : Int32))).toNatClampNeg) (xs ((v2 + (2 : Int32))).toNatClampNeg) r306 hc307) (cwV 2 hts gL_law_X6_partyOf rfl rfl rfl (by decide +kernel) ⟨Nat.le_of_ble_eq_true rfl, Nat.le_of_ble_eq_true rfl⟩) hK hP hD hS hA hG hl [0, 1, 2, 3, 4, 5, 6, 7, 8, 9, 10, 11, 12, 13, 14] 0 0 (by decide) rfl (ci := 6) rfl rfl rfl rfl rfl rfl rfl rfl rfl rfl (Nat.le_of_ble_eq_true rfl) dL_law_457 (Nat.le_of_ble_eq_true rfl) (Nat.le_of_ble_eq_true rfl) (fun H locs hP hD hS => ?_)
          refine lv_aload_n hx hb dL_law_460 rfl (lv_at hl 1 rfl) ?_
          refine lv_aload_n hx hb dL_law_461 rfl (lv_at hl 3 rfl) ?_
          refine lv_iload_n hx hb dL_law_462 rfl (lv_at hl 0 rfl) ?_
          refine lv_iconst (v := (1 : Int32)) hx hb dL_law_463 (by decide) ?_
          refine lv_iadd hx hb dL_law_464 ?_
          refine va_sld hx hb hX hbl hbA hS (inB_in hg304) dL_law_465 ?_
          refine lv_aload_n hx hb dL_law_466 rfl (lv_at hl 3 rfl) ?_
          refine lv_iload_n hx hb dL_law_467 rfl (lv_at hl 0 rfl) ?_
          refine lv_iconst (v := (2 : Int32)) hx hb dL_law_468 (by decide) ?_
          refine lv_iadd hx hb dL_law_469 ?_
          refine va_sld hx hb hX hbl hbA hS (inB_in hg305) dL_law_470 ?_
          obtain ⟨r308, hc309, h⟩ := bd1_s h
          refine g_call1i (As := [.int (xs ((v2 + (1 : Int32))).toNatClampNeg), .int (xs ((v2 + (2 : Int32))).toNatClampNeg)]) (rest := [.int r306]) (r := r308) (bs1 := [[(g0, .inr (6, [.ref (an 0), .ref (au 0), .ref (ap 0), .ref q0, .ref x0, .ref r0, .int ke3]))], [(q0, .inr (0, [.ref q1, .int lnn4]))], wHa E q1 ba pm5, wTx E x0 x1 x2 ch6 tl7 nu8 le9 nx10, [(r0, .inr (3, [.ref (ar 0), .ref (aw 0), .int cmd11, .int pos12, .int rea13, .int cau14]))], wHuT E an xn15, wHuT E au xt16, wHuT E ap xp17, wHuT E ar xr18, wHuT E aw xw19, wHuT E (ba 0) h20, wHuT E (ba 1) h21, wHuT E (ba 2) h22, wHuT E (ba 3) h23, wHuT E (ba 4) h24, wMo E m0 m1 m2 m3 m4 m5 m6 m7 ss25 bg26 kp27 ik28 pt29 st30 tx31 ln32 asd33 att34 dn35 td36 fo37 nb38]) ⟨hx, hb, hml, hown, hts⟩ (kX7_partyOf E l m0 m1 m2 m3 m4 m5 m6 m7 ss25 bg26 kp27 ik28 pt29 st30 tx31 ln32 asd33 att34 dn35 td36 fo37 nb38 (xs ((v2 + (1 : Int32))).toNatClampNeg) (xs ((v2 + (2 : Int32))).toNatClampNeg) r308 hc309) (cwV 2 hts gL_law_X7_partyOf rfl rfl rfl (by decide +kernel) ⟨Nat.le_of_ble_eq_true rfl, Nat.le_of_ble_eq_true rfl⟩) hK hP hD hS hA hG hl 15 0 (ci := 7) rfl rfl rfl rfl rfl rfl rfl rfl rfl (Nat.le_of_ble_eq_true rfl) dL_law_471 (Nat.le_of_ble_eq_true rfl) (Nat.le_of_ble_eq_true rfl) (fun H locs hP hD hS => ?_)
          refine lv_icmp_eq (tgt := 692) hx hb dL_law_474 (by decide) (fun hc310 => ?_) (fun hc310 => ?_)
          · replace h := g_it hc310 h
            obtain ⟨v311, e_v311⟩ : ∃ y : Int32, y = (v2 + (4 : Int32)) := ⟨_, rfl⟩
            replace h := jl_s e_v311 h
            refine lv_iinc (v := v311) (lv' := [(3, .int v311), (2, .ref m0), (1, .ref g0), (0, .ref b)]) hx hb dL_law_692 hl (k := 0) rfl (by rw [e_v311]; rfl) (by decide) rfl (fun ls hl => ?_)
            refine lv_goto (tgt := 18) hx hb dL_law_695 (by decide) ?_
            exact ih_rec1 v311 ke3 lnn4 pm5 ch6 tl7 nu8 le9 nx10 cmd11 pos12 rea13 cau14 xn15 xt16 xp17 xr18 xw19 h20 h21 h22 h23 h24 ss25 bg26 kp27 ik28 pt29 st30 tx31 ln32 asd33 att34 dn35 td36 fo37 nb38 _ _ _ hP hS (lv_sub hl [0, 1, 2, 3] rfl) h
          · replace h := g_if hc310 h
            refine lv_iconst (v := (0 : Int32)) hx hb dL_law_477 (by decide) ?_
            exact absurd ((Option.some.inj h).trans hres) (by decide)
        replace h := g_if hk51 h
        by_cases hk52 : ((xs (v2).toNatClampNeg) &&& (31 : Int32)) = (11 : Int32)
        · replace h := g_it hk52 h
          refine lv_tableIn (tgt := 479) (off := 447) hx hb dL_law_32 (by rw [hk52]; decide) (by rw [hk52]; decide) (by rw [hk52]; rfl) (by decide) ?_
          refine lv_aload_n hx hb dL_law_479 rfl (lv_at hl 2 rfl) ?_
          refine lv_aload_n hx hb dL_law_480 rfl (lv_at hl 3 rfl) ?_
          refine lv_iload_n hx hb dL_law_481 rfl (lv_at hl 0 rfl) ?_
          refine lv_iconst (v := (1 : Int32)) hx hb dL_law_482 (by decide) ?_
          refine lv_iadd hx hb dL_law_483 ?_
          obtain ⟨hg312, h⟩ := gd_s h
          refine va_sld hx hb hX hbl hbA hS (inB_in hg312) dL_law_484 ?_
          obtain ⟨r313, hc314, h⟩ := bd1_s h
          refine g_callBi (As := [.int (xs ((v2 + (1 : Int32))).toNatClampNeg)]) (rest := []) (r := r313) (bs1 := [[(g0, .inr (6, [.ref (an 0), .ref (au 0), .ref (ap 0), .ref q0, .ref x0, .ref r0, .int ke3]))], [(q0, .inr (0, [.ref q1, .int lnn4]))], wHa E q1 ba pm5, wTx E x0 x1 x2 ch6 tl7 nu8 le9 nx10, [(r0, .inr (3, [.ref (ar 0), .ref (aw 0), .int cmd11, .int pos12, .int rea13, .int cau14]))], wHuT E an xn15, wHuT E au xt16, wHuT E ap xp17, wHuT E ar xr18, wHuT E aw xw19, wHuT E (ba 0) h20, wHuT E (ba 1) h21, wHuT E (ba 2) h22, wHuT E (ba 3) h23, wHuT E (ba 4) h24, wMo E m0 m1 m2 m3 m4 m5 m6 m7 ss25 bg26 kp27 ik28 pt29 st30 tx31 ln32 asd33 att34 dn35 td36 fo37 nb38]) ⟨hx, hb, hml, hown, hts⟩ (kX6_count E l g0 q0 q1 x0 x1 x2 r0 an au ap ar aw ba ke3 lnn4 pm5 ch6 tl7 nu8 le9 nx10 cmd11 pos12 rea13 cau14 xn15 xt16 xp17 xr18 xw19 h20 h21 h22 h23 h24 (xs ((v2 + (1 : Int32))).toNatClampNeg) r313 hc314) (cwV 1 hts gL_law_X6_count rfl rfl rfl (by decide +kernel) ⟨Nat.le_of_ble_eq_true rfl, Nat.le_of_ble_eq_true rfl⟩) hK hP hD hS hA hG hl [0, 1, 2, 3, 4, 5, 6, 7, 8, 9, 10, 11, 12, 13, 14] 0 0 (by decide) rfl (ci := 6) rfl rfl rfl rfl rfl rfl rfl rfl rfl rfl (Nat.le_of_ble_eq_true rfl) dL_law_485 (Nat.le_of_ble_eq_true rfl) (Nat.le_of_ble_eq_true rfl) (fun H locs hP hD hS => ?_)
          refine lv_aload_n hx hb dL_law_488 rfl (lv_at hl 1 rfl) ?_
          refine lv_aload_n hx hb dL_law_489 rfl (lv_at hl 3 rfl) ?_
          refine lv_iload_n hx hb dL_law_490 rfl (lv_at hl 0 rfl) ?_
          refine lv_iconst (v := (1 : Int32)) hx hb dL_law_491 (by decide) ?_
          refine lv_iadd hx hb dL_law_492 ?_
          refine va_sld hx hb hX hbl hbA hS (inB_in hg312) dL_law_493 ?_
          obtain ⟨r315, hc316, h⟩ := bd1_s h
          refine g_call1i (As := [.int (xs ((v2 + (1 : Int32))).toNatClampNeg)]) (rest := [.int r313]) (r := r315) (bs1 := [[(g0, .inr (6, [.ref (an 0), .ref (au 0), .ref (ap 0), .ref q0, .ref x0, .ref r0, .int ke3]))], [(q0, .inr (0, [.ref q1, .int lnn4]))], wHa E q1 ba pm5, wTx E x0 x1 x2 ch6 tl7 nu8 le9 nx10, [(r0, .inr (3, [.ref (ar 0), .ref (aw 0), .int cmd11, .int pos12, .int rea13, .int cau14]))], wHuT E an xn15, wHuT E au xt16, wHuT E ap xp17, wHuT E ar xr18, wHuT E aw xw19, wHuT E (ba 0) h20, wHuT E (ba 1) h21, wHuT E (ba 2) h22, wHuT E (ba 3) h23, wHuT E (ba 4) h24, wMo E m0 m1 m2 m3 m4 m5 m6 m7 ss25 bg26 kp27 ik28 pt29 st30 tx31 ln32 asd33 att34 dn35 td36 fo37 nb38]) ⟨hx, hb, hml, hown, hts⟩ (kX7_count E l m0 m1 m2 m3 m4 m5 m6 m7 ss25 bg26 kp27 ik28 pt29 st30 tx31 ln32 asd33 att34 dn35 td36 fo37 nb38 (xs ((v2 + (1 : Int32))).toNatClampNeg) r315 hc316) (cwV 1 hts gL_law_X7_count rfl rfl rfl (by decide +kernel) ⟨Nat.le_of_ble_eq_true rfl, Nat.le_of_ble_eq_true rfl⟩) hK hP hD hS hA hG hl 15 0 (ci := 7) rfl rfl rfl rfl rfl rfl rfl rfl rfl (Nat.le_of_ble_eq_true rfl) dL_law_494 (Nat.le_of_ble_eq_true rfl) (Nat.le_of_ble_eq_true rfl) (fun H locs hP hD hS => ?_)
          refine lv_icmp_eq (tgt := 692) hx hb dL_law_497 (by decide) (fun hc317 => ?_) (fun hc317 => ?_)
          · replace h := g_it hc317 h
            obtain ⟨v318, e_v318⟩ : ∃ y : Int32, y = (v2 + (4 : Int32)) := ⟨_, rfl⟩
            replace h := jl_s e_v318 h
            refine lv_iinc (v := v318) (lv' := [(3, .int v318), (2, .ref m0), (1, .ref g0), (0, .ref b)]) hx hb dL_law_692 hl (k := 0) rfl (by rw [e_v318]; rfl) (by decide) rfl (fun ls hl => ?_)
            refine lv_goto (tgt := 18) hx hb dL_law_695 (by decide) ?_
            exact ih_rec1 v318 ke3 lnn4 pm5 ch6 tl7 nu8 le9 nx10 cmd11 pos12 rea13 cau14 xn15 xt16 xp17 xr18 xw19 h20 h21 h22 h23 h24 ss25 bg26 kp27 ik28 pt29 st30 tx31 ln32 asd33 att34 dn35 td36 fo37 nb38 _ _ _ hP hS (lv_sub hl [0, 1, 2, 3] rfl) h
          · replace h := g_if hc317 h
            refine lv_iconst (v := (0 : Int32)) hx hb dL_law_500 (by decide) ?_
            exact absurd ((Option.some.inj h).trans hres) (by decide)
        replace h := g_if hk52 h
        by_cases hk53 : ((xs (v2).toNatClampNeg) &&& (31 : Int32)) = (12 : Int32)
        · replace h := g_it hk53 h
          refine lv_tableIn (tgt := 502) (off := 470) hx hb dL_law_32 (by rw [hk53]; decide) (by rw [hk53]; decide) (by rw [hk53]; rfl) (by decide) ?_
          refine lv_aload_n hx hb dL_law_502 rfl (lv_at hl 2 rfl) ?_
          refine lv_aload_n hx hb dL_law_503 rfl (lv_at hl 3 rfl) ?_
          refine lv_iload_n hx hb dL_law_504 rfl (lv_at hl 0 rfl) ?_
          refine lv_iconst (v := (1 : Int32)) hx hb dL_law_505 (by decide) ?_
          refine lv_iadd hx hb dL_law_506 ?_
          obtain ⟨hg319, h⟩ := gd_s h
          refine va_sld hx hb hX hbl hbA hS (inB_in hg319) dL_law_507 ?_
          obtain ⟨r320, xt_322, hc323, h⟩ := bd2_s h
          refine g_callBi (As := [.int (xs ((v2 + (1 : Int32))).toNatClampNeg)]) (rest := []) (r := r320) (bs1 := [[(g0, .inr (6, [.ref (an 0), .ref (au 0), .ref (ap 0), .ref q0, .ref x0, .ref r0, .int ke3]))], [(q0, .inr (0, [.ref q1, .int lnn4]))], wHa E q1 ba pm5, wTx E x0 x1 x2 ch6 tl7 nu8 le9 nx10, [(r0, .inr (3, [.ref (ar 0), .ref (aw 0), .int cmd11, .int pos12, .int rea13, .int cau14]))], wHuT E an xn15, wHuT E au xt_322, wHuT E ap xp17, wHuT E ar xr18, wHuT E aw xw19, wHuT E (ba 0) h20, wHuT E (ba 1) h21, wHuT E (ba 2) h22, wHuT E (ba 3) h23, wHuT E (ba 4) h24, wMo E m0 m1 m2 m3 m4 m5 m6 m7 ss25 bg26 kp27 ik28 pt29 st30 tx31 ln32 asd33 att34 dn35 td36 fo37 nb38]) ⟨hx, hb, hml, hown, hts⟩ (kX6_goneOn E l g0 q0 q1 x0 x1 x2 r0 an au ap ar aw ba ke3 lnn4 pm5 ch6 tl7 nu8 le9 nx10 cmd11 pos12 rea13 cau14 xn15 xt16 xp17 xr18 xw19 h20 h21 h22 h23 h24 (xs ((v2 + (1 : Int32))).toNatClampNeg) (r320, xt_322) hc323) (cwV 1 hts gL_law_X6_goneOn rfl rfl rfl (by decide +kernel) ⟨Nat.le_of_ble_eq_true rfl, Nat.le_of_ble_eq_true rfl⟩) hK hP hD hS hA hG hl [0, 1, 2, 3, 4, 5, 6, 7, 8, 9, 10, 11, 12, 13, 14] 0 0 (by decide) rfl (ci := 6) rfl rfl rfl rfl rfl rfl rfl rfl rfl rfl (Nat.le_of_ble_eq_true rfl) dL_law_508 (Nat.le_of_ble_eq_true rfl) (Nat.le_of_ble_eq_true rfl) (fun H locs hP hD hS => ?_)
          refine lv_aload_n hx hb dL_law_511 rfl (lv_at hl 1 rfl) ?_
          refine lv_aload_n hx hb dL_law_512 rfl (lv_at hl 3 rfl) ?_
          refine lv_iload_n hx hb dL_law_513 rfl (lv_at hl 0 rfl) ?_
          refine lv_iconst (v := (1 : Int32)) hx hb dL_law_514 (by decide) ?_
          refine lv_iadd hx hb dL_law_515 ?_
          refine va_sld hx hb hX hbl hbA hS (inB_in hg319) dL_law_516 ?_
          obtain ⟨r324, ss325, bg326, hc327, h⟩ := bd3_s h
          refine g_call1i (As := [.int (xs ((v2 + (1 : Int32))).toNatClampNeg)]) (rest := [.int r320]) (r := r324) (bs1 := [[(g0, .inr (6, [.ref (an 0), .ref (au 0), .ref (ap 0), .ref q0, .ref x0, .ref r0, .int ke3]))], [(q0, .inr (0, [.ref q1, .int lnn4]))], wHa E q1 ba pm5, wTx E x0 x1 x2 ch6 tl7 nu8 le9 nx10, [(r0, .inr (3, [.ref (ar 0), .ref (aw 0), .int cmd11, .int pos12, .int rea13, .int cau14]))], wHuT E an xn15, wHuT E au xt_322, wHuT E ap xp17, wHuT E ar xr18, wHuT E aw xw19, wHuT E (ba 0) h20, wHuT E (ba 1) h21, wHuT E (ba 2) h22, wHuT E (ba 3) h23, wHuT E (ba 4) h24, wMo E m0 m1 m2 m3 m4 m5 m6 m7 ss325 bg326 kp27 ik28 pt29 st30 tx31 ln32 asd33 att34 dn35 td36 fo37 nb38]) ⟨hx, hb, hml, hown, hts⟩ (kX7_goneOn E l m0 m1 m2 m3 m4 m5 m6 m7 ss25 bg26 kp27 ik28 pt29 st30 tx31 ln32 asd33 att34 dn35 td36 fo37 nb38 (xs ((v2 + (1 : Int32))).toNatClampNeg) (r324, ss325, bg326) hc327) (cwV 1 hts gL_law_X7_goneOn rfl rfl rfl (by decide +kernel) ⟨Nat.le_of_ble_eq_true rfl, Nat.le_of_ble_eq_true rfl⟩) hK hP hD hS hA hG hl 15 0 (ci := 7) rfl rfl rfl rfl rfl rfl rfl rfl rfl (Nat.le_of_ble_eq_true rfl) dL_law_517 (Nat.le_of_ble_eq_true rfl) (Nat.le_of_ble_eq_true rfl) (fun H locs hP hD hS => ?_)
          refine lv_icmp_eq (tgt := 692) hx hb dL_law_520 (by decide) (fun hc328 => ?_) (fun hc328 => ?_)
          · replace h := g_it hc328 h
            obtain ⟨v329, e_v329⟩ : ∃ y : Int32, y = (v2 + (4 : Int32)) := ⟨_, rfl⟩
            replace h := jl_s e_v329 h
            refine lv_iinc (v := v329) (lv' := [(3, .int v329), (2, .ref m0), (1, .ref g0), (0, .ref b)]) hx hb dL_law_692 hl (k := 0) rfl (by rw [e_v329]; rfl) (by decide) rfl (fun ls hl => ?_)
            refine lv_goto (tgt := 18) hx hb dL_law_695 (by decide) ?_
            exact ih_rec1 v329 ke3 lnn4 pm5 ch6 tl7 nu8 le9 nx10 cmd11 pos12 rea13 cau14 xn15 xt_322 xp17 xr18 xw19 h20 h21 h22 h23 h24 ss325 bg326 kp27 ik28 pt29 st30 tx31 ln32 asd33 att34 dn35 td36 fo37 nb38 _ _ _ hP hS (lv_sub hl [0, 1, 2, 3] rfl) h
          · replace h := g_if hc328 h
            refine lv_iconst (v := (0 : Int32)) hx hb dL_law_523 (by decide) ?_
            exact absurd ((Option.some.inj h).trans hres) (by decide)
        replace h := g_if hk53 h
        by_cases hk54 : ((xs (v2).toNatClampNeg) &&& (31 : Int32)) = (13 : Int32)
        · replace h := g_it hk54 h
          refine lv_tableIn (tgt := 525) (off := 493) hx hb dL_law_32 (by rw [hk54]; decide) (by rw [hk54]; decide) (by rw [hk54]; rfl) (by decide) ?_
          refine lv_aload_n hx hb dL_law_525 rfl (lv_at hl 2 rfl) ?_
          refine lv_aload_n hx hb dL_law_526 rfl (lv_at hl 3 rfl) ?_
          refine lv_iload_n hx hb dL_law_527 rfl (lv_at hl 0 rfl) ?_
          refine lv_iconst (v := (1 : Int32)) hx hb dL_law_528 (by decide) ?_
          refine lv_iadd hx hb dL_law_529 ?_
          obtain ⟨hg330, h⟩ := gd_s h
          refine va_sld hx hb hX hbl hbA hS (inB_in hg330) dL_law_530 ?_
          obtain ⟨r331, xt_333, hc334, h⟩ := bd2_s h
          refine g_callBi (As := [.int (xs ((v2 + (1 : Int32))).toNatClampNeg)]) (rest := []) (r := r331) (bs1 := [[(g0, .inr (6, [.ref (an 0), .ref (au 0), .ref (ap 0), .ref q0, .ref x0, .ref r0, .int ke3]))], [(q0, .inr (0, [.ref q1, .int lnn4]))], wHa E q1 ba pm5, wTx E x0 x1 x2 ch6 tl7 nu8 le9 nx10, [(r0, .inr (3, [.ref (ar 0), .ref (aw 0), .int cmd11, .int pos12, .int rea13, .int cau14]))], wHuT E an xn15, wHuT E au xt_333, wHuT E ap xp17, wHuT E ar xr18, wHuT E aw xw19, wHuT E (ba 0) h20, wHuT E (ba 1) h21, wHuT E (ba 2) h22, wHuT E (ba 3) h23, wHuT E (ba 4) h24, wMo E m0 m1 m2 m3 m4 m5 m6 m7 ss25 bg26 kp27 ik28 pt29 st30 tx31 ln32 asd33 att34 dn35 td36 fo37 nb38]) ⟨hx, hb, hml, hown, hts⟩ (kX6_outOn E l g0 q0 q1 x0 x1 x2 r0 an au ap ar aw ba ke3 lnn4 pm5 ch6 tl7 nu8 le9 nx10 cmd11 pos12 rea13 cau14 xn15 xt16 xp17 xr18 xw19 h20 h21 h22 h23 h24 (xs ((v2 + (1 : Int32))).toNatClampNeg) (r331, xt_333) hc334) (cwV 1 hts gL_law_X6_outOn rfl rfl rfl (by decide +kernel) ⟨Nat.le_of_ble_eq_true rfl, Nat.le_of_ble_eq_true rfl⟩) hK hP hD hS hA hG hl [0, 1, 2, 3, 4, 5, 6, 7, 8, 9, 10, 11, 12, 13, 14] 0 0 (by decide) rfl (ci := 6) rfl rfl rfl rfl rfl rfl rfl rfl rfl rfl (Nat.le_of_ble_eq_true rfl) dL_law_531 (Nat.le_of_ble_eq_true rfl) (Nat.le_of_ble_eq_true rfl) (fun H locs hP hD hS => ?_)
          refine lv_aload_n hx hb dL_law_534 rfl (lv_at hl 1 rfl) ?_
          refine lv_aload_n hx hb dL_law_535 rfl (lv_at hl 3 rfl) ?_
          refine lv_iload_n hx hb dL_law_536 rfl (lv_at hl 0 rfl) ?_
          refine lv_iconst (v := (1 : Int32)) hx hb dL_law_537 (by decide) ?_
          refine lv_iadd hx hb dL_law_538 ?_
          refine va_sld hx hb hX hbl hbA hS (inB_in hg330) dL_law_539 ?_
          obtain ⟨r335, ss336, bg337, hc338, h⟩ := bd3_s h
          refine g_call1i (As := [.int (xs ((v2 + (1 : Int32))).toNatClampNeg)]) (rest := [.int r331]) (r := r335) (bs1 := [[(g0, .inr (6, [.ref (an 0), .ref (au 0), .ref (ap 0), .ref q0, .ref x0, .ref r0, .int ke3]))], [(q0, .inr (0, [.ref q1, .int lnn4]))], wHa E q1 ba pm5, wTx E x0 x1 x2 ch6 tl7 nu8 le9 nx10, [(r0, .inr (3, [.ref (ar 0), .ref (aw 0), .int cmd11, .int pos12, .int rea13, .int cau14]))], wHuT E an xn15, wHuT E au xt_333, wHuT E ap xp17, wHuT E ar xr18, wHuT E aw xw19, wHuT E (ba 0) h20, wHuT E (ba 1) h21, wHuT E (ba 2) h22, wHuT E (ba 3) h23, wHuT E (ba 4) h24, wMo E m0 m1 m2 m3 m4 m5 m6 m7 ss336 bg337 kp27 ik28 pt29 st30 tx31 ln32 asd33 att34 dn35 td36 fo37 nb38]) ⟨hx, hb, hml, hown, hts⟩ (kX7_outOn E l m0 m1 m2 m3 m4 m5 m6 m7 ss25 bg26 kp27 ik28 pt29 st30 tx31 ln32 asd33 att34 dn35 td36 fo37 nb38 (xs ((v2 + (1 : Int32))).toNatClampNeg) (r335, ss336, bg337) hc338) (cwV 1 hts gL_law_X7_outOn rfl rfl rfl (by decide +kernel) ⟨Nat.le_of_ble_eq_true rfl, Nat.le_of_ble_eq_true rfl⟩) hK hP hD hS hA hG hl 15 0 (ci := 7) rfl rfl rfl rfl rfl rfl rfl rfl rfl (Nat.le_of_ble_eq_true rfl) dL_law_540 (Nat.le_of_ble_eq_true rfl) (Nat.le_of_ble_eq_true rfl) (fun H locs hP hD hS => ?_)
          refine lv_icmp_eq (tgt := 692) hx hb dL_law_543 (by decide) (fun hc339 => ?_) (fun hc339 => ?_)
          · replace h := g_it hc339 h
            obtain ⟨v340, e_v340⟩ : ∃ y : Int32, y = (v2 + (4 : Int32)) := ⟨_, rfl⟩
            replace h := jl_s e_v340 h
            refine lv_iinc (v := v340) (lv' := [(3, .int v340), (2, .ref m0), (1, .ref g0), (0, .ref b)]) hx hb dL_law_692 hl (k := 0) rfl (by rw [e_v340]; rfl) (by decide) rfl (fun ls hl => ?_)
            refine lv_goto (tgt := 18) hx hb dL_law_695 (by decide) ?_
            exact ih_rec1 v340 ke3 lnn4 pm5 ch6 tl7 nu8 le9 nx10 cmd11 pos12 rea13 cau14 xn15 xt_333 xp17 xr18 xw19 h20 h21 h22 h23 h24 ss336 bg337 kp27 ik28 pt29 st30 tx31 ln32 asd33 att34 dn35 td36 fo37 nb38 _ _ _ hP hS (lv_sub hl [0, 1, 2, 3] rfl) h
          · replace h := g_if hc339 h
            refine lv_iconst (v := (0 : Int32)) hx hb dL_law_546 (by decide) ?_
            exact absurd ((Option.some.inj h).trans hres) (by decide)
        replace h := g_if hk54 h
        by_cases hk55 : ((xs (v2).toNatClampNeg) &&& (31 : Int32)) = (14 : Int32)
        · replace h := g_it hk55 h
          refine lv_tableIn (tgt := 548) (off := 516) hx hb dL_law_32 (by rw [hk55]; decide) (by rw [hk55]; decide) (by rw [hk55]; rfl) (by decide) ?_
          refine lv_aload_n hx hb dL_law_548 rfl (lv_at hl 2 rfl) ?_
          refine lv_aload_n hx hb dL_law_549 rfl (lv_at hl 3 rfl) ?_
          refine lv_iload_n hx hb dL_law_550 rfl (lv_at hl 0 rfl) ?_
          refine lv_iconst (v := (1 : Int32)) hx hb dL_law_551 (by decide) ?_
          refine lv_iadd hx hb dL_law_552 ?_
          obtain ⟨hg341, h⟩ := gd_s h
          refine va_sld hx hb hX hbl hbA hS (inB_in hg341) dL_law_553 ?_
          refine lv_aload_n hx hb dL_law_554 rfl (lv_at hl 3 rfl) ?_
          refine lv_iload_n hx hb dL_law_555 rfl (lv_at hl 0 rfl) ?_
          refine lv_iconst (v := (2 : Int32)) hx hb dL_law_556 (by decide) ?_
          refine lv_iadd hx hb dL_law_557 ?_
          obtain ⟨hg342, h⟩ := gd_s h
          refine va_sld hx hb hX hbl hbA hS (inB_in hg342) dL_law_558 ?_
          obtain ⟨r343, xt_345, hc346, h⟩ := bd2_s h
          refine g_callBi (As := [.int (xs ((v2 + (1 : Int32))).toNatClampNeg), .int (xs ((v2 + (2 : Int32))).toNatClampNeg)]) (rest := []) (r := r343) (bs1 := [[(g0, .inr (6, [.ref (an 0), .ref (au 0), .ref (ap 0), .ref q0, .ref x0, .ref r0, .int ke3]))], [(q0, .inr (0, [.ref q1, .int lnn4]))], wHa E q1 ba pm5, wTx E x0 x1 x2 ch6 tl7 nu8 le9 nx10, [(r0, .inr (3, [.ref (ar 0), .ref (aw 0), .int cmd11, .int pos12, .int rea13, .int cau14]))], wHuT E an xn15, wHuT E au xt_345, wHuT E ap xp17, wHuT E ar xr18, wHuT E aw xw19, wHuT E (ba 0) h20, wHuT E (ba 1) h21, wHuT E (ba 2) h22, wHuT E (ba 3) h23, wHuT E (ba 4) h24, wMo E m0 m1 m2 m3 m4 m5 m6 m7 ss25 bg26 kp27 ik28 pt29 st30 tx31 ln32 asd33 att34 dn35 td36 fo37 nb38]) ⟨hx, hb, hml, hown, hts⟩ (kX6_most E l g0 q0 q1 x0 x1 x2 r0 an au ap ar aw ba ke3 lnn4 pm5 ch6 tl7 nu8 le9 nx10 cmd11 pos12 rea13 cau14 xn15 xt16 xp17 xr18 xw19 h20 h21 h22 h23 h24 (xs ((v2 + (1 : Int32))).toNatClampNeg) (xs ((v2 + (2 : Int32))).toNatClampNeg) (r343, xt_345) hc346) (cwV 2 hts gL_law_X6_most rfl rfl rfl (by decide +kernel) ⟨Nat.le_of_ble_eq_true rfl, Nat.le_of_ble_eq_true rfl⟩) hK hP hD hS hA hG hl [0, 1, 2, 3, 4, 5, 6, 7, 8, 9, 10, 11, 12, 13, 14] 0 0 (by decide) rfl (ci := 6) rfl rfl rfl rfl rfl rfl rfl rfl rfl rfl (Nat.le_of_ble_eq_true rfl) dL_law_559 (Nat.le_of_ble_eq_true rfl) (Nat.le_of_ble_eq_true rfl) (fun H locs hP hD hS => ?_)
          refine lv_aload_n hx hb dL_law_562 rfl (lv_at hl 1 rfl) ?_
          refine lv_aload_n hx hb dL_law_563 rfl (lv_at hl 3 rfl) ?_
          refine lv_iload_n hx hb dL_law_564 rfl (lv_at hl 0 rfl) ?_
          refine lv_iconst (v := (1 : Int32)) hx hb dL_law_565 (by decide) ?_
          refine lv_iadd hx hb dL_law_566 ?_
          refine va_sld hx hb hX hbl hbA hS (inB_in hg341) dL_law_567 ?_
          refine lv_aload_n hx hb dL_law_568 rfl (lv_at hl 3 rfl) ?_
          refine lv_iload_n hx hb dL_law_569 rfl (lv_at hl 0 rfl) ?_
          refine lv_iconst (v := (2 : Int32)) hx hb dL_law_570 (by decide) ?_
          refine lv_iadd hx hb dL_law_571 ?_
          refine va_sld hx hb hX hbl hbA hS (inB_in hg342) dL_law_572 ?_
          obtain ⟨r347, ss348, asd349, hc350, h⟩ := bd3_s h
          refine g_call1i (As := [.int (xs ((v2 + (1 : Int32))).toNatClampNeg), .int (xs ((v2 + (2 : Int32))).toNatClampNeg)]) (rest := [.int r343]) (r := r347) (bs1 := [[(g0, .inr (6, [.ref (an 0), .ref (au 0), .ref (ap 0), .ref q0, .ref x0, .ref r0, .int ke3]))], [(q0, .inr (0, [.ref q1, .int lnn4]))], wHa E q1 ba pm5, wTx E x0 x1 x2 ch6 tl7 nu8 le9 nx10, [(r0, .inr (3, [.ref (ar 0), .ref (aw 0), .int cmd11, .int pos12, .int rea13, .int cau14]))], wHuT E an xn15, wHuT E au xt_345, wHuT E ap xp17, wHuT E ar xr18, wHuT E aw xw19, wHuT E (ba 0) h20, wHuT E (ba 1) h21, wHuT E (ba 2) h22, wHuT E (ba 3) h23, wHuT E (ba 4) h24, wMo E m0 m1 m2 m3 m4 m5 m6 m7 ss348 bg26 kp27 ik28 pt29 st30 tx31 ln32 asd349 att34 dn35 td36 fo37 nb38]) ⟨hx, hb, hml, hown, hts⟩ (kX7_most E l m0 m1 m2 m3 m4 m5 m6 m7 ss25 bg26 kp27 ik28 pt29 st30 tx31 ln32 asd33 att34 dn35 td36 fo37 nb38 (xs ((v2 + (1 : Int32))).toNatClampNeg) (xs ((v2 + (2 : Int32))).toNatClampNeg) (r347, ss348, asd349) hc350) (cwV 2 hts gL_law_X7_most rfl rfl rfl (by decide +kernel) ⟨Nat.le_of_ble_eq_true rfl, Nat.le_of_ble_eq_true rfl⟩) hK hP hD hS hA hG hl 15 0 (ci := 7) rfl rfl rfl rfl rfl rfl rfl rfl rfl (Nat.le_of_ble_eq_true rfl) dL_law_573 (Nat.le_of_ble_eq_true rfl) (Nat.le_of_ble_eq_true rfl) (fun H locs hP hD hS => ?_)
          refine lv_icmp_eq (tgt := 692) hx hb dL_law_576 (by decide) (fun hc351 => ?_) (fun hc351 => ?_)
          · replace h := g_it hc351 h
            obtain ⟨v352, e_v352⟩ : ∃ y : Int32, y = (v2 + (4 : Int32)) := ⟨_, rfl⟩
            replace h := jl_s e_v352 h
            refine lv_iinc (v := v352) (lv' := [(3, .int v352), (2, .ref m0), (1, .ref g0), (0, .ref b)]) hx hb dL_law_692 hl (k := 0) rfl (by rw [e_v352]; rfl) (by decide) rfl (fun ls hl => ?_)
            refine lv_goto (tgt := 18) hx hb dL_law_695 (by decide) ?_
            exact ih_rec1 v352 ke3 lnn4 pm5 ch6 tl7 nu8 le9 nx10 cmd11 pos12 rea13 cau14 xn15 xt_345 xp17 xr18 xw19 h20 h21 h22 h23 h24 ss348 bg26 kp27 ik28 pt29 st30 tx31 ln32 asd349 att34 dn35 td36 fo37 nb38 _ _ _ hP hS (lv_sub hl [0, 1, 2, 3] rfl) h
          · replace h := g_if hc351 h
            refine lv_iconst (v := (0 : Int32)) hx hb dL_law_579 (by decide) ?_
            exact absurd ((Option.some.inj h).trans hres) (by decide)
        replace h := g_if hk55 h
        by_cases hk56 : ((xs (v2).toNatClampNeg) &&& (31 : Int32)) = (15 : Int32)
        · replace h := g_it hk56 h
          refine lv_tableIn (tgt := 581) (off := 549) hx hb dL_law_32 (by rw [hk56]; decide) (by rw [hk56]; decide) (by rw [hk56]; rfl) (by decide) ?_
          refine lv_aload_n hx hb dL_law_581 rfl (lv_at hl 2 rfl) ?_
          obtain ⟨r353, ke_355, xp_357, hc358, h⟩ := bd3_s h
          refine g_callBi (As := []) (rest := []) (r := r353) (bs1 := [[(g0, .inr (6, [.ref (an 0), .ref (au 0), .ref (ap 0), .ref q0, .ref x0, .ref r0, .int ke_355]))], [(q0, .inr (0, [.ref q1, .int lnn4]))], wHa E q1 ba pm5, wTx E x0 x1 x2 ch6 tl7 nu8 le9 nx10, [(r0, .inr (3, [.ref (ar 0), .ref (aw 0), .int cmd11, .int pos12, .int rea13, .int cau14]))], wHuT E an xn15, wHuT E au xt16, wHuT E ap xp_357, wHuT E ar xr18, wHuT E aw xw19, wHuT E (ba 0) h20, wHuT E (ba 1) h21, wHuT E (ba 2) h22, wHuT E (ba 3) h23, wHuT E (ba 4) h24, wMo E m0 m1 m2 m3 m4 m5 m6 m7 ss25 bg26 kp27 ik28 pt29 st30 tx31 ln32 asd33 att34 dn35 td36 fo37 nb38]) ⟨hx, hb, hml, hown, hts⟩ (kX6_keep E l g0 q0 q1 x0 x1 x2 r0 an au ap ar aw ba ke3 lnn4 pm5 ch6 tl7 nu8 le9 nx10 cmd11 pos12 rea13 cau14 xn15 xt16 xp17 xr18 xw19 h20 h21 h22 h23 h24 (r353, ke_355, xp_357) hc358) (cwV 0 hts gL_law_X6_keep rfl rfl rfl (by decide +kernel) ⟨Nat.le_of_ble_eq_true rfl, Nat.le_of_ble_eq_true rfl⟩) hK hP hD hS hA hG hl [0, 1, 2, 3, 4, 5, 6, 7, 8, 9, 10, 11, 12, 13, 14] 0 0 (by decide) rfl (ci := 6) rfl rfl rfl rfl rfl rfl rfl rfl rfl rfl (Nat.le_of_ble_eq_true rfl) dL_law_582 (Nat.le_of_ble_eq_true rfl) (Nat.le_of_ble_eq_true rfl) (fun H locs hP hD hS => ?_)
          refine lv_aload_n hx hb dL_law_585 rfl (lv_at hl 1 rfl) ?_
          obtain ⟨r359, kp360, ik361, hc362, h⟩ := bd3_s h
          refine g_call1i (As := []) (rest := [.int r353]) (r := r359) (bs1 := [[(g0, .inr (6, [.ref (an 0), .ref (au 0), .ref (ap 0), .ref q0, .ref x0, .ref r0, .int ke_355]))], [(q0, .inr (0, [.ref q1, .int lnn4]))], wHa E q1 ba pm5, wTx E x0 x1 x2 ch6 tl7 nu8 le9 nx10, [(r0, .inr (3, [.ref (ar 0), .ref (aw 0), .int cmd11, .int pos12, .int rea13, .int cau14]))], wHuT E an xn15, wHuT E au xt16, wHuT E ap xp_357, wHuT E ar xr18, wHuT E aw xw19, wHuT E (ba 0) h20, wHuT E (ba 1) h21, wHuT E (ba 2) h22, wHuT E (ba 3) h23, wHuT E (ba 4) h24, wMo E m0 m1 m2 m3 m4 m5 m6 m7 ss25 bg26 kp360 ik361 pt29 st30 tx31 ln32 asd33 att34 dn35 td36 fo37 nb38]) ⟨hx, hb, hml, hown, hts⟩ (kX7_keep E l m0 m1 m2 m3 m4 m5 m6 m7 ss25 bg26 kp27 ik28 pt29 st30 tx31 ln32 asd33 att34 dn35 td36 fo37 nb38 (r359, kp360, ik361) hc362) (cwV 0 hts gL_law_X7_keep rfl rfl rfl (by decide +kernel) ⟨Nat.le_of_ble_eq_true rfl, Nat.le_of_ble_eq_true rfl⟩) hK hP hD hS hA hG hl 15 0 (ci := 7) rfl rfl rfl rfl rfl rfl rfl rfl rfl (Nat.le_of_ble_eq_true rfl) dL_law_586 (Nat.le_of_ble_eq_true rfl) (Nat.le_of_ble_eq_true rfl) (fun H locs hP hD hS => ?_)
          refine lv_icmp_eq (tgt := 692) hx hb dL_law_589 (by decide) (fun hc363 => ?_) (fun hc363 => ?_)
          · replace h := g_it hc363 h
            obtain ⟨v364, e_v364⟩ : ∃ y : Int32, y = (v2 + (4 : Int32)) := ⟨_, rfl⟩
            replace h := jl_s e_v364 h
            refine lv_iinc (v := v364) (lv' := [(3, .int v364), (2, .ref m0), (1, .ref g0), (0, .ref b)]) hx hb dL_law_692 hl (k := 0) rfl (by rw [e_v364]; rfl) (by decide) rfl (fun ls hl => ?_)
            refine lv_goto (tgt := 18) hx hb dL_law_695 (by decide) ?_
            exact ih_rec1 v364 ke_355 lnn4 pm5 ch6 tl7 nu8 le9 nx10 cmd11 pos12 rea13 cau14 xn15 xt16 xp_357 xr18 xw19 h20 h21 h22 h23 h24 ss25 bg26 kp360 ik361 pt29 st30 tx31 ln32 asd33 att34 dn35 td36 fo37 nb38 _ _ _ hP hS (lv_sub hl [0, 1, 2, 3] rfl) h
          · replace h := g_if hc363 h
            refine lv_iconst (v := (0 : Int32)) hx hb dL_law_592 (by decide) ?_
            exact absurd ((Option.some.inj h).trans hres) (by decide)
        replace h := g_if hk56 h
        by_cases hk57 : ((xs (v2).toNatClampNeg) &&& (31 : Int32)) = (16 : Int32)
        · replace h := g_it hk57 h
          refine lv_tableIn (tgt := 594) (off := 562) hx hb dL_law_32 (by rw [hk57]; decide) (by rw [hk57]; decide) (by rw [hk57]; rfl) (by decide) ?_
          refine lv_aload_n hx hb dL_law_594 rfl (lv_at hl 2 rfl) ?_
          obtain ⟨r365, lnn_367, pm_369, xn_371, h0_373, h1_375, h2_377, h3_379, h4_381, hc382, h⟩ := bd9_s h
          refine g_callBi (As := []) (rest := []) (r := r365) (bs1 := [[(g0, .inr (6, [.ref (an 0), .ref (au 0), .ref (ap 0), .ref q0, .ref x0, .ref r0, .int ke3]))], [(q0, .inr (0, [.ref q1, .int lnn_367]))], wHa E q1 ba pm_369, wTx E x0 x1 x2 ch6 tl7 nu8 le9 nx10, [(r0, .inr (3, [.ref (ar 0), .ref (aw 0), .int cmd11, .int pos12, .int rea13, .int cau14]))], wHuT E an xn_371, wHuT E au xt16, wHuT E ap xp17, wHuT E ar xr18, wHuT E aw xw19, wHuT E (ba 0) h0_373, wHuT E (ba 1) h1_375, wHuT E (ba 2) h2_377, wHuT E (ba 3) h3_379, wHuT E (ba 4) h4_381, wMo E m0 m1 m2 m3 m4 m5 m6 m7 ss25 bg26 kp27 ik28 pt29 st30 tx31 ln32 asd33 att34 dn35 td36 fo37 nb38]) ⟨hx, hb, hml, hown, hts⟩ (kX6_restore E l g0 q0 q1 x0 x1 x2 r0 an au ap ar aw ba ke3 lnn4 pm5 ch6 tl7 nu8 le9 nx10 cmd11 pos12 rea13 cau14 xn15 xt16 xp17 xr18 xw19 h20 h21 h22 h23 h24 (r365, lnn_367, pm_369, xn_371, h0_373, h1_375, h2_377, h3_379, h4_381) hc382) (cwV 0 hts gL_law_X6_restore rfl rfl rfl (by decide +kernel) ⟨Nat.le_of_ble_eq_true rfl, Nat.le_of_ble_eq_true rfl⟩) hK hP hD hS hA hG hl [0, 1, 2, 3, 4, 5, 6, 7, 8, 9, 10, 11, 12, 13, 14] 0 0 (by decide) rfl (ci := 6) rfl rfl rfl rfl rfl rfl rfl rfl rfl rfl (Nat.le_of_ble_eq_true rfl) dL_law_595 (Nat.le_of_ble_eq_true rfl) (Nat.le_of_ble_eq_true rfl) (fun H locs hP hD hS => ?_)
          refine lv_aload_n hx hb dL_law_598 rfl (lv_at hl 1 rfl) ?_
          obtain ⟨r383, ss384, bg385, pt386, st387, hc388, h⟩ := bd5_s h
          refine g_call1i (As := []) (rest := [.int r365]) (r := r383) (bs1 := [[(g0, .inr (6, [.ref (an 0), .ref (au 0), .ref (ap 0), .ref q0, .ref x0, .ref r0, .int ke3]))], [(q0, .inr (0, [.ref q1, .int lnn_367]))], wHa E q1 ba pm_369, wTx E x0 x1 x2 ch6 tl7 nu8 le9 nx10, [(r0, .inr (3, [.ref (ar 0), .ref (aw 0), .int cmd11, .int pos12, .int rea13, .int cau14]))], wHuT E an xn_371, wHuT E au xt16, wHuT E ap xp17, wHuT E ar xr18, wHuT E aw xw19, wHuT E (ba 0) h0_373, wHuT E (ba 1) h1_375, wHuT E (ba 2) h2_377, wHuT E (ba 3) h3_379, wHuT E (ba 4) h4_381, wMo E m0 m1 m2 m3 m4 m5 m6 m7 ss384 bg385 kp27 ik28 pt386 st387 tx31 ln32 asd33 att34 dn35 td36 fo37 nb38]) ⟨hx, hb, hml, hown, hts⟩ (kX7_restore E l m0 m1 m2 m3 m4 m5 m6 m7 ss25 bg26 kp27 ik28 pt29 st30 tx31 ln32 asd33 att34 dn35 td36 fo37 nb38 (r383, ss384, bg385, pt386, st387) hc388) (cwV 0 hts gL_law_X7_restore rfl rfl rfl (by decide +kernel) ⟨Nat.le_of_ble_eq_true rfl, Nat.le_of_ble_eq_true rfl⟩) hK hP hD hS hA hG hl 15 0 (ci := 7) rfl rfl rfl rfl rfl rfl rfl rfl rfl (Nat.le_of_ble_eq_true rfl) dL_law_599 (Nat.le_of_ble_eq_true rfl) (Nat.le_of_ble_eq_true rfl) (fun H locs hP hD hS => ?_)
          refine lv_icmp_eq (tgt := 692) hx hb dL_law_602 (by decide) (fun hc389 => ?_) (fun hc389 => ?_)
          · replace h := g_it hc389 h
            obtain ⟨v390, e_v390⟩ : ∃ y : Int32, y = (v2 + (4 : Int32)) := ⟨_, rfl⟩
            replace h := jl_s e_v390 h
            refine lv_iinc (v := v390) (lv' := [(3, .int v390), (2, .ref m0), (1, .ref g0), (0, .ref b)]) hx hb dL_law_692 hl (k := 0) rfl (by rw [e_v390]; rfl) (by decide) rfl (fun ls hl => ?_)
            refine lv_goto (tgt := 18) hx hb dL_law_695 (by decide) ?_
            exact ih_rec1 v390 ke3 lnn_367 pm_369 ch6 tl7 nu8 le9 nx10 cmd11 pos12 rea13 cau14 xn_371 xt16 xp17 xr18 xw19 h0_373 h1_375 h2_377 h3_379 h4_381 ss384 bg385 kp27 ik28 pt386 st387 tx31 ln32 asd33 att34 dn35 td36 fo37 nb38 _ _ _ hP hS (lv_sub hl [0, 1, 2, 3] rfl) h
          · replace h := g_if hc389 h
            refine lv_iconst (v := (0 : Int32)) hx hb dL_law_605 (by decide) ?_
            exact absurd ((Option.some.inj h).trans hres) (by decide)
        replace h := g_if hk57 h
        by_cases hk58 : ((xs (v2).toNatClampNeg) &&& (31 : Int32)) = (17 : Int32)
        · replace h := g_it hk58 h
          refine lv_tableIn (tgt := 607) (off := 575) hx hb dL_law_32 (by rw [hk58]; decide) (by rw [hk58]; decide) (by rw [hk58]; rfl) (by decide) ?_
          refine lv_aload_n hx hb dL_law_607 rfl (lv_at hl 2 rfl) ?_
          obtain ⟨r391, lnn_393, xn_395, hc396, h⟩ := bd3_s h
          refine g_callBi (As := []) (rest := []) (r := r391) (bs1 := [[(g0, .inr (6, [.ref (an 0), .ref (au 0), .ref (ap 0), .ref q0, .ref x0, .ref r0, .int ke3]))], [(q0, .inr (0, [.ref q1, .int lnn_393]))], wHa E q1 ba pm5, wTx E x0 x1 x2 ch6 tl7 nu8 le9 nx10, [(r0, .inr (3, [.ref (ar 0), .ref (aw 0), .int cmd11, .int pos12, .int rea13, .int cau14]))], wHuT E an xn_395, wHuT E au xt16, wHuT E ap xp17, wHuT E ar xr18, wHuT E aw xw19, wHuT E (ba 0) h20, wHuT E (ba 1) h21, wHuT E (ba 2) h22, wHuT E (ba 3) h23, wHuT E (ba 4) h24, wMo E m0 m1 m2 m3 m4 m5 m6 m7 ss25 bg26 kp27 ik28 pt29 st30 tx31 ln32 asd33 att34 dn35 td36 fo37 nb38]) ⟨hx, hb, hml, hown, hts⟩ (kX6_undo E l g0 q0 q1 x0 x1 x2 r0 an au ap ar aw ba ke3 lnn4 pm5 ch6 tl7 nu8 le9 nx10 cmd11 pos12 rea13 cau14 xn15 xt16 xp17 xr18 xw19 h20 h21 h22 h23 h24 (r391, lnn_393, xn_395) hc396) (cwV 0 hts gL_law_X6_undo rfl rfl rfl (by decide +kernel) ⟨Nat.le_of_ble_eq_true rfl, Nat.le_of_ble_eq_true rfl⟩) hK hP hD hS hA hG hl [0, 1, 2, 3, 4, 5, 6, 7, 8, 9, 10, 11, 12, 13, 14] 0 0 (by decide) rfl (ci := 6) rfl rfl rfl rfl rfl rfl rfl rfl rfl rfl (Nat.le_of_ble_eq_true rfl) dL_law_608 (Nat.le_of_ble_eq_true rfl) (Nat.le_of_ble_eq_true rfl) (fun H locs hP hD hS => ?_)
          refine lv_aload_n hx hb dL_law_611 rfl (lv_at hl 1 rfl) ?_
          obtain ⟨r397, ss398, st399, hc400, h⟩ := bd3_s h
          refine g_call1i (As := []) (rest := [.int r391]) (r := r397) (bs1 := [[(g0, .inr (6, [.ref (an 0), .ref (au 0), .ref (ap 0), .ref q0, .ref x0, .ref r0, .int ke3]))], [(q0, .inr (0, [.ref q1, .int lnn_393]))], wHa E q1 ba pm5, wTx E x0 x1 x2 ch6 tl7 nu8 le9 nx10, [(r0, .inr (3, [.ref (ar 0), .ref (aw 0), .int cmd11, .int pos12, .int rea13, .int cau14]))], wHuT E an xn_395, wHuT E au xt16, wHuT E ap xp17, wHuT E ar xr18, wHuT E aw xw19, wHuT E (ba 0) h20, wHuT E (ba 1) h21, wHuT E (ba 2) h22, wHuT E (ba 3) h23, wHuT E (ba 4) h24, wMo E m0 m1 m2 m3 m4 m5 m6 m7 ss398 bg26 kp27 ik28 pt29 st399 tx31 ln32 asd33 att34 dn35 td36 fo37 nb38]) ⟨hx, hb, hml, hown, hts⟩ (kX7_undo E l m0 m1 m2 m3 m4 m5 m6 m7 ss25 bg26 kp27 ik28 pt29 st30 tx31 ln32 asd33 att34 dn35 td36 fo37 nb38 (r397, ss398, st399) hc400) (cwV 0 hts gL_law_X7_undo rfl rfl rfl (by decide +kernel) ⟨Nat.le_of_ble_eq_true rfl, Nat.le_of_ble_eq_true rfl⟩) hK hP hD hS hA hG hl 15 0 (ci := 7) rfl rfl rfl rfl rfl rfl rfl rfl rfl (Nat.le_of_ble_eq_true rfl) dL_law_612 (Nat.le_of_ble_eq_true rfl) (Nat.le_of_ble_eq_true rfl) (fun H locs hP hD hS => ?_)
          refine lv_icmp_eq (tgt := 692) hx hb dL_law_615 (by decide) (fun hc401 => ?_) (fun hc401 => ?_)
          · replace h := g_it hc401 h
            obtain ⟨v402, e_v402⟩ : ∃ y : Int32, y = (v2 + (4 : Int32)) := ⟨_, rfl⟩
            replace h := jl_s e_v402 h
            refine lv_iinc (v := v402) (lv' := [(3, .int v402), (2, .ref m0), (1, .ref g0), (0, .ref b)]) hx hb dL_law_692 hl (k := 0) rfl (by rw [e_v402]; rfl) (by decide) rfl (fun ls hl => ?_)
            refine lv_goto (tgt := 18) hx hb dL_law_695 (by decide) ?_
            exact ih_rec1 v402 ke3 lnn_393 pm5 ch6 tl7 nu8 le9 nx10 cmd11 pos12 rea13 cau14 xn_395 xt16 xp17 xr18 xw19 h20 h21 h22 h23 h24 ss398 bg26 kp27 ik28 pt29 st399 tx31 ln32 asd33 att34 dn35 td36 fo37 nb38 _ _ _ hP hS (lv_sub hl [0, 1, 2, 3] rfl) h
          · replace h := g_if hc401 h
            refine lv_iconst (v := (0 : Int32)) hx hb dL_law_618 (by decide) ?_
            exact absurd ((Option.some.inj h).trans hres) (by decide)
        replace h := g_if hk58 h
        by_cases hk59 : ((xs (v2).toNatClampNeg) &&& (31 : Int32)) = (18 : Int32)
        · replace h := g_it hk59 h
          refine lv_tableIn (tgt := 620) (off := 588) hx hb dL_law_32 (by rw [hk59]; decide) (by rw [hk59]; decide) (by rw [hk59]; rfl) (by decide) ?_
          refine lv_aload_n hx hb dL_law_620 rfl (lv_at hl 2 rfl) ?_
          refine lv_aload_n hx hb dL_law_621 rfl (lv_at hl 3 rfl) ?_
          refine lv_iload_n hx hb dL_law_622 rfl (lv_at hl 0 rfl) ?_
          refine lv_iconst (v := (1 : Int32)) hx hb dL_law_623 (by decide) ?_
          refine lv_iadd hx hb dL_law_624 ?_
          obtain ⟨hg403, h⟩ := gd_s h
          refine va_sld hx hb hX hbl hbA hS (inB_in hg403) dL_law_625 ?_
          obtain ⟨r404, ch_406, tl_408, hc409, h⟩ := bd3_s h
          refine g_callBi (As := [.int (xs ((v2 + (1 : Int32))).toNatClampNeg)]) (rest := []) (r := r404) (bs1 := [[(g0, .inr (6, [.ref (an 0), .ref (au 0), .ref (ap 0), .ref q0, .ref x0, .ref r0, .int ke3]))], [(q0, .inr (0, [.ref q1, .int lnn4]))], wHa E q1 ba pm5, wTx E x0 x1 x2 ch_406 tl_408 nu8 le9 nx10, [(r0, .inr (3, [.ref (ar 0), .ref (aw 0), .int cmd11, .int pos12, .int rea13, .int cau14]))], wHuT E an xn15, wHuT E au xt16, wHuT E ap xp17, wHuT E ar xr18, wHuT E aw xw19, wHuT E (ba 0) h20, wHuT E (ba 1) h21, wHuT E (ba 2) h22, wHuT E (ba 3) h23, wHuT E (ba 4) h24, wMo E m0 m1 m2 m3 m4 m5 m6 m7 ss25 bg26 kp27 ik28 pt29 st30 tx31 ln32 asd33 att34 dn35 td36 fo37 nb38]) ⟨hx, hb, hml, hown, hts⟩ (kX6_type E l g0 q0 q1 x0 x1 x2 r0 an au ap ar aw ba ke3 lnn4 pm5 ch6 tl7 nu8 le9 nx10 cmd11 pos12 rea13 cau14 xn15 xt16 xp17 xr18 xw19 h20 h21 h22 h23 h24 (xs ((v2 + (1 : Int32))).toNatClampNeg) (r404, ch_406, tl_408) hc409) (cwV 1 hts gL_law_X6_type rfl rfl rfl (by decide +kernel) ⟨Nat.le_of_ble_eq_true rfl, Nat.le_of_ble_eq_true rfl⟩) hK hP hD hS hA hG hl [0, 1, 2, 3, 4, 5, 6, 7, 8, 9, 10, 11, 12, 13, 14] 0 0 (by decide) rfl (ci := 6) rfl rfl rfl rfl rfl rfl rfl rfl rfl rfl (Nat.le_of_ble_eq_true rfl) dL_law_626 (Nat.le_of_ble_eq_true rfl) (Nat.le_of_ble_eq_true rfl) (fun H locs hP hD hS => ?_)
          refine lv_aload_n hx hb dL_law_629 rfl (lv_at hl 1 rfl) ?_
          refine lv_aload_n hx hb dL_law_630 rfl (lv_at hl 3 rfl) ?_
          refine lv_iload_n hx hb dL_law_631 rfl (lv_at hl 0 rfl) ?_
          refine lv_iconst (v := (1 : Int32)) hx hb dL_law_632 (by decide) ?_
          refine lv_iadd hx hb dL_law_633 ?_
          refine va_sld hx hb hX hbl hbA hS (inB_in hg403) dL_law_634 ?_
          obtain ⟨r410, tx411, ln412, hc413, h⟩ := bd3_s h
          refine g_call1i (As := [.int (xs ((v2 + (1 : Int32))).toNatClampNeg)]) (rest := [.int r404]) (r := r410) (bs1 := [[(g0, .inr (6, [.ref (an 0), .ref (au 0), .ref (ap 0), .ref q0, .ref x0, .ref r0, .int ke3]))], [(q0, .inr (0, [.ref q1, .int lnn4]))], wHa E q1 ba pm5, wTx E x0 x1 x2 ch_406 tl_408 nu8 le9 nx10, [(r0, .inr (3, [.ref (ar 0), .ref (aw 0), .int cmd11, .int pos12, .int rea13, .int cau14]))], wHuT E an xn15, wHuT E au xt16, wHuT E ap xp17, wHuT E ar xr18, wHuT E aw xw19, wHuT E (ba 0) h20, wHuT E (ba 1) h21, wHuT E (ba 2) h22, wHuT E (ba 3) h23, wHuT E (ba 4) h24, wMo E m0 m1 m2 m3 m4 m5 m6 m7 ss25 bg26 kp27 ik28 pt29 st30 tx411 ln412 asd33 att34 dn35 td36 fo37 nb38]) ⟨hx, hb, hml, hown, hts⟩ (kX7_type E l m0 m1 m2 m3 m4 m5 m6 m7 ss25 bg26 kp27 ik28 pt29 st30 tx31 ln32 asd33 att34 dn35 td36 fo37 nb38 (xs ((v2 + (1 : Int32))).toNatClampNeg) (r410, tx411, ln412) hc413) (cwV 1 hts gL_law_X7_type rfl rfl rfl (by decide +kernel) ⟨Nat.le_of_ble_eq_true rfl, Nat.le_of_ble_eq_true rfl⟩) hK hP hD hS hA hG hl 15 0 (ci := 7) rfl rfl rfl rfl rfl rfl rfl rfl rfl (Nat.le_of_ble_eq_true rfl) dL_law_635 (Nat.le_of_ble_eq_true rfl) (Nat.le_of_ble_eq_true rfl) (fun H locs hP hD hS => ?_)
          refine lv_icmp_eq (tgt := 692) hx hb dL_law_638 (by decide) (fun hc414 => ?_) (fun hc414 => ?_)
          · replace h := g_it hc414 h
            obtain ⟨v415, e_v415⟩ : ∃ y : Int32, y = (v2 + (4 : Int32)) := ⟨_, rfl⟩
            replace h := jl_s e_v415 h
            refine lv_iinc (v := v415) (lv' := [(3, .int v415), (2, .ref m0), (1, .ref g0), (0, .ref b)]) hx hb dL_law_692 hl (k := 0) rfl (by rw [e_v415]; rfl) (by decide) rfl (fun ls hl => ?_)
            refine lv_goto (tgt := 18) hx hb dL_law_695 (by decide) ?_
            exact ih_rec1 v415 ke3 lnn4 pm5 ch_406 tl_408 nu8 le9 nx10 cmd11 pos12 rea13 cau14 xn15 xt16 xp17 xr18 xw19 h20 h21 h22 h23 h24 ss25 bg26 kp27 ik28 pt29 st30 tx411 ln412 asd33 att34 dn35 td36 fo37 nb38 _ _ _ hP hS (lv_sub hl [0, 1, 2, 3] rfl) h
          · replace h := g_if hc414 h
            refine lv_iconst (v := (0 : Int32)) hx hb dL_law_641 (by decide) ?_
            exact absurd ((Option.some.inj h).trans hres) (by decide)
        replace h := g_if hk59 h
        by_cases hk60 : ((xs (v2).toNatClampNeg) &&& (31 : Int32)) = (19 : Int32)
        · replace h := g_it hk60 h
          refine lv_tableIn (tgt := 643) (off := 611) hx hb dL_law_32 (by rw [hk60]; decide) (by rw [hk60]; decide) (by rw [hk60]; rfl) (by decide) ?_
          refine lv_aload_n hx hb dL_law_643 rfl (lv_at hl 2 rfl) ?_
          obtain ⟨r416, tl_418, hc419, h⟩ := bd2_s h
          refine g_callBi (As := []) (rest := []) (r := r416) (bs1 := [[(g0, .inr (6, [.ref (an 0), .ref (au 0), .ref (ap 0), .ref q0, .ref x0, .ref r0, .int ke3]))], [(q0, .inr (0, [.ref q1, .int lnn4]))], wHa E q1 ba pm5, wTx E x0 x1 x2 ch6 tl_418 nu8 le9 nx10, [(r0, .inr (3, [.ref (ar 0), .ref (aw 0), .int cmd11, .int pos12, .int rea13, .int cau14]))], wHuT E an xn15, wHuT E au xt16, wHuT E ap xp17, wHuT E ar xr18, wHuT E aw xw19, wHuT E (ba 0) h20, wHuT E (ba 1) h21, wHuT E (ba 2) h22, wHuT E (ba 3) h23, wHuT E (ba 4) h24, wMo E m0 m1 m2 m3 m4 m5 m6 m7 ss25 bg26 kp27 ik28 pt29 st30 tx31 ln32 asd33 att34 dn35 td36 fo37 nb38]) ⟨hx, hb, hml, hown, hts⟩ (kX6_clearText E l g0 q0 q1 x0 x1 x2 r0 an au ap ar aw ba ke3 lnn4 pm5 ch6 tl7 nu8 le9 nx10 cmd11 pos12 rea13 cau14 xn15 xt16 xp17 xr18 xw19 h20 h21 h22 h23 h24 (r416, tl_418) hc419) (cwV 0 hts gL_law_X6_clearText rfl rfl rfl (by decide +kernel) ⟨Nat.le_of_ble_eq_true rfl, Nat.le_of_ble_eq_true rfl⟩) hK hP hD hS hA hG hl [0, 1, 2, 3, 4, 5, 6, 7, 8, 9, 10, 11, 12, 13, 14] 0 0 (by decide) rfl (ci := 6) rfl rfl rfl rfl rfl rfl rfl rfl rfl rfl (Nat.le_of_ble_eq_true rfl) dL_law_644 (Nat.le_of_ble_eq_true rfl) (Nat.le_of_ble_eq_true rfl) (fun H locs hP hD hS => ?_)
          refine lv_aload_n hx hb dL_law_647 rfl (lv_at hl 1 rfl) ?_
          obtain ⟨r420, ln421, hc422, h⟩ := bd2_s h
          refine g_call1i (As := []) (rest := [.int r416]) (r := r420) (bs1 := [[(g0, .inr (6, [.ref (an 0), .ref (au 0), .ref (ap 0), .ref q0, .ref x0, .ref r0, .int ke3]))], [(q0, .inr (0, [.ref q1, .int lnn4]))], wHa E q1 ba pm5, wTx E x0 x1 x2 ch6 tl_418 nu8 le9 nx10, [(r0, .inr (3, [.ref (ar 0), .ref (aw 0), .int cmd11, .int pos12, .int rea13, .int cau14]))], wHuT E an xn15, wHuT E au xt16, wHuT E ap xp17, wHuT E ar xr18, wHuT E aw xw19, wHuT E (ba 0) h20, wHuT E (ba 1) h21, wHuT E (ba 2) h22, wHuT E (ba 3) h23, wHuT E (ba 4) h24, wMo E m0 m1 m2 m3 m4 m5 m6 m7 ss25 bg26 kp27 ik28 pt29 st30 tx31 ln421 asd33 att34 dn35 td36 fo37 nb38]) ⟨hx, hb, hml, hown, hts⟩ (kX7_clearText E l m0 m1 m2 m3 m4 m5 m6 m7 ss25 bg26 kp27 ik28 pt29 st30 tx31 ln32 asd33 att34 dn35 td36 fo37 nb38 (r420, ln421) hc422) (cwV 0 hts gL_law_X7_clearText rfl rfl rfl (by decide +kernel) ⟨Nat.le_of_ble_eq_true rfl, Nat.le_of_ble_eq_true rfl⟩) hK hP hD hS hA hG hl 15 0 (ci := 7) rfl rfl rfl rfl rfl rfl rfl rfl rfl (Nat.le_of_ble_eq_true rfl) dL_law_648 (Nat.le_of_ble_eq_true rfl) (Nat.le_of_ble_eq_true rfl) (fun H locs hP hD hS => ?_)
          refine lv_icmp_eq (tgt := 692) hx hb dL_law_651 (by decide) (fun hc423 => ?_) (fun hc423 => ?_)
          · replace h := g_it hc423 h
            obtain ⟨v424, e_v424⟩ : ∃ y : Int32, y = (v2 + (4 : Int32)) := ⟨_, rfl⟩
            replace h := jl_s e_v424 h
            refine lv_iinc (v := v424) (lv' := [(3, .int v424), (2, .ref m0), (1, .ref g0), (0, .ref b)]) hx hb dL_law_692 hl (k := 0) rfl (by rw [e_v424]; rfl) (by decide) rfl (fun ls hl => ?_)
            refine lv_goto (tgt := 18) hx hb dL_law_695 (by decide) ?_
            exact ih_rec1 v424 ke3 lnn4 pm5 ch6 tl_418 nu8 le9 nx10 cmd11 pos12 rea13 cau14 xn15 xt16 xp17 xr18 xw19 h20 h21 h22 h23 h24 ss25 bg26 kp27 ik28 pt29 st30 tx31 ln421 asd33 att34 dn35 td36 fo37 nb38 _ _ _ hP hS (lv_sub hl [0, 1, 2, 3] rfl) h
          · replace h := g_if hc423 h
            refine lv_iconst (v := (0 : Int32)) hx hb dL_law_654 (by decide) ?_
            exact absurd ((Option.some.inj h).trans hres) (by decide)
        replace h := g_if hk60 h
        by_cases hk61 : ((xs (v2).toNatClampNeg) &&& (31 : Int32)) = (20 : Int32)
        · replace h := g_it hk61 h
          refine lv_tableIn (tgt := 656) (off := 624) hx hb dL_law_32 (by rw [hk61]; decide) (by rw [hk61]; decide) (by rw [hk61]; rfl) (by decide) ?_
          refine lv_aload_n hx hb dL_law_656 rfl (lv_at hl 2 rfl) ?_
          refine lv_aload_n hx hb dL_law_657 rfl (lv_at hl 3 rfl) ?_
          refine lv_iload_n hx hb dL_law_658 rfl (lv_at hl 0 rfl) ?_
          refine lv_iconst (v := (1 : Int32)) hx hb dL_law_659 (by decide) ?_
          refine lv_iadd hx hb dL_law_660 ?_
          obtain ⟨hg425, h⟩ := gd_s h
          refine va_sld hx hb hX hbl hbA hS (inB_in hg425) dL_law_661 ?_
          obtain ⟨r426, nu_428, le_430, nx_432, cmd_434, pos_436, rea_438, cau_440, xr_442, xw_444, hc445, h⟩ := bd10_s h
          refine g_callBi (As := [.int (xs ((v2 + (1 : Int32))).toNatClampNeg)]) (rest := []) (r := r426) (bs1 := [[(g0, .inr (6, [.ref (an 0), .ref (au 0), .ref (ap 0), .ref q0, .ref x0, .ref r0, .int ke3]))], [(q0, .inr (0, [.ref q1, .int lnn4]))], wHa E q1 ba pm5, wTx E x0 x1 x2 ch6 tl7 nu_428 le_430 nx_432, [(r0, .inr (3, [.ref (ar 0), .ref (aw 0), .int cmd_434, .int pos_436, .int rea_438, .int cau_440]))], wHuT E an xn15, wHuT E au xt16, wHuT E ap xp17, wHuT E ar xr_442, wHuT E aw xw_444, wHuT E (ba 0) h20, wHuT E (ba 1) h21, wHuT E (ba 2) h22, wHuT E (ba 3) h23, wHuT E (ba 4) h24, wMo E m0 m1 m2 m3 m4 m5 m6 m7 ss25 bg26 kp27 ik28 pt29 st30 tx31 ln32 asd33 att34 dn35 td36 fo37 nb38]) ⟨hx, hb, hml, hown, hts⟩ (kX6_fault E l g0 q0 q1 x0 x1 x2 r0 an au ap ar aw ba ke3 lnn4 pm5 ch6 tl7 nu8 le9 nx10 cmd11 pos12 rea13 cau14 xn15 xt16 xp17 xr18 xw19 h20 h21 h22 h23 h24 (xs ((v2 + (1 : Int32))).toNatClampNeg) (r426, nu_428, le_430, nx_432, cmd_434, pos_436, rea_438, cau_440, xr_442, xw_444) hc445) (cwV 1 hts gL_law_X6_fault rfl rfl rfl (by decide +kernel) ⟨Nat.le_of_ble_eq_true rfl, Nat.le_of_ble_eq_true rfl⟩) hK hP hD hS hA hG hl [0, 1, 2, 3, 4, 5, 6, 7, 8, 9, 10, 11, 12, 13, 14] 0 0 (by decide) rfl (ci := 6) rfl rfl rfl rfl rfl rfl rfl rfl rfl rfl (Nat.le_of_ble_eq_true rfl) dL_law_662 (Nat.le_of_ble_eq_true rfl) (Nat.le_of_ble_eq_true rfl) (fun H locs hP hD hS => ?_)
          refine lv_aload_n hx hb dL_law_665 rfl (lv_at hl 1 rfl) ?_
          refine lv_aload_n hx hb dL_law_666 rfl (lv_at hl 3 rfl) ?_
          refine lv_iload_n hx hb dL_law_667 rfl (lv_at hl 0 rfl) ?_
          refine lv_iconst (v := (1 : Int32)) hx hb dL_law_668 (by decide) ?_
          refine lv_iadd hx hb dL_law_669 ?_
          refine va_sld hx hb hX hbl hbA hS (inB_in hg425) dL_law_670 ?_
          obtain ⟨r446, ss447, bg448, asd449, att450, dn451, td452, fo453, nb454, hc455, h⟩ := bd9_s h
          refine g_call1i (As := [.int (xs ((v2 + (1 : Int32))).toNatClampNeg)]) (rest := [.int r426]) (r := r446) (bs1 := [[(g0, .inr (6, [.ref (an 0), .ref (au 0), .ref (ap 0), .ref q0, .ref x0, .ref r0, .int ke3]))], [(q0, .inr (0, [.ref q1, .int lnn4]))], wHa E q1 ba pm5, wTx E x0 x1 x2 ch6 tl7 nu_428 le_430 nx_432, [(r0, .inr (3, [.ref (ar 0), .ref (aw 0), .int cmd_434, .int pos_436, .int rea_438, .int cau_440]))], wHuT E an xn15, wHuT E au xt16, wHuT E ap xp17, wHuT E ar xr_442, wHuT E aw xw_444, wHuT E (ba 0) h20, wHuT E (ba 1) h21, wHuT E (ba 2) h22, wHuT E (ba 3) h23, wHuT E (ba 4) h24, wMo E m0 m1 m2 m3 m4 m5 m6 m7 ss447 bg448 kp27 ik28 pt29 st30 tx31 ln32 asd449 att450 dn451 td452 fo453 nb454]) ⟨hx, hb, hml, hown, hts⟩ (kX7_fault E l m0 m1 m2 m3 m4 m5 m6 m7 ss25 bg26 kp27 ik28 pt29 st30 tx31 ln32 asd33 att34 dn35 td36 fo37 nb38 (xs ((v2 + (1 : Int32))).toNatClampNeg) (r446, ss447, bg448, asd449, att450, dn451, td452, fo453, nb454) hc455) (cwV 1 hts gL_law_X7_fault rfl rfl rfl (by decide +kernel) ⟨Nat.le_of_ble_eq_true rfl, Nat.le_of_ble_eq_true rfl⟩) hK hP hD hS hA hG hl 15 0 (ci := 7) rfl rfl rfl rfl rfl rfl rfl rfl rfl (Nat.le_of_ble_eq_true rfl) dL_law_671 (Nat.le_of_ble_eq_true rfl) (Nat.le_of_ble_eq_true rfl) (fun H locs hP hD hS => ?_)
          refine lv_icmp_eq (tgt := 692) hx hb dL_law_674 (by decide) (fun hc456 => ?_) (fun hc456 => ?_)
          · replace h := g_it hc456 h
            obtain ⟨v457, e_v457⟩ : ∃ y : Int32, y = (v2 + (4 : Int32)) := ⟨_, rfl⟩
            replace h := jl_s e_v457 h
            refine lv_iinc (v := v457) (lv' := [(3, .int v457), (2, .ref m0), (1, .ref g0), (0, .ref b)]) hx hb dL_law_692 hl (k := 0) rfl (by rw [e_v457]; rfl) (by decide) rfl (fun ls hl => ?_)
            refine lv_goto (tgt := 18) hx hb dL_law_695 (by decide) ?_
            exact ih_rec1 v457 ke3 lnn4 pm5 ch6 tl7 nu_428 le_430 nx_432 cmd_434 pos_436 rea_438 cau_440 xn15 xt16 xp17 xr_442 xw_444 h20 h21 h22 h23 h24 ss447 bg448 kp27 ik28 pt29 st30 tx31 ln32 asd449 att450 dn451 td452 fo453 nb454 _ _ _ hP hS (lv_sub hl [0, 1, 2, 3] rfl) h
          · replace h := g_if hc456 h
            refine lv_iconst (v := (0 : Int32)) hx hb dL_law_677 (by decide) ?_
            exact absurd ((Option.some.inj h).trans hres) (by decide)
        replace h := g_if hk61 h
        by_cases hk62 : ((xs (v2).toNatClampNeg) &&& (31 : Int32)) = (21 : Int32)
        · replace h := g_it hk62 h
          refine lv_tableIn (tgt := 679) (off := 647) hx hb dL_law_32 (by rw [hk62]; decide) (by rw [hk62]; decide) (by rw [hk62]; rfl) (by decide) ?_
          refine lv_aload_n hx hb dL_law_679 rfl (lv_at hl 2 rfl) ?_
          obtain ⟨r458, lnn_460, pm_462, nu_464, le_466, nx_468, cmd_470, pos_472, rea_474, cau_476, xn_478, xr_480, xw_482, h0_484, h1_486, h2_488, h3_490, h4_492, hc493, h⟩ := bd18_s h
          refine g_callBi (As := []) (rest := []) (r := r458) (bs1 := [[(g0, .inr (6, [.ref (an 0), .ref (au 0), .ref (ap 0), .ref q0, .ref x0, .ref r0, .int ke3]))], [(q0, .inr (0, [.ref q1, .int lnn_460]))], wHa E q1 ba pm_462, wTx E x0 x1 x2 ch6 tl7 nu_464 le_466 nx_468, [(r0, .inr (3, [.ref (ar 0), .ref (aw 0), .int cmd_470, .int pos_472, .int rea_474, .int cau_476]))], wHuT E an xn_478, wHuT E au xt16, wHuT E ap xp17, wHuT E ar xr_480, wHuT E aw xw_482, wHuT E (ba 0) h0_484, wHuT E (ba 1) h1_486, wHuT E (ba 2) h2_488, wHuT E (ba 3) h3_490, wHuT E (ba 4) h4_492, wMo E m0 m1 m2 m3 m4 m5 m6 m7 ss25 bg26 kp27 ik28 pt29 st30 tx31 ln32 asd33 att34 dn35 td36 fo37 nb38]) ⟨hx, hb, hml, hown, hts⟩ (kX6_play E l g0 q0 q1 x0 x1 x2 r0 an au ap ar aw ba ke3 lnn4 pm5 ch6 tl7 nu8 le9 nx10 cmd11 pos12 rea13 cau14 xn15 xt16 xp17 xr18 xw19 h20 h21 h22 h23 h24 (r458, lnn_460, pm_462, nu_464, le_466, nx_468, cmd_470, pos_472, rea_474, cau_476, xn_478, xr_480, xw_482, h0_484, h1_486, h2_488, h3_490, h4_492) hc493) (cwV 0 hts gL_law_X6_play rfl rfl rfl (by decide +kernel) ⟨Nat.le_of_ble_eq_true rfl, Nat.le_of_ble_eq_true rfl⟩) hK hP hD hS hA hG hl [0, 1, 2, 3, 4, 5, 6, 7, 8, 9, 10, 11, 12, 13, 14] 0 0 (by decide) rfl (ci := 6) rfl rfl rfl rfl rfl rfl rfl rfl rfl rfl (Nat.le_of_ble_eq_true rfl) dL_law_680 (Nat.le_of_ble_eq_true rfl) (Nat.le_of_ble_eq_true rfl) (fun H locs hP hD hS => ?_)
          refine lv_aload_n hx hb dL_law_683 rfl (lv_at hl 1 rfl) ?_
          obtain ⟨r494, ss495, bg496, pt497, st498, asd499, att500, dn501, td502, fo503, nb504, hc505, h⟩ := bd11_s h
          refine g_call1i (As := []) (rest := [.int r458]) (r := r494) (bs1 := [[(g0, .inr (6, [.ref (an 0), .ref (au 0), .ref (ap 0), .ref q0, .ref x0, .ref r0, .int ke3]))], [(q0, .inr (0, [.ref q1, .int lnn_460]))], wHa E q1 ba pm_462, wTx E x0 x1 x2 ch6 tl7 nu_464 le_466 nx_468, [(r0, .inr (3, [.ref (ar 0), .ref (aw 0), .int cmd_470, .int pos_472, .int rea_474, .int cau_476]))], wHuT E an xn_478, wHuT E au xt16, wHuT E ap xp17, wHuT E ar xr_480, wHuT E aw xw_482, wHuT E (ba 0) h0_484, wHuT E (ba 1) h1_486, wHuT E (ba 2) h2_488, wHuT E (ba 3) h3_490, wHuT E (ba 4) h4_492, wMo E m0 m1 m2 m3 m4 m5 m6 m7 ss495 bg496 kp27 ik28 pt497 st498 tx31 ln32 asd499 att500 dn501 td502 fo503 nb504]) ⟨hx, hb, hml, hown, hts⟩ (kX7_play E l m0 m1 m2 m3 m4 m5 m6 m7 ss25 bg26 kp27 ik28 pt29 st30 tx31 ln32 asd33 att34 dn35 td36 fo37 nb38 (r494, ss495, bg496, pt497, st498, asd499, att500, dn501, td502, fo503, nb504) hc505) (cwV 0 hts gL_law_X7_play rfl rfl rfl (by decide +kernel) ⟨Nat.le_of_ble_eq_true rfl, Nat.le_of_ble_eq_true rfl⟩) hK hP hD hS hA hG hl 15 0 (ci := 7) rfl rfl rfl rfl rfl rfl rfl rfl rfl (Nat.le_of_ble_eq_true rfl) dL_law_684 (Nat.le_of_ble_eq_true rfl) (Nat.le_of_ble_eq_true rfl) (fun H locs hP hD hS => ?_)
          refine lv_icmp_eq (tgt := 692) hx hb dL_law_687 (by decide) (fun hc506 => ?_) (fun hc506 => ?_)
          · replace h := g_it hc506 h
            obtain ⟨v507, e_v507⟩ : ∃ y : Int32, y = (v2 + (4 : Int32)) := ⟨_, rfl⟩
            replace h := jl_s e_v507 h
            refine lv_iinc (v := v507) (lv' := [(3, .int v507), (2, .ref m0), (1, .ref g0), (0, .ref b)]) hx hb dL_law_692 hl (k := 0) rfl (by rw [e_v507]; rfl) (by decide) rfl (fun ls hl => ?_)
            refine lv_goto (tgt := 18) hx hb dL_law_695 (by decide) ?_
            exact ih_rec1 v507 ke3 lnn_460 pm_462 ch6 tl7 nu_464 le_466 nx_468 cmd_470 pos_472 rea_474 cau_476 xn_478 xt16 xp17 xr_480 xw_482 h0_484 h1_486 h2_488 h3_490 h4_492 ss495 bg496 kp27 ik28 pt497 st498 tx31 ln32 asd499 att500 dn501 td502 fo503 nb504 _ _ _ hP hS (lv_sub hl [0, 1, 2, 3] rfl) h
          · replace h := g_if hc506 h
            refine lv_iconst (v := (0 : Int32)) hx hb dL_law_690 (by decide) ?_
            exact absurd ((Option.some.inj h).trans hres) (by decide)
        replace h := g_if hk62 h
        refine lv_tableOut (tgt := 692) hx hb dL_law_32 (by have q0 := lv_neT (a := 0) hk41 (by decide); have q1 := lv_neT (a := 1) hk42 (by decide); have q2 := lv_neT (a := 2) hk43 (by decide); have q3 := lv_neT (a := 3) hk44 (by decide); have q4 := lv_neT (a := 4) hk45 (by decide); have q5 := lv_neT (a := 5) hk46 (by decide); have q6 := lv_neT (a := 6) hk47 (by decide); have q7 := lv_neT (a := 7) hk48 (by decide); have q8 := lv_neT (a := 8) hk49 (by decide); have q9 := lv_neT (a := 9) hk50 (by decide); have q10 := lv_neT (a := 10) hk51 (by decide); have q11 := lv_neT (a := 11) hk52 (by decide); have q12 := lv_neT (a := 12) hk53 (by decide); have q13 := lv_neT (a := 13) hk54 (by decide); have q14 := lv_neT (a := 14) hk55 (by decide); have q15 := lv_neT (a := 15) hk56 (by decide); have q16 := lv_neT (a := 16) hk57 (by decide); have q17 := lv_neT (a := 17) hk58 (by decide); have q18 := lv_neT (a := 18) hk59 (by decide); have q19 := lv_neT (a := 19) hk60 (by decide); have q20 := lv_neT (a := 20) hk61 (by decide); have q21 := lv_neT (a := 21) hk62 (by decide); omega) (by decide) ?_
        obtain ⟨v508, e_v508⟩ : ∃ y : Int32, y = (v2 + (4 : Int32)) := ⟨_, rfl⟩
        replace h := jl_s e_v508 h
        refine lv_iinc (v := v508) (lv' := [(3, .int v508), (2, .ref m0), (1, .ref g0), (0, .ref b)]) hx hb dL_law_692 hl (k := 0) rfl (by rw [e_v508]; rfl) (by decide) rfl (fun ls hl => ?_)
        refine lv_goto (tgt := 18) hx hb dL_law_695 (by decide) ?_
        exact ih_rec1 v508 ke3 lnn4 pm5 ch6 tl7 nu8 le9 nx10 cmd11 pos12 rea13 cau14 xn15 xt16 xp17 xr18 xw19 h20 h21 h22 h23 h24 ss25 bg26 kp27 ik28 pt29 st30 tx31 ln32 asd33 att34 dn35 td36 fo37 nb38 _ _ _ hP hS (lv_sub hl [0, 1, 2, 3] rfl) h
  exact hL_rec1 gFU (0 : Int32) ke lnn pm ch tl nu le nx cmd pos rea cau xn xt xp xr xw h0 h1 h2 h3 h4 ss bg kp ik pt st tx ln asd att dn td fo nb _ _ _ hP hS (lv_sub hl [0, 1, 2, 3] rfl) h
