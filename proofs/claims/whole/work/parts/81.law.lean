set_option maxHeartbeats 40000000 in
set_option maxRecDepth 100000 in
theorem kL_law {p : Program} {e : Env} {s : State} {m : MethodId} {below : List Frame} {meth : Method} {c : Code} {l : Launch} {b L : Nat} {xs : Nat → Int32} (E : gE) (g0 q0 q1 x0 x1 x2 r0 : Nat) (an au ap ar : Nat → Nat) (ba : Nat → Nat → Nat) (m0 m1 m2 m3 m4 m5 m6 m7 : Nat) (ke : Int32) (lnn : Int32) (pm : Nat → Nat) (ch : Nat → Int32) (tl : Int32) (nu : Nat → Int32) (le : Int32) (nx : Int32) (cmd : Int32) (pos : Int32) (rea : Int32) (cau : Int32) (xn : HutS) (xt : HutS) (xp : HutS) (xr : HutS) (h0 : HutS) (h1 : HutS) (h2 : HutS) (h3 : HutS) (h4 : HutS) (ss : Nat → Int32) (bg : Nat → Int32) (kp : Nat → Int32) (ik : Int32) (pt : Nat → Int32) (st : Int32) (tx : Nat → Int32) (ln : Int32) (asd : Nat → Int32) (att : Int32) (dn : Int32) (td : Int32) (fo : Int32) (nb : Nat → Int32) (C0 : lw_At p s m meth c b L xs) (hK : va_K E.1 vwCl (gT E) s) (hG : gSt E (fun q : Nat => s.heap.size ≤ q) s s.heap) {H : Heap} {locs : List Loc} {ls : Array Slot} (hP : va_P E.1 vwCl (List.flatten [[(g0, .inr (6, [.ref (an 0), .ref (au 0), .ref (ap 0), .ref q0, .ref x0, .ref r0, .int ke]))], [(q0, .inr (0, [.ref q1, .int lnn]))], wHa E q1 ba pm, wTx E x0 x1 x2 ch tl nu le nx, [(r0, .inr (3, [.ref (ar 0), .ref (au 0), .int cmd, .int pos, .int rea, .int cau]))], wHuT E an xn, wHuT E au xt, wHuT E ap xp, wHuT E ar xr, wHuT E (ba 0) h0, wHuT E (ba 1) h1, wHuT E (ba 2) h2, wHuT E (ba 3) h3, wHuT E (ba 4) h4, wMo E m0 m1 m2 m3 m4 m5 m6 m7 ss bg kp ik pt st tx ln asd att dn td fo nb]) H) (hD : va_D (fun q : Nat => s.heap.size ≤ q) (List.flatten [[(g0, .inr (6, [.ref (an 0), .ref (au 0), .ref (ap 0), .ref q0, .ref x0, .ref r0, .int ke]))], [(q0, .inr (0, [.ref q1, .int lnn]))], wHa E q1 ba pm, wTx E x0 x1 x2 ch tl nu le nx, [(r0, .inr (3, [.ref (ar 0), .ref (au 0), .int cmd, .int pos, .int rea, .int cau]))], wHuT E an xn, wHuT E au xt, wHuT E ap xp, wHuT E ar xr, wHuT E (ba 0) h0, wHuT E (ba 1) h1, wHuT E (ba 2) h2, wHuT E (ba 3) h3, wHuT E (ba 4) h4, wMo E m0 m1 m2 m3 m4 m5 m6 m7 ss bg kp ik pt st tx ln asd att dn td fo nb])) (hS : va_S (fun q : Nat => s.heap.size ≤ q) s.heap H locs) (hl : lv_has ls 4 [(2, .ref m0), (1, .ref g0), (0, .ref b)]) (h : fL_law xs L ke lnn pm ch tl nu le nx cmd pos rea cau xn xt xp xr h0 h1 h2 h3 h4 ss bg kp ik pt st tx ln asd att dn td fo nb = some 1) : W p l e room_1 s m #[Value.ref b] below meth c H locs 195 10510 (lw_Z below #[Value.ref b] s) (F0 m 16 ls []) := by
  obtain ⟨hx, hb, hr, hml, hown, hts0, hX, hbl, hlocks, hgv⟩ := C0
  have hts := fun w (h : w ∈ wsL_law) => hts0 w (wsL_law_in w h)
  have hown : s.vm.findClass RL = some m.cls := hown
  have hA : ∀ q : Nat, s.heap.size ≤ q → (fun q : Nat => s.heap.size ≤ q) q := fun _ h => h
  have hbA : ¬ (fun q : Nat => s.heap.size ≤ q) b := Nat.not_le.mpr hbl
  generalize hAe : (fun q : Nat => s.heap.size ≤ q) = A at hK hG hP hD hS hA hbA
  obtain ⟨res, hres⟩ : ∃ r : Int32, r = 1 := ⟨1, rfl⟩
  rw [← hres] at h
  unfold fL_law at h
  refine lv_iconst (v := (0 : Int32)) hx hb dL_law_16 (by decide) ?_
  refine lv_istore_n (lv' := [(3, .int (0 : Int32)), (2, .ref m0), (1, .ref g0), (0, .ref b)]) hx hb dL_law_17 rfl hl (by decide) rfl (fun ls hl => ?_)
  refine gl36_e h (fun S_rec1 hS_rec1 h => ?_)
  have hL_rec1 : ∀ (nF : Nat) (v2 : Int32) (ke3 : Int32) (lnn4 : Int32) (pm5 : Nat → Nat) (ch6 : Nat → Int32) (tl7 : Int32) (nu8 : Nat → Int32) (le9 : Int32) (nx10 : Int32) (cmd11 : Int32) (pos12 : Int32) (rea13 : Int32) (cau14 : Int32) (xn15 : HutS) (xt16 : HutS) (xp17 : HutS) (xr18 : HutS) (h19 : HutS) (h20 : HutS) (h21 : HutS) (h22 : HutS) (h23 : HutS) (ss24 : Nat → Int32) (bg25 : Nat → Int32) (kp26 : Nat → Int32) (ik27 : Int32) (pt28 : Nat → Int32) (st29 : Int32) (tx30 : Nat → Int32) (ln31 : Int32) (asd32 : Nat → Int32) (att33 : Int32) (dn34 : Int32) (td35 : Int32) (fo36 : Int32) (nb37 : Nat → Int32) (H : Heap) (locs : List Loc) (ls : Array Slot), va_P E.1 vwCl (List.flatten [[(g0, .inr (6, [.ref (an 0), .ref (au 0), .ref (ap 0), .ref q0, .ref x0, .ref r0, .int ke3]))], [(q0, .inr (0, [.ref q1, .int lnn4]))], wHa E q1 ba pm5, wTx E x0 x1 x2 ch6 tl7 nu8 le9 nx10, [(r0, .inr (3, [.ref (ar 0), .ref (au 0), .int cmd11, .int pos12, .int rea13, .int cau14]))], wHuT E an xn15, wHuT E au xt16, wHuT E ap xp17, wHuT E ar xr18, wHuT E (ba 0) h19, wHuT E (ba 1) h20, wHuT E (ba 2) h21, wHuT E (ba 3) h22, wHuT E (ba 4) h23, wMo E m0 m1 m2 m3 m4 m5 m6 m7 ss24 bg25 kp26 ik27 pt28 st29 tx30 ln31 asd32 att33 dn34 td35 fo36 nb37]) H → va_S A s.heap H locs → lv_has ls 4 [(3, .int v2), (2, .ref m0), (1, .ref g0), (0, .ref b)] → gl36 S_rec1 nF v2 ke3 lnn4 pm5 ch6 tl7 nu8 le9 nx10 cmd11 pos12 rea13 cau14 xn15 xt16 xp17 xr18 h19 h20 h21 h22 h23 ss24 bg25 kp26 ik27 pt28 st29 tx30 ln31 asd32 att33 dn34 td35 fo36 nb37 = some res → W p l e room_1 s m #[Value.ref b] below meth c H locs 195 10510 (lw_Z below #[Value.ref b] s) (F0 m 18 ls []) := by
    intro nF
    induction nF with
    | zero => intro v2 ke3 lnn4 pm5 ch6 tl7 nu8 le9 nx10 cmd11 pos12 rea13 cau14 xn15 xt16 xp17 xr18 h19 h20 h21 h22 h23 ss24 bg25 kp26 ik27 pt28 st29 tx30 ln31 asd32 att33 dn34 td35 fo36 nb37 H locs ls hP hS hl h; exact gl36_z h
    | succ nF ih_rec1 =>
      intro v2 ke3 lnn4 pm5 ch6 tl7 nu8 le9 nx10 cmd11 pos12 rea13 cau14 xn15 xt16 xp17 xr18 h19 h20 h21 h22 h23 ss24 bg25 kp26 ik27 pt28 st29 tx30 ln31 asd32 att33 dn34 td35 fo36 nb37 H locs ls hP hS hl h
      replace hD : va_D A (List.flatten [[(g0, .inr (6, [.ref (an 0), .ref (au 0), .ref (ap 0), .ref q0, .ref x0, .ref r0, .int ke3]))], [(q0, .inr (0, [.ref q1, .int lnn4]))], wHa E q1 ba pm5, wTx E x0 x1 x2 ch6 tl7 nu8 le9 nx10, [(r0, .inr (3, [.ref (ar 0), .ref (au 0), .int cmd11, .int pos12, .int rea13, .int cau14]))], wHuT E an xn15, wHuT E au xt16, wHuT E ap xp17, wHuT E ar xr18, wHuT E (ba 0) h19, wHuT E (ba 1) h20, wHuT E (ba 2) h21, wHuT E (ba 3) h22, wHuT E (ba 4) h23, wMo E m0 m1 m2 m3 m4 m5 m6 m7 ss24 bg25 kp26 ik27 pt28 st29 tx30 ln31 asd32 att33 dn34 td35 fo36 nb37]) := gD_same hD rfl
      replace h : S_rec1 (gl36 S_rec1 nF) v2 ke3 lnn4 pm5 ch6 tl7 nu8 le9 nx10 cmd11 pos12 rea13 cau14 xn15 xt16 xp17 xr18 h19 h20 h21 h22 h23 ss24 bg25 kp26 ik27 pt28 st29 tx30 ln31 asd32 att33 dn34 td35 fo36 nb37 = some res := h
      generalize gl36 S_rec1 nF = rec1 at h ih_rec1
      subst hS_rec1
      unfold sL_law_rec1 at h
      refine lv_iload_n hx hb dL_law_18 rfl (lv_at hl 0 rfl) ?_
      refine lv_aload_n hx hb dL_law_19 rfl (lv_at hl 3 rfl) ?_
      refine va_slen hx hb hX hbl hbA hS dL_law_20 ?_
      refine lv_iconst (v := (4 : Int32)) hx hb dL_law_21 (by decide) ?_
      refine lv_isub hx hb dL_law_22 ?_
      refine lv_icmp_gt (tgt := 698) hx hb dL_law_23 (by decide) (fun hc38 => ?_) (fun hc38 => ?_)
      · replace h := g_it hc38 h
        refine lv_iconst (v := (1 : Int32)) hx hb dL_law_698 (by decide) ?_
        refine va_forget (fun q hq => by have h9 := hS.2.2 q hq; rw [← hAe] at h9; exact h9) ?_
        refine W.widen (k := 600000) (n := 7302250) (Nat.le_of_ble_eq_true rfl) (Nat.le_of_ble_eq_true rfl) ?_
        exact lw_ret hx hb hr hlocks dL_law_699
      · replace h := g_if hc38 h
        refine lv_aload_n hx hb dL_law_26 rfl (lv_at hl 3 rfl) ?_
        refine lv_iload_n hx hb dL_law_27 rfl (lv_at hl 0 rfl) ?_
        obtain ⟨hg39, h⟩ := gd_s h
        refine va_sld hx hb hX hbl hbA hS (inB_in hg39) dL_law_28 ?_
        refine lv_bipush (v := (31 : Int32)) hx hb dL_law_29 (by decide) ?_
        refine lv_iand hx hb dL_law_31 ?_
        by_cases hk40 : ((xs (v2).toNatClampNeg) &&& (31 : Int32)) = (0 : Int32)
        · replace h := g_it hk40 h
          refine lv_tableIn (tgt := 136) (off := 104) hx hb dL_law_32 (by rw [hk40]; decide) (by rw [hk40]; decide) (by rw [hk40]; rfl) (by decide) ?_
          refine lv_aload_n hx hb dL_law_136 rfl (lv_at hl 2 rfl) ?_
          refine lv_aload_n hx hb dL_law_137 rfl (lv_at hl 3 rfl) ?_
          refine lv_iload_n hx hb dL_law_138 rfl (lv_at hl 0 rfl) ?_
          refine lv_iconst (v := (1 : Int32)) hx hb dL_law_139 (by decide) ?_
          refine lv_iadd hx hb dL_law_140 ?_
          obtain ⟨hg62, h⟩ := gd_s h
          refine va_sld hx hb hX hbl hbA hS (inB_in hg62) dL_law_141 ?_
          refine lv_aload_n hx hb dL_law_142 rfl (lv_at hl 3 rfl) ?_
          refine lv_iload_n hx hb dL_law_143 rfl (lv_at hl 0 rfl) ?_
          refine lv_iconst (v := (2 : Int32)) hx hb dL_law_144 (by decide) ?_
          refine lv_iadd hx hb dL_law_145 ?_
          obtain ⟨hg63, h⟩ := gd_s h
          refine va_sld hx hb hX hbl hbA hS (inB_in hg63) dL_law_146 ?_
          refine lv_aload_n hx hb dL_law_147 rfl (lv_at hl 3 rfl) ?_
          refine lv_iload_n hx hb dL_law_148 rfl (lv_at hl 0 rfl) ?_
          refine lv_iconst (v := (3 : Int32)) hx hb dL_law_149 (by decide) ?_
          refine lv_iadd hx hb dL_law_150 ?_
          obtain ⟨hg64, h⟩ := gd_s h
          refine va_sld hx hb hX hbl hbA hS (inB_in hg64) dL_law_151 ?_
          obtain ⟨r65, lnn_67, pm_69, xn_71, h0_73, h1_75, h2_77, h3_79, h4_81, hc82, h⟩ := bd9_s h
          refine g_callBi (As := [.int (xs ((v2 + (1 : Int32))).toNatClampNeg), .int (xs ((v2 + (2 : Int32))).toNatClampNeg), .int (xs ((v2 + (3 : Int32))).toNatClampNeg)]) (rest := []) (r := r65) (bs1 := [[(g0, .inr (6, [.ref (an 0), .ref (au 0), .ref (ap 0), .ref q0, .ref x0, .ref r0, .int ke3]))], [(q0, .inr (0, [.ref q1, .int lnn_67]))], wHa E q1 ba pm_69, wTx E x0 x1 x2 ch6 tl7 nu8 le9 nx10, [(r0, .inr (3, [.ref (ar 0), .ref (au 0), .int cmd11, .int pos12, .int rea13, .int cau14]))], wHuT E an xn_71, wHuT E au xt16, wHuT E ap xp17, wHuT E ar xr18, wHuT E (ba 0) h0_73, wHuT E (ba 1) h1_75, wHuT E (ba 2) h2_77, wHuT E (ba 3) h3_79, wHuT E (ba 4) h4_81, wMo E m0 m1 m2 m3 m4 m5 m6 m7 ss24 bg25 kp26 ik27 pt28 st29 tx30 ln31 asd32 att33 dn34 td35 fo36 nb37]) ⟨hx, hb, hml, hown, hts⟩ (kX6_load E l g0 q0 q1 x0 x1 x2 r0 an au ap ar ba ke3 lnn4 pm5 ch6 tl7 nu8 le9 nx10 cmd11 pos12 rea13 cau14 xn15 xt16 xp17 xr18 h19 h20 h21 h22 h23 (xs ((v2 + (1 : Int32))).toNatClampNeg) (xs ((v2 + (2 : Int32))).toNatClampNeg) (xs ((v2 + (3 : Int32))).toNatClampNeg) (r65, lnn_67, pm_69, xn_71, h0_73, h1_75, h2_77, h3_79, h4_81) hc82) (cwV 3 hts gL_law_X6_load rfl rfl rfl (by decide +kernel) ⟨Nat.le_of_ble_eq_true rfl, Nat.le_of_ble_eq_true rfl⟩) hK hP hD hS hA hG hl [0, 1, 2, 3, 4, 5, 6, 7, 8, 9, 10, 11, 12, 13] 0 0 (by decide) rfl (ci := 6) rfl rfl rfl rfl rfl rfl rfl rfl rfl rfl (Nat.le_of_ble_eq_true rfl) dL_law_152 (Nat.le_of_ble_eq_true rfl) (Nat.le_of_ble_eq_true rfl) (fun H locs hP hD hS => ?_)
          refine lv_aload_n hx hb dL_law_155 rfl (lv_at hl 1 rfl) ?_
          refine lv_aload_n hx hb dL_law_156 rfl (lv_at hl 3 rfl) ?_
          refine lv_iload_n hx hb dL_law_157 rfl (lv_at hl 0 rfl) ?_
          refine lv_iconst (v := (1 : Int32)) hx hb dL_law_158 (by decide) ?_
          refine lv_iadd hx hb dL_law_159 ?_
          refine va_sld hx hb hX hbl hbA hS (inB_in hg62) dL_law_160 ?_
          refine lv_aload_n hx hb dL_law_161 rfl (lv_at hl 3 rfl) ?_
          refine lv_iload_n hx hb dL_law_162 rfl (lv_at hl 0 rfl) ?_
          refine lv_iconst (v := (2 : Int32)) hx hb dL_law_163 (by decide) ?_
          refine lv_iadd hx hb dL_law_164 ?_
          refine va_sld hx hb hX hbl hbA hS (inB_in hg63) dL_law_165 ?_
          refine lv_aload_n hx hb dL_law_166 rfl (lv_at hl 3 rfl) ?_
          refine lv_iload_n hx hb dL_law_167 rfl (lv_at hl 0 rfl) ?_
          refine lv_iconst (v := (3 : Int32)) hx hb dL_law_168 (by decide) ?_
          refine lv_iadd hx hb dL_law_169 ?_
          refine va_sld hx hb hX hbl hbA hS (inB_in hg64) dL_law_170 ?_
          obtain ⟨r83, ss84, bg85, pt86, st87, hc88, h⟩ := bd5_s h
          refine g_call1i (As := [.int (xs ((v2 + (1 : Int32))).toNatClampNeg), .int (xs ((v2 + (2 : Int32))).toNatClampNeg), .int (xs ((v2 + (3 : Int32))).toNatClampNeg)]) (rest := [.int r65]) (r := r83) (bs1 := [[(g0, .inr (6, [.ref (an 0), .ref (au 0), .ref (ap 0), .ref q0, .ref x0, .ref r0, .int ke3]))], [(q0, .inr (0, [.ref q1, .int lnn_67]))], wHa E q1 ba pm_69, wTx E x0 x1 x2 ch6 tl7 nu8 le9 nx10, [(r0, .inr (3, [.ref (ar 0), .ref (au 0), .int cmd11, .int pos12, .int rea13, .int cau14]))], wHuT E an xn_71, wHuT E au xt16, wHuT E ap xp17, wHuT E ar xr18, wHuT E (ba 0) h0_73, wHuT E (ba 1) h1_75, wHuT E (ba 2) h2_77, wHuT E (ba 3) h3_79, wHuT E (ba 4) h4_81, wMo E m0 m1 m2 m3 m4 m5 m6 m7 ss84 bg85 kp26 ik27 pt86 st87 tx30 ln31 asd32 att33 dn34 td35 fo36 nb37]) ⟨hx, hb, hml, hown, hts⟩ (kX7_load E l m0 m1 m2 m3 m4 m5 m6 m7 ss24 bg25 kp26 ik27 pt28 st29 tx30 ln31 asd32 att33 dn34 td35 fo36 nb37 (xs ((v2 + (1 : Int32))).toNatClampNeg) (xs ((v2 + (2 : Int32))).toNatClampNeg) (xs ((v2 + (3 : Int32))).toNatClampNeg) (r83, ss84, bg85, pt86, st87) hc88) (cwV 3 hts gL_law_X7_load rfl rfl rfl (by decide +kernel) ⟨Nat.le_of_ble_eq_true rfl, Nat.le_of_ble_eq_true rfl⟩) hK hP hD hS hA hG hl 14 0 (ci := 7) rfl rfl rfl rfl rfl rfl rfl rfl rfl (Nat.le_of_ble_eq_true rfl) dL_law_171 (Nat.le_of_ble_eq_true rfl) (Nat.le_of_ble_eq_true rfl) (fun H locs hP hD hS => ?_)
          refine lv_icmp_eq (tgt := 692) hx hb dL_law_174 (by decide) (fun hc89 => ?_) (fun hc89 => ?_)
          · replace h := g_it hc89 h
            obtain ⟨v90, e_v90⟩ : ∃ y : Int32, y = (v2 + (4 : Int32)) := ⟨_, rfl⟩
            replace h := jl_s e_v90 h
            refine lv_iinc (v := v90) (lv' := [(3, .int v90), (2, .ref m0), (1, .ref g0), (0, .ref b)]) hx hb dL_law_692 hl (k := 0) rfl (by rw [e_v90]; rfl) (by decide) rfl (fun ls hl => ?_)
            refine lv_goto (tgt := 18) hx hb dL_law_695 (by decide) ?_
            exact ih_rec1 v90 ke3 lnn_67 pm_69 ch6 tl7 nu8 le9 nx10 cmd11 pos12 rea13 cau14 xn_71 xt16 xp17 xr18 h0_73 h1_75 h2_77 h3_79 h4_81 ss84 bg85 kp26 ik27 pt86 st87 tx30 ln31 asd32 att33 dn34 td35 fo36 nb37 _ _ _ hP hS (lv_sub hl [0, 1, 2, 3] rfl) h
          · replace h := g_if hc89 h
            refine lv_iconst (v := (0 : Int32)) hx hb dL_law_177 (by decide) ?_
            exact absurd ((Option.some.inj h).trans hres) (by decide)
        replace h := g_if hk40 h
        by_cases hk41 : ((xs (v2).toNatClampNeg) &&& (31 : Int32)) = (1 : Int32)
        · replace h := g_it hk41 h
          refine lv_tableIn (tgt := 179) (off := 147) hx hb dL_law_32 (by rw [hk41]; decide) (by rw [hk41]; decide) (by rw [hk41]; rfl) (by decide) ?_
          refine lv_aload_n hx hb dL_law_179 rfl (lv_at hl 2 rfl) ?_
          obtain ⟨r91, lnn_93, pm_95, xn_97, h0_99, h1_101, h2_103, h3_105, h4_107, hc108, h⟩ := bd9_s h
          refine g_callBi (As := []) (rest := []) (r := r91) (bs1 := [[(g0, .inr (6, [.ref (an 0), .ref (au 0), .ref (ap 0), .ref q0, .ref x0, .ref r0, .int ke3]))], [(q0, .inr (0, [.ref q1, .int lnn_93]))], wHa E q1 ba pm_95, wTx E x0 x1 x2 ch6 tl7 nu8 le9 nx10, [(r0, .inr (3, [.ref (ar 0), .ref (au 0), .int cmd11, .int pos12, .int rea13, .int cau14]))], wHuT E an xn_97, wHuT E au xt16, wHuT E ap xp17, wHuT E ar xr18, wHuT E (ba 0) h0_99, wHuT E (ba 1) h1_101, wHuT E (ba 2) h2_103, wHuT E (ba 3) h3_105, wHuT E (ba 4) h4_107, wMo E m0 m1 m2 m3 m4 m5 m6 m7 ss24 bg25 kp26 ik27 pt28 st29 tx30 ln31 asd32 att33 dn34 td35 fo36 nb37]) ⟨hx, hb, hml, hown, hts⟩ (kX6_fly E l g0 q0 q1 x0 x1 x2 r0 an au ap ar ba ke3 lnn4 pm5 ch6 tl7 nu8 le9 nx10 cmd11 pos12 rea13 cau14 xn15 xt16 xp17 xr18 h19 h20 h21 h22 h23 (r91, lnn_93, pm_95, xn_97, h0_99, h1_101, h2_103, h3_105, h4_107) hc108) (cwV 0 hts gL_law_X6_fly rfl rfl rfl (by decide +kernel) ⟨Nat.le_of_ble_eq_true rfl, Nat.le_of_ble_eq_true rfl⟩) hK hP hD hS hA hG hl [0, 1, 2, 3, 4, 5, 6, 7, 8, 9, 10, 11, 12, 13] 0 0 (by decide) rfl (ci := 6) rfl rfl rfl rfl rfl rfl rfl rfl rfl rfl (Nat.le_of_ble_eq_true rfl) dL_law_180 (Nat.le_of_ble_eq_true rfl) (Nat.le_of_ble_eq_true rfl) (fun H locs hP hD hS => ?_)
          refine lv_aload_n hx hb dL_law_183 rfl (lv_at hl 1 rfl) ?_
          obtain ⟨r109, ss110, bg111, pt112, st113, hc114, h⟩ := bd5_s h
          refine g_call1i (As := []) (rest := [.int r91]) (r := r109) (bs1 := [[(g0, .inr (6, [.ref (an 0), .ref (au 0), .ref (ap 0), .ref q0, .ref x0, .ref r0, .int ke3]))], [(q0, .inr (0, [.ref q1, .int lnn_93]))], wHa E q1 ba pm_95, wTx E x0 x1 x2 ch6 tl7 nu8 le9 nx10, [(r0, .inr (3, [.ref (ar 0), .ref (au 0), .int cmd11, .int pos12, .int rea13, .int cau14]))], wHuT E an xn_97, wHuT E au xt16, wHuT E ap xp17, wHuT E ar xr18, wHuT E (ba 0) h0_99, wHuT E (ba 1) h1_101, wHuT E (ba 2) h2_103, wHuT E (ba 3) h3_105, wHuT E (ba 4) h4_107, wMo E m0 m1 m2 m3 m4 m5 m6 m7 ss110 bg111 kp26 ik27 pt112 st113 tx30 ln31 asd32 att33 dn34 td35 fo36 nb37]) ⟨hx, hb, hml, hown, hts⟩ (kX7_fly E l m0 m1 m2 m3 m4 m5 m6 m7 ss24 bg25 kp26 ik27 pt28 st29 tx30 ln31 asd32 att33 dn34 td35 fo36 nb37 (r109, ss110, bg111, pt112, st113) hc114) (cwV 0 hts gL_law_X7_fly rfl rfl rfl (by decide +kernel) ⟨Nat.le_of_ble_eq_true rfl, Nat.le_of_ble_eq_true rfl⟩) hK hP hD hS hA hG hl 14 0 (ci := 7) rfl rfl rfl rfl rfl rfl rfl rfl rfl (Nat.le_of_ble_eq_true rfl) dL_law_184 (Nat.le_of_ble_eq_true rfl) (Nat.le_of_ble_eq_true rfl) (fun H locs hP hD hS => ?_)
          refine lv_icmp_eq (tgt := 692) hx hb dL_law_187 (by decide) (fun hc115 => ?_) (fun hc115 => ?_)
          · replace h := g_it hc115 h
            obtain ⟨v116, e_v116⟩ : ∃ y : Int32, y = (v2 + (4 : Int32)) := ⟨_, rfl⟩
            replace h := jl_s e_v116 h
            refine lv_iinc (v := v116) (lv' := [(3, .int v116), (2, .ref m0), (1, .ref g0), (0, .ref b)]) hx hb dL_law_692 hl (k := 0) rfl (by rw [e_v116]; rfl) (by decide) rfl (fun ls hl => ?_)
            refine lv_goto (tgt := 18) hx hb dL_law_695 (by decide) ?_
            exact ih_rec1 v116 ke3 lnn_93 pm_95 ch6 tl7 nu8 le9 nx10 cmd11 pos12 rea13 cau14 xn_97 xt16 xp17 xr18 h0_99 h1_101 h2_103 h3_105 h4_107 ss110 bg111 kp26 ik27 pt112 st113 tx30 ln31 asd32 att33 dn34 td35 fo36 nb37 _ _ _ hP hS (lv_sub hl [0, 1, 2, 3] rfl) h
          · replace h := g_if hc115 h
            refine lv_iconst (v := (0 : Int32)) hx hb dL_law_190 (by decide) ?_
            exact absurd ((Option.some.inj h).trans hres) (by decide)
        replace h := g_if hk41 h
        by_cases hk42 : ((xs (v2).toNatClampNeg) &&& (31 : Int32)) = (2 : Int32)
        · replace h := g_it hk42 h
          refine lv_tableIn (tgt := 192) (off := 160) hx hb dL_law_32 (by rw [hk42]; decide) (by rw [hk42]; decide) (by rw [hk42]; rfl) (by decide) ?_
          refine lv_aload_n hx hb dL_law_192 rfl (lv_at hl 2 rfl) ?_
          refine lv_aload_n hx hb dL_law_193 rfl (lv_at hl 3 rfl) ?_
          refine lv_iload_n hx hb dL_law_194 rfl (lv_at hl 0 rfl) ?_
          refine lv_iconst (v := (1 : Int32)) hx hb dL_law_195 (by decide) ?_
          refine lv_iadd hx hb dL_law_196 ?_
          obtain ⟨hg117, h⟩ := gd_s h
          refine va_sld hx hb hX hbl hbA hS (inB_in hg117) dL_law_197 ?_
          refine lv_aload_n hx hb dL_law_198 rfl (lv_at hl 3 rfl) ?_
          refine lv_iload_n hx hb dL_law_199 rfl (lv_at hl 0 rfl) ?_
          refine lv_iconst (v := (2 : Int32)) hx hb dL_law_200 (by decide) ?_
          refine lv_iadd hx hb dL_law_201 ?_
          obtain ⟨hg118, h⟩ := gd_s h
          refine va_sld hx hb hX hbl hbA hS (inB_in hg118) dL_law_202 ?_
          refine lv_aload_n hx hb dL_law_203 rfl (lv_at hl 3 rfl) ?_
          refine lv_iload_n hx hb dL_law_204 rfl (lv_at hl 0 rfl) ?_
          refine lv_iconst (v := (3 : Int32)) hx hb dL_law_205 (by decide) ?_
          refine lv_iadd hx hb dL_law_206 ?_
          obtain ⟨hg119, h⟩ := gd_s h
          refine va_sld hx hb hX hbl hbA hS (inB_in hg119) dL_law_207 ?_
          obtain ⟨r120, lnn_122, pm_124, xn_126, xt_128, h0_130, h1_132, h2_134, h3_136, h4_138, hc139, h⟩ := bd10_s h
          refine g_callBi (As := [.int (xs ((v2 + (1 : Int32))).toNatClampNeg), .int (xs ((v2 + (2 : Int32))).toNatClampNeg), .int (xs ((v2 + (3 : Int32))).toNatClampNeg)]) (rest := []) (r := r120) (bs1 := [[(g0, .inr (6, [.ref (an 0), .ref (au 0), .ref (ap 0), .ref q0, .ref x0, .ref r0, .int ke3]))], [(q0, .inr (0, [.ref q1, .int lnn_122]))], wHa E q1 ba pm_124, wTx E x0 x1 x2 ch6 tl7 nu8 le9 nx10, [(r0, .inr (3, [.ref (ar 0), .ref (au 0), .int cmd11, .int pos12, .int rea13, .int cau14]))], wHuT E an xn_126, wHuT E au xt_128, wHuT E ap xp17, wHuT E ar xr18, wHuT E (ba 0) h0_130, wHuT E (ba 1) h1_132, wHuT E (ba 2) h2_134, wHuT E (ba 3) h3_136, wHuT E (ba 4) h4_138, wMo E m0 m1 m2 m3 m4 m5 m6 m7 ss24 bg25 kp26 ik27 pt28 st29 tx30 ln31 asd32 att33 dn34 td35 fo36 nb37]) ⟨hx, hb, hml, hown, hts⟩ (kX6_book E l g0 q0 q1 x0 x1 x2 r0 an au ap ar ba ke3 lnn4 pm5 ch6 tl7 nu8 le9 nx10 cmd11 pos12 rea13 cau14 xn15 xt16 xp17 xr18 h19 h20 h21 h22 h23 (xs ((v2 + (1 : Int32))).toNatClampNeg) (xs ((v2 + (2 : Int32))).toNatClampNeg) (xs ((v2 + (3 : Int32))).toNatClampNeg) (r120, lnn_122, pm_124, xn_126, xt_128, h0_130, h1_132, h2_134, h3_136, h4_138) hc139) (cwV 3 hts gL_law_X6_book rfl rfl rfl (by decide +kernel) ⟨Nat.le_of_ble_eq_true rfl, Nat.le_of_ble_eq_true rfl⟩) hK hP hD hS hA hG hl [0, 1, 2, 3, 4, 5, 6, 7, 8, 9, 10, 11, 12, 13] 0 0 (by decide) rfl (ci := 6) rfl rfl rfl rfl rfl rfl rfl rfl rfl rfl (Nat.le_of_ble_eq_true rfl) dL_law_208 (Nat.le_of_ble_eq_true rfl) (Nat.le_of_ble_eq_true rfl) (fun H locs hP hD hS => ?_)
          refine lv_aload_n hx hb dL_law_211 rfl (lv_at hl 1 rfl) ?_
          refine lv_aload_n hx hb dL_law_212 rfl (lv_at hl 3 rfl) ?_
          refine lv_iload_n hx hb dL_law_213 rfl (lv_at hl 0 rfl) ?_
          refine lv_iconst (v := (1 : Int32)) hx hb dL_law_214 (by decide) ?_
          refine lv_iadd hx hb dL_law_215 ?_
          refine va_sld hx hb hX hbl hbA hS (inB_in hg117) dL_law_216 ?_
          refine lv_aload_n hx hb dL_law_217 rfl (lv_at hl 3 rfl) ?_
          refine lv_iload_n hx hb dL_law_218 rfl (lv_at hl 0 rfl) ?_
          refine lv_iconst (v := (2 : Int32)) hx hb dL_law_219 (by decide) ?_
          refine lv_iadd hx hb dL_law_220 ?_
          refine va_sld hx hb hX hbl hbA hS (inB_in hg118) dL_law_221 ?_
          refine lv_aload_n hx hb dL_law_222 rfl (lv_at hl 3 rfl) ?_
          refine lv_iload_n hx hb dL_law_223 rfl (lv_at hl 0 rfl) ?_
          refine lv_iconst (v := (3 : Int32)) hx hb dL_law_224 (by decide) ?_
          refine lv_iadd hx hb dL_law_225 ?_
          refine va_sld hx hb hX hbl hbA hS (inB_in hg119) dL_law_226 ?_
          obtain ⟨r140, ss141, bg142, pt143, st144, asd145, hc146, h⟩ := bd6_s h
          refine g_call1i (As := [.int (xs ((v2 + (1 : Int32))).toNatClampNeg), .int (xs ((v2 + (2 : Int32))).toNatClampNeg), .int (xs ((v2 + (3 : Int32))).toNatClampNeg)]) (rest := [.int r120]) (r := r140) (bs1 := [[(g0, .inr (6, [.ref (an 0), .ref (au 0), .ref (ap 0), .ref q0, .ref x0, .ref r0, .int ke3]))], [(q0, .inr (0, [.ref q1, .int lnn_122]))], wHa E q1 ba pm_124, wTx E x0 x1 x2 ch6 tl7 nu8 le9 nx10, [(r0, .inr (3, [.ref (ar 0), .ref (au 0), .int cmd11, .int pos12, .int rea13, .int cau14]))], wHuT E an xn_126, wHuT E au xt_128, wHuT E ap xp17, wHuT E ar xr18, wHuT E (ba 0) h0_130, wHuT E (ba 1) h1_132, wHuT E (ba 2) h2_134, wHuT E (ba 3) h3_136, wHuT E (ba 4) h4_138, wMo E m0 m1 m2 m3 m4 m5 m6 m7 ss141 bg142 kp26 ik27 pt143 st144 tx30 ln31 asd145 att33 dn34 td35 fo36 nb37]) ⟨hx, hb, hml, hown, hts⟩ (kX7_book E l m0 m1 m2 m3 m4 m5 m6 m7 ss24 bg25 kp26 ik27 pt28 st29 tx30 ln31 asd32 att33 dn34 td35 fo36 nb37 (xs ((v2 + (1 : Int32))).toNatClampNeg) (xs ((v2 + (2 : Int32))).toNatClampNeg) (xs ((v2 + (3 : Int32))).toNatClampNeg) (r140, ss141, bg142, pt143, st144, asd145) hc146) (cwV 3 hts gL_law_X7_book rfl rfl rfl (by decide +kernel) ⟨Nat.le_of_ble_eq_true rfl, Nat.le_of_ble_eq_true rfl⟩) hK hP hD hS hA hG hl 14 0 (ci := 7) rfl rfl rfl rfl rfl rfl rfl rfl rfl (Nat.le_of_ble_eq_true rfl) dL_law_227 (Nat.le_of_ble_eq_true rfl) (Nat.le_of_ble_eq_true rfl) (fun H locs hP hD hS => ?_)
          refine lv_icmp_eq (tgt := 692) hx hb dL_law_230 (by decide) (fun hc147 => ?_) (fun hc147 => ?_)
          · replace h := g_it hc147 h
            obtain ⟨v148, e_v148⟩ : ∃ y : Int32, y = (v2 + (4 : Int32)) := ⟨_, rfl⟩
            replace h := jl_s e_v148 h
            refine lv_iinc (v := v148) (lv' := [(3, .int v148), (2, .ref m0), (1, .ref g0), (0, .ref b)]) hx hb dL_law_692 hl (k := 0) rfl (by rw [e_v148]; rfl) (by decide) rfl (fun ls hl => ?_)
            refine lv_goto (tgt := 18) hx hb dL_law_695 (by decide) ?_
            exact ih_rec1 v148 ke3 lnn_122 pm_124 ch6 tl7 nu8 le9 nx10 cmd11 pos12 rea13 cau14 xn_126 xt_128 xp17 xr18 h0_130 h1_132 h2_134 h3_136 h4_138 ss141 bg142 kp26 ik27 pt143 st144 tx30 ln31 asd145 att33 dn34 td35 fo36 nb37 _ _ _ hP hS (lv_sub hl [0, 1, 2, 3] rfl) h
          · replace h := g_if hc147 h
            refine lv_iconst (v := (0 : Int32)) hx hb dL_law_233 (by decide) ?_
            exact absurd ((Option.some.inj h).trans hres) (by decide)
        replace h := g_if hk42 h
        by_cases hk43 : ((xs (v2).toNatClampNeg) &&& (31 : Int32)) = (3 : Int32)
        · replace h := g_it hk43 h
          refine lv_tableIn (tgt := 235) (off := 203) hx hb dL_law_32 (by rw [hk43]; decide) (by rw [hk43]; decide) (by rw [hk43]; rfl) (by decide) ?_
          refine lv_aload_n hx hb dL_law_235 rfl (lv_at hl 2 rfl) ?_
          refine lv_aload_n hx hb dL_law_236 rfl (lv_at hl 3 rfl) ?_
          refine lv_iload_n hx hb dL_law_237 rfl (lv_at hl 0 rfl) ?_
          refine lv_iconst (v := (1 : Int32)) hx hb dL_law_238 (by decide) ?_
          refine lv_iadd hx hb dL_law_239 ?_
          obtain ⟨hg149, h⟩ := gd_s h
          refine va_sld hx hb hX hbl hbA hS (inB_in hg149) dL_law_240 ?_
          obtain ⟨r150, lnn_152, pm_154, xn_156, h0_158, h1_160, h2_162, h3_164, h4_166, hc167, h⟩ := bd9_s h
          refine g_callBi (As := [.int (xs ((v2 + (1 : Int32))).toNatClampNeg)]) (rest := []) (r := r150) (bs1 := [[(g0, .inr (6, [.ref (an 0), .ref (au 0), .ref (ap 0), .ref q0, .ref x0, .ref r0, .int ke3]))], [(q0, .inr (0, [.ref q1, .int lnn_152]))], wHa E q1 ba pm_154, wTx E x0 x1 x2 ch6 tl7 nu8 le9 nx10, [(r0, .inr (3, [.ref (ar 0), .ref (au 0), .int cmd11, .int pos12, .int rea13, .int cau14]))], wHuT E an xn_156, wHuT E au xt16, wHuT E ap xp17, wHuT E ar xr18, wHuT E (ba 0) h0_158, wHuT E (ba 1) h1_160, wHuT E (ba 2) h2_162, wHuT E (ba 3) h3_164, wHuT E (ba 4) h4_166, wMo E m0 m1 m2 m3 m4 m5 m6 m7 ss24 bg25 kp26 ik27 pt28 st29 tx30 ln31 asd32 att33 dn34 td35 fo36 nb37]) ⟨hx, hb, hml, hown, hts⟩ (kX6_cancel E l g0 q0 q1 x0 x1 x2 r0 an au ap ar ba ke3 lnn4 pm5 ch6 tl7 nu8 le9 nx10 cmd11 pos12 rea13 cau14 xn15 xt16 xp17 xr18 h19 h20 h21 h22 h23 (xs ((v2 + (1 : Int32))).toNatClampNeg) (r150, lnn_152, pm_154, xn_156, h0_158, h1_160, h2_162, h3_164, h4_166) hc167) (cwV 1 hts gL_law_X6_cancel rfl rfl rfl (by decide +kernel) ⟨Nat.le_of_ble_eq_true rfl, Nat.le_of_ble_eq_true rfl⟩) hK hP hD hS hA hG hl [0, 1, 2, 3, 4, 5, 6, 7, 8, 9, 10, 11, 12, 13] 0 0 (by decide) rfl (ci := 6) rfl rfl rfl rfl rfl rfl rfl rfl rfl rfl (Nat.le_of_ble_eq_true rfl) dL_law_241 (Nat.le_of_ble_eq_true rfl) (Nat.le_of_ble_eq_true rfl) (fun H locs hP hD hS => ?_)
          refine lv_aload_n hx hb dL_law_244 rfl (lv_at hl 1 rfl) ?_
          refine lv_aload_n hx hb dL_law_245 rfl (lv_at hl 3 rfl) ?_
          refine lv_iload_n hx hb dL_law_246 rfl (lv_at hl 0 rfl) ?_
          refine lv_iconst (v := (1 : Int32)) hx hb dL_law_247 (by decide) ?_
          refine lv_iadd hx hb dL_law_248 ?_
          refine va_sld hx hb hX hbl hbA hS (inB_in hg149) dL_law_249 ?_
          obtain ⟨r168, ss169, bg170, pt171, st172, hc173, h⟩ := bd5_s h
          refine g_call1i (As := [.int (xs ((v2 + (1 : Int32))).toNatClampNeg)]) (rest := [.int r150]) (r := r168) (bs1 := [[(g0, .inr (6, [.ref (an 0), .ref (au 0), .ref (ap 0), .ref q0, .ref x0, .ref r0, .int ke3]))], [(q0, .inr (0, [.ref q1, .int lnn_152]))], wHa E q1 ba pm_154, wTx E x0 x1 x2 ch6 tl7 nu8 le9 nx10, [(r0, .inr (3, [.ref (ar 0), .ref (au 0), .int cmd11, .int pos12, .int rea13, .int cau14]))], wHuT E an xn_156, wHuT E au xt16, wHuT E ap xp17, wHuT E ar xr18, wHuT E (ba 0) h0_158, wHuT E (ba 1) h1_160, wHuT E (ba 2) h2_162, wHuT E (ba 3) h3_164, wHuT E (ba 4) h4_166, wMo E m0 m1 m2 m3 m4 m5 m6 m7 ss169 bg170 kp26 ik27 pt171 st172 tx30 ln31 asd32 att33 dn34 td35 fo36 nb37]) ⟨hx, hb, hml, hown, hts⟩ (kX7_cancel E l m0 m1 m2 m3 m4 m5 m6 m7 ss24 bg25 kp26 ik27 pt28 st29 tx30 ln31 asd32 att33 dn34 td35 fo36 nb37 (xs ((v2 + (1 : Int32))).toNatClampNeg) (r168, ss169, bg170, pt171, st172) hc173) (cwV 1 hts gL_law_X7_cancel rfl rfl rfl (by decide +kernel) ⟨Nat.le_of_ble_eq_true rfl, Nat.le_of_ble_eq_true rfl⟩) hK hP hD hS hA hG hl 14 0 (ci := 7) rfl rfl rfl rfl rfl rfl rfl rfl rfl (Nat.le_of_ble_eq_true rfl) dL_law_250 (Nat.le_of_ble_eq_true rfl) (Nat.le_of_ble_eq_true rfl) (fun H locs hP hD hS => ?_)
          refine lv_icmp_eq (tgt := 692) hx hb dL_law_253 (by decide) (fun hc174 => ?_) (fun hc174 => ?_)
          · replace h := g_it hc174 h
            obtain ⟨v175, e_v175⟩ : ∃ y : Int32, y = (v2 + (4 : Int32)) := ⟨_, rfl⟩
            replace h := jl_s e_v175 h
            refine lv_iinc (v := v175) (lv' := [(3, .int v175), (2, .ref m0), (1, .ref g0), (0, .ref b)]) hx hb dL_law_692 hl (k := 0) rfl (by rw [e_v175]; rfl) (by decide) rfl (fun ls hl => ?_)
            refine lv_goto (tgt := 18) hx hb dL_law_695 (by decide) ?_
            exact ih_rec1 v175 ke3 lnn_152 pm_154 ch6 tl7 nu8 le9 nx10 cmd11 pos12 rea13 cau14 xn_156 xt16 xp17 xr18 h0_158 h1_160 h2_162 h3_164 h4_166 ss169 bg170 kp26 ik27 pt171 st172 tx30 ln31 asd32 att33 dn34 td35 fo36 nb37 _ _ _ hP hS (lv_sub hl [0, 1, 2, 3] rfl) h
          · replace h := g_if hc174 h
            refine lv_iconst (v := (0 : Int32)) hx hb dL_law_256 (by decide) ?_
            exact absurd ((Option.some.inj h).trans hres) (by decide)
        replace h := g_if hk43 h
        by_cases hk44 : ((xs (v2).toNatClampNeg) &&& (31 : Int32)) = (4 : Int32)
        · replace h := g_it hk44 h
          refine lv_tableIn (tgt := 258) (off := 226) hx hb dL_law_32 (by rw [hk44]; decide) (by rw [hk44]; decide) (by rw [hk44]; rfl) (by decide) ?_
          refine lv_aload_n hx hb dL_law_258 rfl (lv_at hl 2 rfl) ?_
          refine lv_aload_n hx hb dL_law_259 rfl (lv_at hl 3 rfl) ?_
          refine lv_iload_n hx hb dL_law_260 rfl (lv_at hl 0 rfl) ?_
          refine lv_iconst (v := (1 : Int32)) hx hb dL_law_261 (by decide) ?_
          refine lv_iadd hx hb dL_law_262 ?_
          obtain ⟨hg176, h⟩ := gd_s h
          refine va_sld hx hb hX hbl hbA hS (inB_in hg176) dL_law_263 ?_
          refine lv_aload_n hx hb dL_law_264 rfl (lv_at hl 3 rfl) ?_
          refine lv_iload_n hx hb dL_law_265 rfl (lv_at hl 0 rfl) ?_
          refine lv_iconst (v := (2 : Int32)) hx hb dL_law_266 (by decide) ?_
          refine lv_iadd hx hb dL_law_267 ?_
          obtain ⟨hg177, h⟩ := gd_s h
          refine va_sld hx hb hX hbl hbA hS (inB_in hg177) dL_law_268 ?_
          obtain ⟨r178, lnn_180, pm_182, xn_184, h0_186, h1_188, h2_190, h3_192, h4_194, hc195, h⟩ := bd9_s h
          refine g_callBi (As := [.int (xs ((v2 + (1 : Int32))).toNatClampNeg), .int (xs ((v2 + (2 : Int32))).toNatClampNeg)]) (rest := []) (r := r178) (bs1 := [[(g0, .inr (6, [.ref (an 0), .ref (au 0), .ref (ap 0), .ref q0, .ref x0, .ref r0, .int ke3]))], [(q0, .inr (0, [.ref q1, .int lnn_180]))], wHa E q1 ba pm_182, wTx E x0 x1 x2 ch6 tl7 nu8 le9 nx10, [(r0, .inr (3, [.ref (ar 0), .ref (au 0), .int cmd11, .int pos12, .int rea13, .int cau14]))], wHuT E an xn_184, wHuT E au xt16, wHuT E ap xp17, wHuT E ar xr18, wHuT E (ba 0) h0_186, wHuT E (ba 1) h1_188, wHuT E (ba 2) h2_190, wHuT E (ba 3) h3_192, wHuT E (ba 4) h4_194, wMo E m0 m1 m2 m3 m4 m5 m6 m7 ss24 bg25 kp26 ik27 pt28 st29 tx30 ln31 asd32 att33 dn34 td35 fo36 nb37]) ⟨hx, hb, hml, hown, hts⟩ (kX6_storm E l g0 q0 q1 x0 x1 x2 r0 an au ap ar ba ke3 lnn4 pm5 ch6 tl7 nu8 le9 nx10 cmd11 pos12 rea13 cau14 xn15 xt16 xp17 xr18 h19 h20 h21 h22 h23 (xs ((v2 + (1 : Int32))).toNatClampNeg) (xs ((v2 + (2 : Int32))).toNatClampNeg) (r178, lnn_180, pm_182, xn_184, h0_186, h1_188, h2_190, h3_192, h4_194) hc195) (cwV 2 hts gL_law_X6_storm rfl rfl rfl (by decide +kernel) ⟨Nat.le_of_ble_eq_true rfl, Nat.le_of_ble_eq_true rfl⟩) hK hP hD hS hA hG hl [0, 1, 2, 3, 4, 5, 6, 7, 8, 9, 10, 11, 12, 13] 0 0 (by decide) rfl (ci := 6) rfl rfl rfl rfl rfl rfl rfl rfl rfl rfl (Nat.le_of_ble_eq_true rfl) dL_law_269 (Nat.le_of_ble_eq_true rfl) (Nat.le_of_ble_eq_true rfl) (fun H locs hP hD hS => ?_)
          refine lv_aload_n hx hb dL_law_272 rfl (lv_at hl 1 rfl) ?_
          refine lv_aload_n hx hb dL_law_273 rfl (lv_at hl 3 rfl) ?_
          refine lv_iload_n hx hb dL_law_274 rfl (lv_at hl 0 rfl) ?_
          refine lv_iconst (v := (1 : Int32)) hx hb dL_law_275 (by decide) ?_
          refine lv_iadd hx hb dL_law_276 ?_
          refine va_sld hx hb hX hbl hbA hS (inB_in hg176) dL_law_277 ?_
          refine lv_aload_n hx hb dL_law_278 rfl (lv_at hl 3 rfl) ?_
          refine lv_iload_n hx hb dL_law_279 rfl (lv_at hl 0 rfl) ?_
          refine lv_iconst (v := (2 : Int32)) hx hb dL_law_280 (by decide) ?_
          refine lv_iadd hx hb dL_law_281 ?_
          refine va_sld hx hb hX hbl hbA hS (inB_in hg177) dL_law_282 ?_
          obtain ⟨r196, ss197, bg198, pt199, st200, hc201, h⟩ := bd5_s h
          refine g_call1i (As := [.int (xs ((v2 + (1 : Int32))).toNatClampNeg), .int (xs ((v2 + (2 : Int32))).toNatClampNeg)]) (rest := [.int r178]) (r := r196) (bs1 := [[(g0, .inr (6, [.ref (an 0), .ref (au 0), .ref (ap 0), .ref q0, .ref x0, .ref r0, .int ke3]))], [(q0, .inr (0, [.ref q1, .int lnn_180]))], wHa E q1 ba pm_182, wTx E x0 x1 x2 ch6 tl7 nu8 le9 nx10, [(r0, .inr (3, [.ref (ar 0), .ref (au 0), .int cmd11, .int pos12, .int rea13, .int cau14]))], wHuT E an xn_184, wHuT E au xt16, wHuT E ap xp17, wHuT E ar xr18, wHuT E (ba 0) h0_186, wHuT E (ba 1) h1_188, wHuT E (ba 2) h2_190, wHuT E (ba 3) h3_192, wHuT E (ba 4) h4_194, wMo E m0 m1 m2 m3 m4 m5 m6 m7 ss197 bg198 kp26 ik27 pt199 st200 tx30 ln31 asd32 att33 dn34 td35 fo36 nb37]) ⟨hx, hb, hml, hown, hts⟩ (kX7_storm E l m0 m1 m2 m3 m4 m5 m6 m7 ss24 bg25 kp26 ik27 pt28 st29 tx30 ln31 asd32 att33 dn34 td35 fo36 nb37 (xs ((v2 + (1 : Int32))).toNatClampNeg) (xs ((v2 + (2 : Int32))).toNatClampNeg) (r196, ss197, bg198, pt199, st200) hc201) (cwV 2 hts gL_law_X7_storm rfl rfl rfl (by decide +kernel) ⟨Nat.le_of_ble_eq_true rfl, Nat.le_of_ble_eq_true rfl⟩) hK hP hD hS hA hG hl 14 0 (ci := 7) rfl rfl rfl rfl rfl rfl rfl rfl rfl (Nat.le_of_ble_eq_true rfl) dL_law_283 (Nat.le_of_ble_eq_true rfl) (Nat.le_of_ble_eq_true rfl) (fun H locs hP hD hS => ?_)
          refine lv_icmp_eq (tgt := 692) hx hb dL_law_286 (by decide) (fun hc202 => ?_) (fun hc202 => ?_)
          · replace h := g_it hc202 h
            obtain ⟨v203, e_v203⟩ : ∃ y : Int32, y = (v2 + (4 : Int32)) := ⟨_, rfl⟩
            replace h := jl_s e_v203 h
            refine lv_iinc (v := v203) (lv' := [(3, .int v203), (2, .ref m0), (1, .ref g0), (0, .ref b)]) hx hb dL_law_692 hl (k := 0) rfl (by rw [e_v203]; rfl) (by decide) rfl (fun ls hl => ?_)
            refine lv_goto (tgt := 18) hx hb dL_law_695 (by decide) ?_
            exact ih_rec1 v203 ke3 lnn_180 pm_182 ch6 tl7 nu8 le9 nx10 cmd11 pos12 rea13 cau14 xn_184 xt16 xp17 xr18 h0_186 h1_188 h2_190 h3_192 h4_194 ss197 bg198 kp26 ik27 pt199 st200 tx30 ln31 asd32 att33 dn34 td35 fo36 nb37 _ _ _ hP hS (lv_sub hl [0, 1, 2, 3] rfl) h
          · replace h := g_if hc202 h
            refine lv_iconst (v := (0 : Int32)) hx hb dL_law_289 (by decide) ?_
            exact absurd ((Option.some.inj h).trans hres) (by decide)
        replace h := g_if hk44 h
        by_cases hk45 : ((xs (v2).toNatClampNeg) &&& (31 : Int32)) = (5 : Int32)
        · replace h := g_it hk45 h
          refine lv_tableIn (tgt := 291) (off := 259) hx hb dL_law_32 (by rw [hk45]; decide) (by rw [hk45]; decide) (by rw [hk45]; rfl) (by decide) ?_
          refine lv_aload_n hx hb dL_law_291 rfl (lv_at hl 2 rfl) ?_
          refine lv_aload_n hx hb dL_law_292 rfl (lv_at hl 3 rfl) ?_
          refine lv_iload_n hx hb dL_law_293 rfl (lv_at hl 0 rfl) ?_
          refine lv_iconst (v := (1 : Int32)) hx hb dL_law_294 (by decide) ?_
          refine lv_iadd hx hb dL_law_295 ?_
          obtain ⟨hg204, h⟩ := gd_s h
          refine va_sld hx hb hX hbl hbA hS (inB_in hg204) dL_law_296 ?_
          obtain ⟨r205, lnn_207, pm_209, xn_211, h0_213, h1_215, h2_217, h3_219, h4_221, hc222, h⟩ := bd9_s h
          refine g_callBi (As := [.int (xs ((v2 + (1 : Int32))).toNatClampNeg)]) (rest := []) (r := r205) (bs1 := [[(g0, .inr (6, [.ref (an 0), .ref (au 0), .ref (ap 0), .ref q0, .ref x0, .ref r0, .int ke3]))], [(q0, .inr (0, [.ref q1, .int lnn_207]))], wHa E q1 ba pm_209, wTx E x0 x1 x2 ch6 tl7 nu8 le9 nx10, [(r0, .inr (3, [.ref (ar 0), .ref (au 0), .int cmd11, .int pos12, .int rea13, .int cau14]))], wHuT E an xn_211, wHuT E au xt16, wHuT E ap xp17, wHuT E ar xr18, wHuT E (ba 0) h0_213, wHuT E (ba 1) h1_215, wHuT E (ba 2) h2_217, wHuT E (ba 3) h3_219, wHuT E (ba 4) h4_221, wMo E m0 m1 m2 m3 m4 m5 m6 m7 ss24 bg25 kp26 ik27 pt28 st29 tx30 ln31 asd32 att33 dn34 td35 fo36 nb37]) ⟨hx, hb, hml, hown, hts⟩ (kX6_clear E l g0 q0 q1 x0 x1 x2 r0 an au ap ar ba ke3 lnn4 pm5 ch6 tl7 nu8 le9 nx10 cmd11 pos12 rea13 cau14 xn15 xt16 xp17 xr18 h19 h20 h21 h22 h23 (xs ((v2 + (1 : Int32))).toNatClampNeg) (r205, lnn_207, pm_209, xn_211, h0_213, h1_215, h2_217, h3_219, h4_221) hc222) (cwV 1 hts gL_law_X6_clear rfl rfl rfl (by decide +kernel) ⟨Nat.le_of_ble_eq_true rfl, Nat.le_of_ble_eq_true rfl⟩) hK hP hD hS hA hG hl [0, 1, 2, 3, 4, 5, 6, 7, 8, 9, 10, 11, 12, 13] 0 0 (by decide) rfl (ci := 6) rfl rfl rfl rfl rfl rfl rfl rfl rfl rfl (Nat.le_of_ble_eq_true rfl) dL_law_297 (Nat.le_of_ble_eq_true rfl) (Nat.le_of_ble_eq_true rfl) (fun H locs hP hD hS => ?_)
          refine lv_aload_n hx hb dL_law_300 rfl (lv_at hl 1 rfl) ?_
          refine lv_aload_n hx hb dL_law_301 rfl (lv_at hl 3 rfl) ?_
          refine lv_iload_n hx hb dL_law_302 rfl (lv_at hl 0 rfl) ?_
          refine lv_iconst (v := (1 : Int32)) hx hb dL_law_303 (by decide) ?_
          refine lv_iadd hx hb dL_law_304 ?_
          refine va_sld hx hb hX hbl hbA hS (inB_in hg204) dL_law_305 ?_
          obtain ⟨r223, ss224, bg225, pt226, st227, hc228, h⟩ := bd5_s h
          refine g_call1i (As := [.int (xs ((v2 + (1 : Int32))).toNatClampNeg)]) (rest := [.int r205]) (r := r223) (bs1 := [[(g0, .inr (6, [.ref (an 0), .ref (au 0), .ref (ap 0), .ref q0, .ref x0, .ref r0, .int ke3]))], [(q0, .inr (0, [.ref q1, .int lnn_207]))], wHa E q1 ba pm_209, wTx E x0 x1 x2 ch6 tl7 nu8 le9 nx10, [(r0, .inr (3, [.ref (ar 0), .ref (au 0), .int cmd11, .int pos12, .int rea13, .int cau14]))], wHuT E an xn_211, wHuT E au xt16, wHuT E ap xp17, wHuT E ar xr18, wHuT E (ba 0) h0_213, wHuT E (ba 1) h1_215, wHuT E (ba 2) h2_217, wHuT E (ba 3) h3_219, wHuT E (ba 4) h4_221, wMo E m0 m1 m2 m3 m4 m5 m6 m7 ss224 bg225 kp26 ik27 pt226 st227 tx30 ln31 asd32 att33 dn34 td35 fo36 nb37]) ⟨hx, hb, hml, hown, hts⟩ (kX7_clear E l m0 m1 m2 m3 m4 m5 m6 m7 ss24 bg25 kp26 ik27 pt28 st29 tx30 ln31 asd32 att33 dn34 td35 fo36 nb37 (xs ((v2 + (1 : Int32))).toNatClampNeg) (r223, ss224, bg225, pt226, st227) hc228) (cwV 1 hts gL_law_X7_clear rfl rfl rfl (by decide +kernel) ⟨Nat.le_of_ble_eq_true rfl, Nat.le_of_ble_eq_true rfl⟩) hK hP hD hS hA hG hl 14 0 (ci := 7) rfl rfl rfl rfl rfl rfl rfl rfl rfl (Nat.le_of_ble_eq_true rfl) dL_law_306 (Nat.le_of_ble_eq_true rfl) (Nat.le_of_ble_eq_true rfl) (fun H locs hP hD hS => ?_)
          refine lv_icmp_eq (tgt := 692) hx hb dL_law_309 (by decide) (fun hc229 => ?_) (fun hc229 => ?_)
          · replace h := g_it hc229 h
            obtain ⟨v230, e_v230⟩ : ∃ y : Int32, y = (v2 + (4 : Int32)) := ⟨_, rfl⟩
            replace h := jl_s e_v230 h
            refine lv_iinc (v := v230) (lv' := [(3, .int v230), (2, .ref m0), (1, .ref g0), (0, .ref b)]) hx hb dL_law_692 hl (k := 0) rfl (by rw [e_v230]; rfl) (by decide) rfl (fun ls hl => ?_)
            refine lv_goto (tgt := 18) hx hb dL_law_695 (by decide) ?_
            exact ih_rec1 v230 ke3 lnn_207 pm_209 ch6 tl7 nu8 le9 nx10 cmd11 pos12 rea13 cau14 xn_211 xt16 xp17 xr18 h0_213 h1_215 h2_217 h3_219 h4_221 ss224 bg225 kp26 ik27 pt226 st227 tx30 ln31 asd32 att33 dn34 td35 fo36 nb37 _ _ _ hP hS (lv_sub hl [0, 1, 2, 3] rfl) h
          · replace h := g_if hc229 h
            refine lv_iconst (v := (0 : Int32)) hx hb dL_law_312 (by decide) ?_
            exact absurd ((Option.some.inj h).trans hres) (by decide)
        replace h := g_if hk45 h
        by_cases hk46 : ((xs (v2).toNatClampNeg) &&& (31 : Int32)) = (6 : Int32)
        · replace h := g_it hk46 h
          refine lv_tableIn (tgt := 314) (off := 282) hx hb dL_law_32 (by rw [hk46]; decide) (by rw [hk46]; decide) (by rw [hk46]; rfl) (by decide) ?_
          refine lv_aload_n hx hb dL_law_314 rfl (lv_at hl 2 rfl) ?_
          refine lv_aload_n hx hb dL_law_315 rfl (lv_at hl 3 rfl) ?_
          refine lv_iload_n hx hb dL_law_316 rfl (lv_at hl 0 rfl) ?_
          refine lv_iconst (v := (1 : Int32)) hx hb dL_law_317 (by decide) ?_
          refine lv_iadd hx hb dL_law_318 ?_
          obtain ⟨hg231, h⟩ := gd_s h
          refine va_sld hx hb hX hbl hbA hS (inB_in hg231) dL_law_319 ?_
          obtain ⟨r232, lnn_234, pm_236, xn_238, h0_240, h1_242, h2_244, h3_246, h4_248, hc249, h⟩ := bd9_s h
          refine g_callBi (As := [.int (xs ((v2 + (1 : Int32))).toNatClampNeg)]) (rest := []) (r := r232) (bs1 := [[(g0, .inr (6, [.ref (an 0), .ref (au 0), .ref (ap 0), .ref q0, .ref x0, .ref r0, .int ke3]))], [(q0, .inr (0, [.ref q1, .int lnn_234]))], wHa E q1 ba pm_236, wTx E x0 x1 x2 ch6 tl7 nu8 le9 nx10, [(r0, .inr (3, [.ref (ar 0), .ref (au 0), .int cmd11, .int pos12, .int rea13, .int cau14]))], wHuT E an xn_238, wHuT E au xt16, wHuT E ap xp17, wHuT E ar xr18, wHuT E (ba 0) h0_240, wHuT E (ba 1) h1_242, wHuT E (ba 2) h2_244, wHuT E (ba 3) h3_246, wHuT E (ba 4) h4_248, wMo E m0 m1 m2 m3 m4 m5 m6 m7 ss24 bg25 kp26 ik27 pt28 st29 tx30 ln31 asd32 att33 dn34 td35 fo36 nb37]) ⟨hx, hb, hml, hown, hts⟩ (kX6_sleep E l g0 q0 q1 x0 x1 x2 r0 an au ap ar ba ke3 lnn4 pm5 ch6 tl7 nu8 le9 nx10 cmd11 pos12 rea13 cau14 xn15 xt16 xp17 xr18 h19 h20 h21 h22 h23 (xs ((v2 + (1 : Int32))).toNatClampNeg) (r232, lnn_234, pm_236, xn_238, h0_240, h1_242, h2_244, h3_246, h4_248) hc249) (cwV 1 hts gL_law_X6_sleep rfl rfl rfl (by decide +kernel) ⟨Nat.le_of_ble_eq_true rfl, Nat.le_of_ble_eq_true rfl⟩) hK hP hD hS hA hG hl [0, 1, 2, 3, 4, 5, 6, 7, 8, 9, 10, 11, 12, 13] 0 0 (by decide) rfl (ci := 6) rfl rfl rfl rfl rfl rfl rfl rfl rfl rfl (Nat.le_of_ble_eq_true rfl) dL_law_320 (Nat.le_of_ble_eq_true rfl) (Nat.le_of_ble_eq_true rfl) (fun H locs hP hD hS => ?_)
          refine lv_aload_n hx hb dL_law_323 rfl (lv_at hl 1 rfl) ?_
          refine lv_aload_n hx hb dL_law_324 rfl (lv_at hl 3 rfl) ?_
          refine lv_iload_n hx hb dL_law_325 rfl (lv_at hl 0 rfl) ?_
          refine lv_iconst (v := (1 : Int32)) hx hb dL_law_326 (by decide) ?_
          refine lv_iadd hx hb dL_law_327 ?_
          refine va_sld hx hb hX hbl hbA hS (inB_in hg231) dL_law_328 ?_
          obtain ⟨r250, ss251, bg252, pt253, st254, hc255, h⟩ := bd5_s h
          refine g_call1i (As := [.int (xs ((v2 + (1 : Int32))).toNatClampNeg)]) (rest := [.int r232]) (r := r250) (bs1 := [[(g0, .inr (6, [.ref (an 0), .ref (au 0), .ref (ap 0), .ref q0, .ref x0, .ref r0, .int ke3]))], [(q0, .inr (0, [.ref q1, .int lnn_234]))], wHa E q1 ba pm_236, wTx E x0 x1 x2 ch6 tl7 nu8 le9 nx10, [(r0, .inr (3, [.ref (ar 0), .ref (au 0), .int cmd11, .int pos12, .int rea13, .int cau14]))], wHuT E an xn_238, wHuT E au xt16, wHuT E ap xp17, wHuT E ar xr18, wHuT E (ba 0) h0_240, wHuT E (ba 1) h1_242, wHuT E (ba 2) h2_244, wHuT E (ba 3) h3_246, wHuT E (ba 4) h4_248, wMo E m0 m1 m2 m3 m4 m5 m6 m7 ss251 bg252 kp26 ik27 pt253 st254 tx30 ln31 asd32 att33 dn34 td35 fo36 nb37]) ⟨hx, hb, hml, hown, hts⟩ (kX7_sleep E l m0 m1 m2 m3 m4 m5 m6 m7 ss24 bg25 kp26 ik27 pt28 st29 tx30 ln31 asd32 att33 dn34 td35 fo36 nb37 (xs ((v2 + (1 : Int32))).toNatClampNeg) (r250, ss251, bg252, pt253, st254) hc255) (cwV 1 hts gL_law_X7_sleep rfl rfl rfl (by decide +kernel) ⟨Nat.le_of_ble_eq_true rfl, Nat.le_of_ble_eq_true rfl⟩) hK hP hD hS hA hG hl 14 0 (ci := 7) rfl rfl rfl rfl rfl rfl rfl rfl rfl (Nat.le_of_ble_eq_true rfl) dL_law_329 (Nat.le_of_ble_eq_true rfl) (Nat.le_of_ble_eq_true rfl) (fun H locs hP hD hS => ?_)
          refine lv_icmp_eq (tgt := 692) hx hb dL_law_332 (by decide) (fun hc256 => ?_) (fun hc256 => ?_)
          · replace h := g_it hc256 h
            obtain ⟨v257, e_v257⟩ : ∃ y : Int32, y = (v2 + (4 : Int32)) := ⟨_, rfl⟩
            replace h := jl_s e_v257 h
            refine lv_iinc (v := v257) (lv' := [(3, .int v257), (2, .ref m0), (1, .ref g0), (0, .ref b)]) hx hb dL_law_692 hl (k := 0) rfl (by rw [e_v257]; rfl) (by decide) rfl (fun ls hl => ?_)
            refine lv_goto (tgt := 18) hx hb dL_law_695 (by decide) ?_
            exact ih_rec1 v257 ke3 lnn_234 pm_236 ch6 tl7 nu8 le9 nx10 cmd11 pos12 rea13 cau14 xn_238 xt16 xp17 xr18 h0_240 h1_242 h2_244 h3_246 h4_248 ss251 bg252 kp26 ik27 pt253 st254 tx30 ln31 asd32 att33 dn34 td35 fo36 nb37 _ _ _ hP hS (lv_sub hl [0, 1, 2, 3] rfl) h
          · replace h := g_if hc256 h
            refine lv_iconst (v := (0 : Int32)) hx hb dL_law_335 (by decide) ?_
            exact absurd ((Option.some.inj h).trans hres) (by decide)
        replace h := g_if hk46 h
        by_cases hk47 : ((xs (v2).toNatClampNeg) &&& (31 : Int32)) = (7 : Int32)
        · replace h := g_it hk47 h
          refine lv_tableIn (tgt := 337) (off := 305) hx hb dL_law_32 (by rw [hk47]; decide) (by rw [hk47]; decide) (by rw [hk47]; rfl) (by decide) ?_
          refine lv_aload_n hx hb dL_law_337 rfl (lv_at hl 2 rfl) ?_
          refine lv_aload_n hx hb dL_law_338 rfl (lv_at hl 3 rfl) ?_
          refine lv_iload_n hx hb dL_law_339 rfl (lv_at hl 0 rfl) ?_
          refine lv_iconst (v := (1 : Int32)) hx hb dL_law_340 (by decide) ?_
          refine lv_iadd hx hb dL_law_341 ?_
          obtain ⟨hg258, h⟩ := gd_s h
          refine va_sld hx hb hX hbl hbA hS (inB_in hg258) dL_law_342 ?_
          refine lv_aload_n hx hb dL_law_343 rfl (lv_at hl 3 rfl) ?_
          refine lv_iload_n hx hb dL_law_344 rfl (lv_at hl 0 rfl) ?_
          refine lv_iconst (v := (2 : Int32)) hx hb dL_law_345 (by decide) ?_
          refine lv_iadd hx hb dL_law_346 ?_
          obtain ⟨hg259, h⟩ := gd_s h
          refine va_sld hx hb hX hbl hbA hS (inB_in hg259) dL_law_347 ?_
          obtain ⟨r260, lnn_262, pm_264, xn_266, h0_268, h1_270, h2_272, h3_274, h4_276, hc277, h⟩ := bd9_s h
          refine g_callBi (As := [.int (xs ((v2 + (1 : Int32))).toNatClampNeg), .int (xs ((v2 + (2 : Int32))).toNatClampNeg)]) (rest := []) (r := r260) (bs1 := [[(g0, .inr (6, [.ref (an 0), .ref (au 0), .ref (ap 0), .ref q0, .ref x0, .ref r0, .int ke3]))], [(q0, .inr (0, [.ref q1, .int lnn_262]))], wHa E q1 ba pm_264, wTx E x0 x1 x2 ch6 tl7 nu8 le9 nx10, [(r0, .inr (3, [.ref (ar 0), .ref (au 0), .int cmd11, .int pos12, .int rea13, .int cau14]))], wHuT E an xn_266, wHuT E au xt16, wHuT E ap xp17, wHuT E ar xr18, wHuT E (ba 0) h0_268, wHuT E (ba 1) h1_270, wHuT E (ba 2) h2_272, wHuT E (ba 3) h3_274, wHuT E (ba 4) h4_276, wMo E m0 m1 m2 m3 m4 m5 m6 m7 ss24 bg25 kp26 ik27 pt28 st29 tx30 ln31 asd32 att33 dn34 td35 fo36 nb37]) ⟨hx, hb, hml, hown, hts⟩ (kX6_set E l g0 q0 q1 x0 x1 x2 r0 an au ap ar ba ke3 lnn4 pm5 ch6 tl7 nu8 le9 nx10 cmd11 pos12 rea13 cau14 xn15 xt16 xp17 xr18 h19 h20 h21 h22 h23 (xs ((v2 + (1 : Int32))).toNatClampNeg) (xs ((v2 + (2 : Int32))).toNatClampNeg) (r260, lnn_262, pm_264, xn_266, h0_268, h1_270, h2_272, h3_274, h4_276) hc277) (cwV 2 hts gL_law_X6_set rfl rfl rfl (by decide +kernel) ⟨Nat.le_of_ble_eq_true rfl, Nat.le_of_ble_eq_true rfl⟩) hK hP hD hS hA hG hl [0, 1, 2, 3, 4, 5, 6, 7, 8, 9, 10, 11, 12, 13] 0 0 (by decide) rfl (ci := 6) rfl rfl rfl rfl rfl rfl rfl rfl rfl rfl (Nat.le_of_ble_eq_true rfl) dL_law_348 (Nat.le_of_ble_eq_true rfl) (Nat.le_of_ble_eq_true rfl) (fun H locs hP hD hS => ?_)
          refine lv_aload_n hx hb dL_law_351 rfl (lv_at hl 1 rfl) ?_
          refine lv_aload_n hx hb dL_law_352 rfl (lv_at hl 3 rfl) ?_
          refine lv_iload_n hx hb dL_law_353 rfl (lv_at hl 0 rfl) ?_
          refine lv_iconst (v := (1 : Int32)) hx hb dL_law_354 (by decide) ?_
          refine lv_iadd hx hb dL_law_355 ?_
          refine va_sld hx hb hX hbl hbA hS (inB_in hg258) dL_law_356 ?_
          refine lv_aload_n hx hb dL_law_357 rfl (lv_at hl 3 rfl) ?_
          refine lv_iload_n hx hb dL_law_358 rfl (lv_at hl 0 rfl) ?_
          refine lv_iconst (v := (2 : Int32)) hx hb dL_law_359 (by decide) ?_
          refine lv_iadd hx hb dL_law_360 ?_
          refine va_sld hx hb hX hbl hbA hS (inB_in hg259) dL_law_361 ?_
          obtain ⟨r278, ss279, bg280, pt281, st282, hc283, h⟩ := bd5_s h
          refine g_call1i (As := [.int (xs ((v2 + (1 : Int32))).toNatClampNeg), .int (xs ((v2 + (2 : Int32))).toNatClampNeg)]) (rest := [.int r260]) (r := r278) (bs1 := [[(g0, .inr (6, [.ref (an 0), .ref (au 0), .ref (ap 0), .ref q0, .ref x0, .ref r0, .int ke3]))], [(q0, .inr (0, [.ref q1, .int lnn_262]))], wHa E q1 ba pm_264, wTx E x0 x1 x2 ch6 tl7 nu8 le9 nx10, [(r0, .inr (3, [.ref (ar 0), .ref (au 0), .int cmd11, .int pos12, .int rea13, .int cau14]))], wHuT E an xn_266, wHuT E au xt16, wHuT E ap xp17, wHuT E ar xr18, wHuT E (ba 0) h0_268, wHuT E (ba 1) h1_270, wHuT E (ba 2) h2_272, wHuT E (ba 3) h3_274, wHuT E (ba 4) h4_276, wMo E m0 m1 m2 m3 m4 m5 m6 m7 ss279 bg280 kp26 ik27 pt281 st282 tx30 ln31 asd32 att33 dn34 td35 fo36 nb37]) ⟨hx, hb, hml, hown, hts⟩ (kX7_set E l m0 m1 m2 m3 m4 m5 m6 m7 ss24 bg25 kp26 ik27 pt28 st29 tx30 ln31 asd32 att33 dn34 td35 fo36 nb37 (xs ((v2 + (1 : Int32))).toNatClampNeg) (xs ((v2 + (2 : Int32))).toNatClampNeg) (r278, ss279, bg280, pt281, st282) hc283) (cwV 2 hts gL_law_X7_set rfl rfl rfl (by decide +kernel) ⟨Nat.le_of_ble_eq_true rfl, Nat.le_of_ble_eq_true rfl⟩) hK hP hD hS hA hG hl 14 0 (ci := 7) rfl rfl rfl rfl rfl rfl rfl rfl rfl (Nat.le_of_ble_eq_true rfl) dL_law_362 (Nat.le_of_ble_eq_true rfl) (Nat.le_of_ble_eq_true rfl) (fun H locs hP hD hS => ?_)
          refine lv_icmp_eq (tgt := 692) hx hb dL_law_365 (by decide) (fun hc284 => ?_) (fun hc284 => ?_)
          · replace h := g_it hc284 h
            obtain ⟨v285, e_v285⟩ : ∃ y : Int32, y = (v2 + (4 : Int32)) := ⟨_, rfl⟩
            replace h := jl_s e_v285 h
            refine lv_iinc (v := v285) (lv' := [(3, .int v285), (2, .ref m0), (1, .ref g0), (0, .ref b)]) hx hb dL_law_692 hl (k := 0) rfl (by rw [e_v285]; rfl) (by decide) rfl (fun ls hl => ?_)
            refine lv_goto (tgt := 18) hx hb dL_law_695 (by decide) ?_
            exact ih_rec1 v285 ke3 lnn_262 pm_264 ch6 tl7 nu8 le9 nx10 cmd11 pos12 rea13 cau14 xn_266 xt16 xp17 xr18 h0_268 h1_270 h2_272 h3_274 h4_276 ss279 bg280 kp26 ik27 pt281 st282 tx30 ln31 asd32 att33 dn34 td35 fo36 nb37 _ _ _ hP hS (lv_sub hl [0, 1, 2, 3] rfl) h
          · replace h := g_if hc284 h
            refine lv_iconst (v := (0 : Int32)) hx hb dL_law_368 (by decide) ?_
            exact absurd ((Option.some.inj h).trans hres) (by decide)
        replace h := g_if hk47 h
        by_cases hk48 : ((xs (v2).toNatClampNeg) &&& (31 : Int32)) = (8 : Int32)
        · replace h := g_it hk48 h
          refine lv_tableIn (tgt := 370) (off := 338) hx hb dL_law_32 (by rw [hk48]; decide) (by rw [hk48]; decide) (by rw [hk48]; rfl) (by decide) ?_
          refine lv_aload_n hx hb dL_law_370 rfl (lv_at hl 2 rfl) ?_
          refine lv_aload_n hx hb dL_law_371 rfl (lv_at hl 3 rfl) ?_
          refine lv_iload_n hx hb dL_law_372 rfl (lv_at hl 0 rfl) ?_
          refine lv_iconst (v := (1 : Int32)) hx hb dL_law_373 (by decide) ?_
          refine lv_iadd hx hb dL_law_374 ?_
          obtain ⟨hg286, h⟩ := gd_s h
          refine va_sld hx hb hX hbl hbA hS (inB_in hg286) dL_law_375 ?_
          refine lv_aload_n hx hb dL_law_376 rfl (lv_at hl 3 rfl) ?_
          refine lv_iload_n hx hb dL_law_377 rfl (lv_at hl 0 rfl) ?_
          refine lv_iconst (v := (2 : Int32)) hx hb dL_law_378 (by decide) ?_
          refine lv_iadd hx hb dL_law_379 ?_
          obtain ⟨hg287, h⟩ := gd_s h
          refine va_sld hx hb hX hbl hbA hS (inB_in hg287) dL_law_380 ?_
          refine lv_aload_n hx hb dL_law_381 rfl (lv_at hl 3 rfl) ?_
          refine lv_iload_n hx hb dL_law_382 rfl (lv_at hl 0 rfl) ?_
          refine lv_iconst (v := (3 : Int32)) hx hb dL_law_383 (by decide) ?_
          refine lv_iadd hx hb dL_law_384 ?_
          obtain ⟨hg288, h⟩ := gd_s h
          refine va_sld hx hb hX hbl hbA hS (inB_in hg288) dL_law_385 ?_
          obtain ⟨r289, hc290, h⟩ := bd1_s h
          refine g_callBi (As := [.int (xs ((v2 + (1 : Int32))).toNatClampNeg), .int (xs ((v2 + (2 : Int32))).toNatClampNeg), .int (xs ((v2 + (3 : Int32))).toNatClampNeg)]) (rest := []) (r := r289) (bs1 := [[(g0, .inr (6, [.ref (an 0), .ref (au 0), .ref (ap 0), .ref q0, .ref x0, .ref r0, .int ke3]))], [(q0, .inr (0, [.ref q1, .int lnn4]))], wHa E q1 ba pm5, wTx E x0 x1 x2 ch6 tl7 nu8 le9 nx10, [(r0, .inr (3, [.ref (ar 0), .ref (au 0), .int cmd11, .int pos12, .int rea13, .int cau14]))], wHuT E an xn15, wHuT E au xt16, wHuT E ap xp17, wHuT E ar xr18, wHuT E (ba 0) h19, wHuT E (ba 1) h20, wHuT E (ba 2) h21, wHuT E (ba 3) h22, wHuT E (ba 4) h23, wMo E m0 m1 m2 m3 m4 m5 m6 m7 ss24 bg25 kp26 ik27 pt28 st29 tx30 ln31 asd32 att33 dn34 td35 fo36 nb37]) ⟨hx, hb, hml, hown, hts⟩ (kX6_lotOf E l g0 q0 q1 x0 x1 x2 r0 an au ap ar ba ke3 lnn4 pm5 ch6 tl7 nu8 le9 nx10 cmd11 pos12 rea13 cau14 xn15 xt16 xp17 xr18 h19 h20 h21 h22 h23 (xs ((v2 + (1 : Int32))).toNatClampNeg) (xs ((v2 + (2 : Int32))).toNatClampNeg) (xs ((v2 + (3 : Int32))).toNatClampNeg) r289 hc290) (cwV 3 hts gL_law_X6_lotOf rfl rfl rfl (by decide +kernel) ⟨Nat.le_of_ble_eq_true rfl, Nat.le_of_ble_eq_true rfl⟩) hK hP hD hS hA hG hl [0, 1, 2, 3, 4, 5, 6, 7, 8, 9, 10, 11, 12, 13] 0 0 (by decide) rfl (ci := 6) rfl rfl rfl rfl rfl rfl rfl rfl rfl rfl (Nat.le_of_ble_eq_true rfl) dL_law_386 (Nat.le_of_ble_eq_true rfl) (Nat.le_of_ble_eq_true rfl) (fun H locs hP hD hS => ?_)
          refine lv_aload_n hx hb dL_law_389 rfl (lv_at hl 1 rfl) ?_
          refine lv_aload_n hx hb dL_law_390 rfl (lv_at hl 3 rfl) ?_
          refine lv_iload_n hx hb dL_law_391 rfl (lv_at hl 0 rfl) ?_
          refine lv_iconst (v := (1 : Int32)) hx hb dL_law_392 (by decide) ?_
          refine lv_iadd hx hb dL_law_393 ?_
          refine va_sld hx hb hX hbl hbA hS (inB_in hg286) dL_law_394 ?_
          refine lv_aload_n hx hb dL_law_395 rfl (lv_at hl 3 rfl) ?_
          refine lv_iload_n hx hb dL_law_396 rfl (lv_at hl 0 rfl) ?_
          refine lv_iconst (v := (2 : Int32)) hx hb dL_law_397 (by decide) ?_
          refine lv_iadd hx hb dL_law_398 ?_
          refine va_sld hx hb hX hbl hbA hS (inB_in hg287) dL_law_399 ?_
          refine lv_aload_n hx hb dL_law_400 rfl (lv_at hl 3 rfl) ?_
          refine lv_iload_n hx hb dL_law_401 rfl (lv_at hl 0 rfl) ?_
          refine lv_iconst (v := (3 : Int32)) hx hb dL_law_402 (by decide) ?_
          refine lv_iadd hx hb dL_law_403 ?_
          refine va_sld hx hb hX hbl hbA hS (inB_in hg288) dL_law_404 ?_
          obtain ⟨r291, hc292, h⟩ := bd1_s h
          refine g_call1i (As := [.int (xs ((v2 + (1 : Int32))).toNatClampNeg), .int (xs ((v2 + (2 : Int32))).toNatClampNeg), .int (xs ((v2 + (3 : Int32))).toNatClampNeg)]) (rest := [.int r289]) (r := r291) (bs1 := [[(g0, .inr (6, [.ref (an 0), .ref (au 0), .ref (ap 0), .ref q0, .ref x0, .ref r0, .int ke3]))], [(q0, .inr (0, [.ref q1, .int lnn4]))], wHa E q1 ba pm5, wTx E x0 x1 x2 ch6 tl7 nu8 le9 nx10, [(r0, .inr (3, [.ref (ar 0), .ref (au 0), .int cmd11, .int pos12, .int rea13, .int cau14]))], wHuT E an xn15, wHuT E au xt16, wHuT E ap xp17, wHuT E ar xr18, wHuT E (ba 0) h19, wHuT E (ba 1) h20, wHuT E (ba 2) h21, wHuT E (ba 3) h22, wHuT E (ba 4) h23, wMo E m0 m1 m2 m3 m4 m5 m6 m7 ss24 bg25 kp26 ik27 pt28 st29 tx30 ln31 asd32 att33 dn34 td35 fo36 nb37]) ⟨hx, hb, hml, hown, hts⟩ (kX7_lotOf E l m0 m1 m2 m3 m4 m5 m6 m7 ss24 bg25 kp26 ik27 pt28 st29 tx30 ln31 asd32 att33 dn34 td35 fo36 nb37 (xs ((v2 + (1 : Int32))).toNatClampNeg) (xs ((v2 + (2 : Int32))).toNatClampNeg) (xs ((v2 + (3 : Int32))).toNatClampNeg) r291 hc292) (cwV 3 hts gL_law_X7_lotOf rfl rfl rfl (by decide +kernel) ⟨Nat.le_of_ble_eq_true rfl, Nat.le_of_ble_eq_true rfl⟩) hK hP hD hS hA hG hl 14 0 (ci := 7) rfl rfl rfl rfl rfl rfl rfl rfl rfl (Nat.le_of_ble_eq_true rfl) dL_law_405 (Nat.le_of_ble_eq_true rfl) (Nat.le_of_ble_eq_true rfl) (fun H locs hP hD hS => ?_)
          refine lv_icmp_eq (tgt := 692) hx hb dL_law_408 (by decide) (fun hc293 => ?_) (fun hc293 => ?_)
          · replace h := g_it hc293 h
            obtain ⟨v294, e_v294⟩ : ∃ y : Int32, y = (v2 + (4 : Int32)) := ⟨_, rfl⟩
            replace h := jl_s e_v294 h
            refine lv_iinc (v := v294) (lv' := [(3, .int v294), (2, .ref m0), (1, .ref g0), (0, .ref b)]) hx hb dL_law_692 hl (k := 0) rfl (by rw [e_v294]; rfl) (by decide) rfl (fun ls hl => ?_)
            refine lv_goto (tgt := 18) hx hb dL_law_695 (by decide) ?_
            exact ih_rec1 v294 ke3 lnn4 pm5 ch6 tl7 nu8 le9 nx10 cmd11 pos12 rea13 cau14 xn15 xt16 xp17 xr18 h19 h20 h21 h22 h23 ss24 bg25 kp26 ik27 pt28 st29 tx30 ln31 asd32 att33 dn34 td35 fo36 nb37 _ _ _ hP hS (lv_sub hl [0, 1, 2, 3] rfl) h
          · replace h := g_if hc293 h
            refine lv_iconst (v := (0 : Int32)) hx hb dL_law_411 (by decide) ?_
            exact absurd ((Option.some.inj h).trans hres) (by decide)
        replace h := g_if hk48 h
        by_cases hk49 : ((xs (v2).toNatClampNeg) &&& (31 : Int32)) = (9 : Int32)
        · replace h := g_it hk49 h
          refine lv_tableIn (tgt := 413) (off := 381) hx hb dL_law_32 (by rw [hk49]; decide) (by rw [hk49]; decide) (by rw [hk49]; rfl) (by decide) ?_
          refine lv_aload_n hx hb dL_law_413 rfl (lv_at hl 2 rfl) ?_
          refine lv_aload_n hx hb dL_law_414 rfl (lv_at hl 3 rfl) ?_
          refine lv_iload_n hx hb dL_law_415 rfl (lv_at hl 0 rfl) ?_
          refine lv_iconst (v := (1 : Int32)) hx hb dL_law_416 (by decide) ?_
          refine lv_iadd hx hb dL_law_417 ?_
          obtain ⟨hg295, h⟩ := gd_s h
          refine va_sld hx hb hX hbl hbA hS (inB_in hg295) dL_law_418 ?_
          refine lv_aload_n hx hb dL_law_419 rfl (lv_at hl 3 rfl) ?_
          refine lv_iload_n hx hb dL_law_420 rfl (lv_at hl 0 rfl) ?_
          refine lv_iconst (v := (2 : Int32)) hx hb dL_law_421 (by decide) ?_
          refine lv_iadd hx hb dL_law_422 ?_
          obtain ⟨hg296, h⟩ := gd_s h
          refine va_sld hx hb hX hbl hbA hS (inB_in hg296) dL_law_423 ?_
          obtain ⟨r297, hc298, h⟩ := bd1_s h
          refine g_callBi (As := [.int (xs ((v2 + (1 : Int32))).toNatClampNeg), .int (xs ((v2 + (2 : Int32))).toNatClampNeg)]) (rest := []) (r := r297) (bs1 := [[(g0, .inr (6, [.ref (an 0), .ref (au 0), .ref (ap 0), .ref q0, .ref x0, .ref r0, .int ke3]))], [(q0, .inr (0, [.ref q1, .int lnn4]))], wHa E q1 ba pm5, wTx E x0 x1 x2 ch6 tl7 nu8 le9 nx10, [(r0, .inr (3, [.ref (ar 0), .ref (au 0), .int cmd11, .int pos12, .int rea13, .int cau14]))], wHuT E an xn15, wHuT E au xt16, wHuT E ap xp17, wHuT E ar xr18, wHuT E (ba 0) h19, wHuT E (ba 1) h20, wHuT E (ba 2) h21, wHuT E (ba 3) h22, wHuT E (ba 4) h23, wMo E m0 m1 m2 m3 m4 m5 m6 m7 ss24 bg25 kp26 ik27 pt28 st29 tx30 ln31 asd32 att33 dn34 td35 fo36 nb37]) ⟨hx, hb, hml, hown, hts⟩ (kX6_storeOf E l g0 q0 q1 x0 x1 x2 r0 an au ap ar ba ke3 lnn4 pm5 ch6 tl7 nu8 le9 nx10 cmd11 pos12 rea13 cau14 xn15 xt16 xp17 xr18 h19 h20 h21 h22 h23 (xs ((v2 + (1 : Int32))).toNatClampNeg) (xs ((v2 + (2 : Int32))).toNatClampNeg) r297 hc298) (cwV 2 hts gL_law_X6_storeOf rfl rfl rfl (by decide +kernel) ⟨Nat.le_of_ble_eq_true rfl, Nat.le_of_ble_eq_true rfl⟩) hK hP hD hS hA hG hl [0, 1, 2, 3, 4, 5, 6, 7, 8, 9, 10, 11, 12, 13] 0 0 (by decide) rfl (ci := 6) rfl rfl rfl rfl rfl rfl rfl rfl rfl rfl (Nat.le_of_ble_eq_true rfl) dL_law_424 (Nat.le_of_ble_eq_true rfl) (Nat.le_of_ble_eq_true rfl) (fun H locs hP hD hS => ?_)
          refine lv_aload_n hx hb dL_law_427 rfl (lv_at hl 1 rfl) ?_
          refine lv_aload_n hx hb dL_law_428 rfl (lv_at hl 3 rfl) ?_
          refine lv_iload_n hx hb dL_law_429 rfl (lv_at hl 0 rfl) ?_
          refine lv_iconst (v := (1 : Int32)) hx hb dL_law_430 (by decide) ?_
          refine lv_iadd hx hb dL_law_431 ?_
          refine va_sld hx hb hX hbl hbA hS (inB_in hg295) dL_law_432 ?_
          refine lv_aload_n hx hb dL_law_433 rfl (lv_at hl 3 rfl) ?_
          refine lv_iload_n hx hb dL_law_434 rfl (lv_at hl 0 rfl) ?_
          refine lv_iconst (v := (2 : Int32)) hx hb dL_law_435 (by decide) ?_
          refine lv_iadd hx hb dL_law_436 ?_
          refine va_sld hx hb hX hbl hbA hS (inB_in hg296) dL_law_437 ?_
          obtain ⟨r299, hc300, h⟩ := bd1_s h
          refine g_call1i (As := [.int (xs ((v2 + (1 : Int32))).toNatClampNeg), .int (xs ((v2 + (2 : Int32))).toNatClampNeg)]) (rest := [.int r297]) (r := r299) (bs1 := [[(g0, .inr (6, [.ref (an 0), .ref (au 0), .ref (ap 0), .ref q0, .ref x0, .ref r0, .int ke3]))], [(q0, .inr (0, [.ref q1, .int lnn4]))], wHa E q1 ba pm5, wTx E x0 x1 x2 ch6 tl7 nu8 le9 nx10, [(r0, .inr (3, [.ref (ar 0), .ref (au 0), .int cmd11, .int pos12, .int rea13, .int cau14]))], wHuT E an xn15, wHuT E au xt16, wHuT E ap xp17, wHuT E ar xr18, wHuT E (ba 0) h19, wHuT E (ba 1) h20, wHuT E (ba 2) h21, wHuT E (ba 3) h22, wHuT E (ba 4) h23, wMo E m0 m1 m2 m3 m4 m5 m6 m7 ss24 bg25 kp26 ik27 pt28 st29 tx30 ln31 asd32 att33 dn34 td35 fo36 nb37]) ⟨hx, hb, hml, hown, hts⟩ (kX7_storeOf E l m0 m1 m2 m3 m4 m5 m6 m7 ss24 bg25 kp26 ik27 pt28 st29 tx30 ln31 asd32 att33 dn34 td35 fo36 nb37 (xs ((v2 + (1 : Int32))).toNatClampNeg) (xs ((v2 + (2 : Int32))).toNatClampNeg) r299 hc300) (cwV 2 hts gL_law_X7_storeOf rfl rfl rfl (by decide +kernel) ⟨Nat.le_of_ble_eq_true rfl, Nat.le_of_ble_eq_true rfl⟩) hK hP hD hS hA hG hl 14 0 (ci := 7) rfl rfl rfl rfl rfl rfl rfl rfl rfl (Nat.le_of_ble_eq_true rfl) dL_law_438 (Nat.le_of_ble_eq_true rfl) (Nat.le_of_ble_eq_true rfl) (fun H locs hP hD hS => ?_)
          refine lv_icmp_eq (tgt := 692) hx hb dL_law_441 (by decide) (fun hc301 => ?_) (fun hc301 => ?_)
          · replace h := g_it hc301 h
            obtain ⟨v302, e_v302⟩ : ∃ y : Int32, y = (v2 + (4 : Int32)) := ⟨_, rfl⟩
            replace h := jl_s e_v302 h
            refine lv_iinc (v := v302) (lv' := [(3, .int v302), (2, .ref m0), (1, .ref g0), (0, .ref b)]) hx hb dL_law_692 hl (k := 0) rfl (by rw [e_v302]; rfl) (by decide) rfl (fun ls hl => ?_)
            refine lv_goto (tgt := 18) hx hb dL_law_695 (by decide) ?_
            exact ih_rec1 v302 ke3 lnn4 pm5 ch6 tl7 nu8 le9 nx10 cmd11 pos12 rea13 cau14 xn15 xt16 xp17 xr18 h19 h20 h21 h22 h23 ss24 bg25 kp26 ik27 pt28 st29 tx30 ln31 asd32 att33 dn34 td35 fo36 nb37 _ _ _ hP hS (lv_sub hl [0, 1, 2, 3] rfl) h
          · replace h := g_if hc301 h
            refine lv_iconst (v := (0 : Int32)) hx hb dL_law_444 (by decide) ?_
            exact absurd ((Option.some.inj h).trans hres) (by decide)
        replace h := g_if hk49 h
        by_cases hk50 : ((xs (v2).toNatClampNeg) &&& (31 : Int32)) = (10 : Int32)
        · replace h := g_it hk50 h
          refine lv_tableIn (tgt := 446) (off := 414) hx hb dL_law_32 (by rw [hk50]; decide) (by rw [hk50]; decide) (by rw [hk50]; rfl) (by decide) ?_
          refine lv_aload_n hx hb dL_law_446 rfl (lv_at hl 2 rfl) ?_
          refine lv_aload_n hx hb dL_law_447 rfl (lv_at hl 3 rfl) ?_
          refine lv_iload_n hx hb dL_law_448 rfl (lv_at hl 0 rfl) ?_
          refine lv_iconst (v := (1 : Int32)) hx hb dL_law_449 (by decide) ?_
          refine lv_iadd hx hb dL_law_450 ?_
          obtain ⟨hg303, h⟩ := gd_s h
          refine va_sld hx hb hX hbl hbA hS (inB_in hg303) dL_law_451 ?_
          refine lv_aload_n hx hb dL_law_452 rfl (lv_at hl 3 rfl) ?_
          refine lv_iload_n hx hb dL_law_453 rfl (lv_at hl 0 rfl) ?_
          refine lv_iconst (v := (2 : Int32)) hx hb dL_law_454 (by decide) ?_
          refine lv_iadd hx hb dL_law_455 ?_
          obtain ⟨hg304, h⟩ := gd_s h
          refine va_sld hx hb hX hbl hbA hS (inB_in hg304) dL_law_456 ?_
          obtain ⟨r305, hc306, h⟩ := bd1_s h
          refine g_callBi (As := [.int (xs ((v2 + (1 : Int32))).toNatClampNeg), .int (xs ((v2 + (2 : Int32))).toNatClampNeg)]) (rest := []) (r := r305) (bs1 := [[(g0, .inr (6, [.ref (an 0), .ref (au 0), .ref (ap 0), .ref q0, .ref x0, .ref r0, .int ke3]))], [(q0, .inr (0, [.ref q1, .int lnn4]))], wHa E q1 ba pm5, wTx E x0 x1 x2 ch6 tl7 nu8 le9 nx10, [(r0, .inr (3, [.ref (ar 0), .ref (au 0), .int cmd11, .int pos12, .int rea13, .int cau14]))], wHuT E an xn15, wHuT E au xt16, wHuT E ap xp17, wHuT E ar xr18, wHuT E (ba 0) h19, wHuT E (ba 1) h20, wHuT E (ba 2) h21, wHuT E (ba 3) h22, wHuT E (ba 4) h23, wMo E m0 m1 m2 m3 m4 m5 m6 m7 ss24 bg25 kp26 ik27 pt28 st29 tx30 ln31 asd32 att33 dn34 td35 fo36 nb37]) ⟨hx, hb, hml, hown, hts⟩ (kX6_partyOf E l g0 q0 q1 x0 x1 x2 r0 an au ap ar ba ke3 lnn4 pm5 ch6 tl7 nu8 le9 nx10 cmd11 pos12 rea13 cau14 xn15 xt16 xp17 xr18 h19 h20 h21 h22 h23 (xs ((v2 + (1 : Int32))).toNatClampNeg) (xs ((v2 + (2 : Int32))).toNatClampNeg) r305 hc306) (cwV 2 hts gL_law_X6_partyOf rfl rfl rfl (by decide +kernel) ⟨Nat.le_of_ble_eq_true rfl, Nat.le_of_ble_eq_true rfl⟩) hK hP hD hS hA hG hl [0, 1, 2, 3, 4, 5, 6, 7, 8, 9, 10, 11, 12, 13] 0 0 (by decide) rfl (ci := 6) rfl rfl rfl rfl rfl rfl rfl rfl rfl rfl (Nat.le_of_ble_eq_true rfl) dL_law_457 (Nat.le_of_ble_eq_true rfl) (Nat.le_of_ble_eq_true rfl) (fun H locs hP hD hS => ?_)
          refine lv_aload_n hx hb dL_law_460 rfl (lv_at hl 1 rfl) ?_
          refine lv_aload_n hx hb dL_law_461 rfl (lv_at hl 3 rfl) ?_
          refine lv_iload_n hx hb dL_law_462 rfl (lv_at hl 0 rfl) ?_
          refine lv_iconst (v := (1 : Int32)) hx hb dL_law_463 (by decide) ?_
          refine lv_iadd hx hb dL_law_464 ?_
          refine va_sld hx hb hX hbl hbA hS (inB_in hg303) dL_law_465 ?_
          refine lv_aload_n hx hb dL_law_466 rfl (lv_at hl 3 rfl) ?_
          refine lv_iload_n hx hb dL_law_467 rfl (lv_at hl 0 rfl) ?_
          refine lv_iconst (v := (2 : Int32)) hx hb dL_law_468 (by decide) ?_
          refine lv_iadd hx hb dL_law_469 ?_
          refine va_sld hx hb hX hbl hbA hS (inB_in hg304) dL_law_470 ?_
          obtain ⟨r307, hc308, h⟩ := bd1_s h
          refine g_call1i (As := [.int (xs ((v2 + (1 : Int32))).toNatClampNeg), .int (xs ((v2 + (2 : Int32))).toNatClampNeg)]) (rest := [.int r305]) (r := r307) (bs1 := [[(g0, .inr (6, [.ref (an 0), .ref (au 0), .ref (ap 0), .ref q0, .ref x0, .ref r0, .int ke3]))], [(q0, .inr (0, [.ref q1, .int lnn4]))], wHa E q1 ba pm5, wTx E x0 x1 x2 ch6 tl7 nu8 le9 nx10, [(r0, .inr (3, [.ref (ar 0), .ref (au 0), .int cmd11, .int pos12, .int rea13, .int cau14]))], wHuT E an xn15, wHuT E au xt16, wHuT E ap xp17, wHuT E ar xr18, wHuT E (ba 0) h19, wHuT E (ba 1) h20, wHuT E (ba 2) h21, wHuT E (ba 3) h22, wHuT E (ba 4) h23, wMo E m0 m1 m2 m3 m4 m5 m6 m7 ss24 bg25 kp26 ik27 pt28 st29 tx30 ln31 asd32 att33 dn34 td35 fo36 nb37]) ⟨hx, hb, hml, hown, hts⟩ (kX7_partyOf E l m0 m1 m2 m3 m4 m5 m6 m7 ss24 bg25 kp26 ik27 pt28 st29 tx30 ln31 asd32 att33 dn34 td35 fo36 nb37 (xs ((v2 + (1 : Int32))).toNatClampNeg) (xs ((v2 + (2 : Int32))).toNatClampNeg) r307 hc308) (cwV 2 hts gL_law_X7_partyOf rfl rfl rfl (by decide +kernel) ⟨Nat.le_of_ble_eq_true rfl, Nat.le_of_ble_eq_true rfl⟩) hK hP hD hS hA hG hl 14 0 (ci := 7) rfl rfl rfl rfl rfl rfl rfl rfl rfl (Nat.le_of_ble_eq_true rfl) dL_law_471 (Nat.le_of_ble_eq_true rfl) (Nat.le_of_ble_eq_true rfl) (fun H locs hP hD hS => ?_)
          refine lv_icmp_eq (tgt := 692) hx hb dL_law_474 (by decide) (fun hc309 => ?_) (fun hc309 => ?_)
          · replace h := g_it hc309 h
            obtain ⟨v310, e_v310⟩ : ∃ y : Int32, y = (v2 + (4 : Int32)) := ⟨_, rfl⟩
            replace h := jl_s e_v310 h
            refine lv_iinc (v := v310) (lv' := [(3, .int v310), (2, .ref m0), (1, .ref g0), (0, .ref b)]) hx hb dL_law_692 hl (k := 0) rfl (by rw [e_v310]; rfl) (by decide) rfl (fun ls hl => ?_)
            refine lv_goto (tgt := 18) hx hb dL_law_695 (by decide) ?_
            exact ih_rec1 v310 ke3 lnn4 pm5 ch6 tl7 nu8 le9 nx10 cmd11 pos12 rea13 cau14 xn15 xt16 xp17 xr18 h19 h20 h21 h22 h23 ss24 bg25 kp26 ik27 pt28 st29 tx30 ln31 asd32 att33 dn34 td35 fo36 nb37 _ _ _ hP hS (lv_sub hl [0, 1, 2, 3] rfl) h
          · replace h := g_if hc309 h
            refine lv_iconst (v := (0 : Int32)) hx hb dL_law_477 (by decide) ?_
            exact absurd ((Option.some.inj h).trans hres) (by decide)
        replace h := g_if hk50 h
        by_cases hk51 : ((xs (v2).toNatClampNeg) &&& (31 : Int32)) = (11 : Int32)
        · replace h := g_it hk51 h
          refine lv_tableIn (tgt := 479) (off := 447) hx hb dL_law_32 (by rw [hk51]; decide) (by rw [hk51]; decide) (by rw [hk51]; rfl) (by decide) ?_
          refine lv_aload_n hx hb dL_law_479 rfl (lv_at hl 2 rfl) ?_
          refine lv_aload_n hx hb dL_law_480 rfl (lv_at hl 3 rfl) ?_
          refine lv_iload_n hx hb dL_law_481 rfl (lv_at hl 0 rfl) ?_
          refine lv_iconst (v := (1 : Int32)) hx hb dL_law_482 (by decide) ?_
          refine lv_iadd hx hb dL_law_483 ?_
          obtain ⟨hg311, h⟩ := gd_s h
          refine va_sld hx hb hX hbl hbA hS (inB_in hg311) dL_law_484 ?_
          obtain ⟨r312, hc313, h⟩ := bd1_s h
          refine g_callBi (As := [.int (xs ((v2 + (1 : Int32))).toNatClampNeg)]) (rest := []) (r := r312) (bs1 := [[(g0, .inr (6, [.ref (an 0), .ref (au 0), .ref (ap 0), .ref q0, .ref x0, .ref r0, .int ke3]))], [(q0, .inr (0, [.ref q1, .int lnn4]))], wHa E q1 ba pm5, wTx E x0 x1 x2 ch6 tl7 nu8 le9 nx10, [(r0, .inr (3, [.ref (ar 0), .ref (au 0), .int cmd11, .int pos12, .int rea13, .int cau14]))], wHuT E an xn15, wHuT E au xt16, wHuT E ap xp17, wHuT E ar xr18, wHuT E (ba 0) h19, wHuT E (ba 1) h20, wHuT E (ba 2) h21, wHuT E (ba 3) h22, wHuT E (ba 4) h23, wMo E m0 m1 m2 m3 m4 m5 m6 m7 ss24 bg25 kp26 ik27 pt28 st29 tx30 ln31 asd32 att33 dn34 td35 fo36 nb37]) ⟨hx, hb, hml, hown, hts⟩ (kX6_count E l g0 q0 q1 x0 x1 x2 r0 an au ap ar ba ke3 lnn4 pm5 ch6 tl7 nu8 le9 nx10 cmd11 pos12 rea13 cau14 xn15 xt16 xp17 xr18 h19 h20 h21 h22 h23 (xs ((v2 + (1 : Int32))).toNatClampNeg) r312 hc313) (cwV 1 hts gL_law_X6_count rfl rfl rfl (by decide +kernel) ⟨Nat.le_of_ble_eq_true rfl, Nat.le_of_ble_eq_true rfl⟩) hK hP hD hS hA hG hl [0, 1, 2, 3, 4, 5, 6, 7, 8, 9, 10, 11, 12, 13] 0 0 (by decide) rfl (ci := 6) rfl rfl rfl rfl rfl rfl rfl rfl rfl rfl (Nat.le_of_ble_eq_true rfl) dL_law_485 (Nat.le_of_ble_eq_true rfl) (Nat.le_of_ble_eq_true rfl) (fun H locs hP hD hS => ?_)
          refine lv_aload_n hx hb dL_law_488 rfl (lv_at hl 1 rfl) ?_
          refine lv_aload_n hx hb dL_law_489 rfl (lv_at hl 3 rfl) ?_
          refine lv_iload_n hx hb dL_law_490 rfl (lv_at hl 0 rfl) ?_
          refine lv_iconst (v := (1 : Int32)) hx hb dL_law_491 (by decide) ?_
          refine lv_iadd hx hb dL_law_492 ?_
          refine va_sld hx hb hX hbl hbA hS (inB_in hg311) dL_law_493 ?_
          obtain ⟨r314, hc315, h⟩ := bd1_s h
          refine g_call1i (As := [.int (xs ((v2 + (1 : Int32))).toNatClampNeg)]) (rest := [.int r312]) (r := r314) (bs1 := [[(g0, .inr (6, [.ref (an 0), .ref (au 0), .ref (ap 0), .ref q0, .ref x0, .ref r0, .int ke3]))], [(q0, .inr (0, [.ref q1, .int lnn4]))], wHa E q1 ba pm5, wTx E x0 x1 x2 ch6 tl7 nu8 le9 nx10, [(r0, .inr (3, [.ref (ar 0), .ref (au 0), .int cmd11, .int pos12, .int rea13, .int cau14]))], wHuT E an xn15, wHuT E au xt16, wHuT E ap xp17, wHuT E ar xr18, wHuT E (ba 0) h19, wHuT E (ba 1) h20, wHuT E (ba 2) h21, wHuT E (ba 3) h22, wHuT E (ba 4) h23, wMo E m0 m1 m2 m3 m4 m5 m6 m7 ss24 bg25 kp26 ik27 pt28 st29 tx30 ln31 asd32 att33 dn34 td35 fo36 nb37]) ⟨hx, hb, hml, hown, hts⟩ (kX7_count E l m0 m1 m2 m3 m4 m5 m6 m7 ss24 bg25 kp26 ik27 pt28 st29 tx30 ln31 asd32 att33 dn34 td35 fo36 nb37 (xs ((v2 + (1 : Int32))).toNatClampNeg) r314 hc315) (cwV 1 hts gL_law_X7_count rfl rfl rfl (by decide +kernel) ⟨Nat.le_of_ble_eq_true rfl, Nat.le_of_ble_eq_true rfl⟩) hK hP hD hS hA hG hl 14 0 (ci := 7) rfl rfl rfl rfl rfl rfl rfl rfl rfl (Nat.le_of_ble_eq_true rfl) dL_law_494 (Nat.le_of_ble_eq_true rfl) (Nat.le_of_ble_eq_true rfl) (fun H locs hP hD hS => ?_)
          refine lv_icmp_eq (tgt := 692) hx hb dL_law_497 (by decide) (fun hc316 => ?_) (fun hc316 => ?_)
          · replace h := g_it hc316 h
            obtain ⟨v317, e_v317⟩ : ∃ y : Int32, y = (v2 + (4 : Int32)) := ⟨_, rfl⟩
            replace h := jl_s e_v317 h
            refine lv_iinc (v := v317) (lv' := [(3, .int v317), (2, .ref m0), (1, .ref g0), (0, .ref b)]) hx hb dL_law_692 hl (k := 0) rfl (by rw [e_v317]; rfl) (by decide) rfl (fun ls hl => ?_)
            refine lv_goto (tgt := 18) hx hb dL_law_695 (by decide) ?_
            exact ih_rec1 v317 ke3 lnn4 pm5 ch6 tl7 nu8 le9 nx10 cmd11 pos12 rea13 cau14 xn15 xt16 xp17 xr18 h19 h20 h21 h22 h23 ss24 bg25 kp26 ik27 pt28 st29 tx30 ln31 asd32 att33 dn34 td35 fo36 nb37 _ _ _ hP hS (lv_sub hl [0, 1, 2, 3] rfl) h
          · replace h := g_if hc316 h
            refine lv_iconst (v := (0 : Int32)) hx hb dL_law_500 (by decide) ?_
            exact absurd ((Option.some.inj h).trans hres) (by decide)
        replace h := g_if hk51 h
        by_cases hk52 : ((xs (v2).toNatClampNeg) &&& (31 : Int32)) = (12 : Int32)
        · replace h := g_it hk52 h
          refine lv_tableIn (tgt := 502) (off := 470) hx hb dL_law_32 (by rw [hk52]; decide) (by rw [hk52]; decide) (by rw [hk52]; rfl) (by decide) ?_
          refine lv_aload_n hx hb dL_law_502 rfl (lv_at hl 2 rfl) ?_
          refine lv_aload_n hx hb dL_law_503 rfl (lv_at hl 3 rfl) ?_
          refine lv_iload_n hx hb dL_law_504 rfl (lv_at hl 0 rfl) ?_
          refine lv_iconst (v := (1 : Int32)) hx hb dL_law_505 (by decide) ?_
          refine lv_iadd hx hb dL_law_506 ?_
          obtain ⟨hg318, h⟩ := gd_s h
          refine va_sld hx hb hX hbl hbA hS (inB_in hg318) dL_law_507 ?_
          obtain ⟨r319, xt_321, hc322, h⟩ := bd2_s h
          refine g_callBi (As := [.int (xs ((v2 + (1 : Int32))).toNatClampNeg)]) (rest := []) (r := r319) (bs1 := [[(g0, .inr (6, [.ref (an 0), .ref (au 0), .ref (ap 0), .ref q0, .ref x0, .ref r0, .int ke3]))], [(q0, .inr (0, [.ref q1, .int lnn4]))], wHa E q1 ba pm5, wTx E x0 x1 x2 ch6 tl7 nu8 le9 nx10, [(r0, .inr (3, [.ref (ar 0), .ref (au 0), .int cmd11, .int pos12, .int rea13, .int cau14]))], wHuT E an xn15, wHuT E au xt_321, wHuT E ap xp17, wHuT E ar xr18, wHuT E (ba 0) h19, wHuT E (ba 1) h20, wHuT E (ba 2) h21, wHuT E (ba 3) h22, wHuT E (ba 4) h23, wMo E m0 m1 m2 m3 m4 m5 m6 m7 ss24 bg25 kp26 ik27 pt28 st29 tx30 ln31 asd32 att33 dn34 td35 fo36 nb37]) ⟨hx, hb, hml, hown, hts⟩ (kX6_goneOn E l g0 q0 q1 x0 x1 x2 r0 an au ap ar ba ke3 lnn4 pm5 ch6 tl7 nu8 le9 nx10 cmd11 pos12 rea13 cau14 xn15 xt16 xp17 xr18 h19 h20 h21 h22 h23 (xs ((v2 + (1 : Int32))).toNatClampNeg) (r319, xt_321) hc322) (cwV 1 hts gL_law_X6_goneOn rfl rfl rfl (by decide +kernel) ⟨Nat.le_of_ble_eq_true rfl, Nat.le_of_ble_eq_true rfl⟩) hK hP hD hS hA hG hl [0, 1, 2, 3, 4, 5, 6, 7, 8, 9, 10, 11, 12, 13] 0 0 (by decide) rfl (ci := 6) rfl rfl rfl rfl rfl rfl rfl rfl rfl rfl (Nat.le_of_ble_eq_true rfl) dL_law_508 (Nat.le_of_ble_eq_true rfl) (Nat.le_of_ble_eq_true rfl) (fun H locs hP hD hS => ?_)
          refine lv_aload_n hx hb dL_law_511 rfl (lv_at hl 1 rfl) ?_
          refine lv_aload_n hx hb dL_law_512 rfl (lv_at hl 3 rfl) ?_
          refine lv_iload_n hx hb dL_law_513 rfl (lv_at hl 0 rfl) ?_
          refine lv_iconst (v := (1 : Int32)) hx hb dL_law_514 (by decide) ?_
          refine lv_iadd hx hb dL_law_515 ?_
          refine va_sld hx hb hX hbl hbA hS (inB_in hg318) dL_law_516 ?_
          obtain ⟨r323, ss324, bg325, hc326, h⟩ := bd3_s h
          refine g_call1i (As := [.int (xs ((v2 + (1 : Int32))).toNatClampNeg)]) (rest := [.int r319]) (r := r323) (bs1 := [[(g0, .inr (6, [.ref (an 0), .ref (au 0), .ref (ap 0), .ref q0, .ref x0, .ref r0, .int ke3]))], [(q0, .inr (0, [.ref q1, .int lnn4]))], wHa E q1 ba pm5, wTx E x0 x1 x2 ch6 tl7 nu8 le9 nx10, [(r0, .inr (3, [.ref (ar 0), .ref (au 0), .int cmd11, .int pos12, .int rea13, .int cau14]))], wHuT E an xn15, wHuT E au xt_321, wHuT E ap xp17, wHuT E ar xr18, wHuT E (ba 0) h19, wHuT E (ba 1) h20, wHuT E (ba 2) h21, wHuT E (ba 3) h22, wHuT E (ba 4) h23, wMo E m0 m1 m2 m3 m4 m5 m6 m7 ss324 bg325 kp26 ik27 pt28 st29 tx30 ln31 asd32 att33 dn34 td35 fo36 nb37]) ⟨hx, hb, hml, hown, hts⟩ (kX7_goneOn E l m0 m1 m2 m3 m4 m5 m6 m7 ss24 bg25 kp26 ik27 pt28 st29 tx30 ln31 asd32 att33 dn34 td35 fo36 nb37 (xs ((v2 + (1 : Int32))).toNatClampNeg) (r323, ss324, bg325) hc326) (cwV 1 hts gL_law_X7_goneOn rfl rfl rfl (by decide +kernel) ⟨Nat.le_of_ble_eq_true rfl, Nat.le_of_ble_eq_true rfl⟩) hK hP hD hS hA hG hl 14 0 (ci := 7) rfl rfl rfl rfl rfl rfl rfl rfl rfl (Nat.le_of_ble_eq_true rfl) dL_law_517 (Nat.le_of_ble_eq_true rfl) (Nat.le_of_ble_eq_true rfl) (fun H locs hP hD hS => ?_)
          refine lv_icmp_eq (tgt := 692) hx hb dL_law_520 (by decide) (fun hc327 => ?_) (fun hc327 => ?_)
          · replace h := g_it hc327 h
            obtain ⟨v328, e_v328⟩ : ∃ y : Int32, y = (v2 + (4 : Int32)) := ⟨_, rfl⟩
            replace h := jl_s e_v328 h
            refine lv_iinc (v := v328) (lv' := [(3, .int v328), (2, .ref m0), (1, .ref g0), (0, .ref b)]) hx hb dL_law_692 hl (k := 0) rfl (by rw [e_v328]; rfl) (by decide) rfl (fun ls hl => ?_)
            refine lv_goto (tgt := 18) hx hb dL_law_695 (by decide) ?_
            exact ih_rec1 v328 ke3 lnn4 pm5 ch6 tl7 nu8 le9 nx10 cmd11 pos12 rea13 cau14 xn15 xt_321 xp17 xr18 h19 h20 h21 h22 h23 ss324 bg325 kp26 ik27 pt28 st29 tx30 ln31 asd32 att33 dn34 td35 fo36 nb37 _ _ _ hP hS (lv_sub hl [0, 1, 2, 3] rfl) h
          · replace h := g_if hc327 h
            refine lv_iconst (v := (0 : Int32)) hx hb dL_law_523 (by decide) ?_
            exact absurd ((Option.some.inj h).trans hres) (by decide)
        replace h := g_if hk52 h
        by_cases hk53 : ((xs (v2).toNatClampNeg) &&& (31 : Int32)) = (13 : Int32)
        · replace h := g_it hk53 h
          refine lv_tableIn (tgt := 525) (off := 493) hx hb dL_law_32 (by rw [hk53]; decide) (by rw [hk53]; decide) (by rw [hk53]; rfl) (by decide) ?_
          refine lv_aload_n hx hb dL_law_525 rfl (lv_at hl 2 rfl) ?_
          refine lv_aload_n hx hb dL_law_526 rfl (lv_at hl 3 rfl) ?_
          refine lv_iload_n hx hb dL_law_527 rfl (lv_at hl 0 rfl) ?_
          refine lv_iconst (v := (1 : Int32)) hx hb dL_law_528 (by decide) ?_
          refine lv_iadd hx hb dL_law_529 ?_
          obtain ⟨hg329, h⟩ := gd_s h
          refine va_sld hx hb hX hbl hbA hS (inB_in hg329) dL_law_530 ?_
          obtain ⟨r330, xt_332, hc333, h⟩ := bd2_s h
          refine g_callBi (As := [.int (xs ((v2 + (1 : Int32))).toNatClampNeg)]) (rest := []) (r := r330) (bs1 := [[(g0, .inr (6, [.ref (an 0), .ref (au 0), .ref (ap 0), .ref q0, .ref x0, .ref r0, .int ke3]))], [(q0, .inr (0, [.ref q1, .int lnn4]))], wHa E q1 ba pm5, wTx E x0 x1 x2 ch6 tl7 nu8 le9 nx10, [(r0, .inr (3, [.ref (ar 0), .ref (au 0), .int cmd11, .int pos12, .int rea13, .int cau14]))], wHuT E an xn15, wHuT E au xt_332, wHuT E ap xp17, wHuT E ar xr18, wHuT E (ba 0) h19, wHuT E (ba 1) h20, wHuT E (ba 2) h21, wHuT E (ba 3) h22, wHuT E (ba 4) h23, wMo E m0 m1 m2 m3 m4 m5 m6 m7 ss24 bg25 kp26 ik27 pt28 st29 tx30 ln31 asd32 att33 dn34 td35 fo36 nb37]) ⟨hx, hb, hml, hown, hts⟩ (kX6_outOn E l g0 q0 q1 x0 x1 x2 r0 an au ap ar ba ke3 lnn4 pm5 ch6 tl7 nu8 le9 nx10 cmd11 pos12 rea13 cau14 xn15 xt16 xp17 xr18 h19 h20 h21 h22 h23 (xs ((v2 + (1 : Int32))).toNatClampNeg) (r330, xt_332) hc333) (cwV 1 hts gL_law_X6_outOn rfl rfl rfl (by decide +kernel) ⟨Nat.le_of_ble_eq_true rfl, Nat.le_of_ble_eq_true rfl⟩) hK hP hD hS hA hG hl [0, 1, 2, 3, 4, 5, 6, 7, 8, 9, 10, 11, 12, 13] 0 0 (by decide) rfl (ci := 6) rfl rfl rfl rfl rfl rfl rfl rfl rfl rfl (Nat.le_of_ble_eq_true rfl) dL_law_531 (Nat.le_of_ble_eq_true rfl) (Nat.le_of_ble_eq_true rfl) (fun H locs hP hD hS => ?_)
          refine lv_aload_n hx hb dL_law_534 rfl (lv_at hl 1 rfl) ?_
          refine lv_aload_n hx hb dL_law_535 rfl (lv_at hl 3 rfl) ?_
          refine lv_iload_n hx hb dL_law_536 rfl (lv_at hl 0 rfl) ?_
          refine lv_iconst (v := (1 : Int32)) hx hb dL_law_537 (by decide) ?_
          refine lv_iadd hx hb dL_law_538 ?_
          refine va_sld hx hb hX hbl hbA hS (inB_in hg329) dL_law_539 ?_
          obtain ⟨r334, ss335, bg336, hc337, h⟩ := bd3_s h
          refine g_call1i (As := [.int (xs ((v2 + (1 : Int32))).toNatClampNeg)]) (rest := [.int r330]) (r := r334) (bs1 := [[(g0, .inr (6, [.ref (an 0), .ref (au 0), .ref (ap 0), .ref q0, .ref x0, .ref r0, .int ke3]))], [(q0, .inr (0, [.ref q1, .int lnn4]))], wHa E q1 ba pm5, wTx E x0 x1 x2 ch6 tl7 nu8 le9 nx10, [(r0, .inr (3, [.ref (ar 0), .ref (au 0), .int cmd11, .int pos12, .int rea13, .int cau14]))], wHuT E an xn15, wHuT E au xt_332, wHuT E ap xp17, wHuT E ar xr18, wHuT E (ba 0) h19, wHuT E (ba 1) h20, wHuT E (ba 2) h21, wHuT E (ba 3) h22, wHuT E (ba 4) h23, wMo E m0 m1 m2 m3 m4 m5 m6 m7 ss335 bg336 kp26 ik27 pt28 st29 tx30 ln31 asd32 att33 dn34 td35 fo36 nb37]) ⟨hx, hb, hml, hown, hts⟩ (kX7_outOn E l m0 m1 m2 m3 m4 m5 m6 m7 ss24 bg25 kp26 ik27 pt28 st29 tx30 ln31 asd32 att33 dn34 td35 fo36 nb37 (xs ((v2 + (1 : Int32))).toNatClampNeg) (r334, ss335, bg336) hc337) (cwV 1 hts gL_law_X7_outOn rfl rfl rfl (by decide +kernel) ⟨Nat.le_of_ble_eq_true rfl, Nat.le_of_ble_eq_true rfl⟩) hK hP hD hS hA hG hl 14 0 (ci := 7) rfl rfl rfl rfl rfl rfl rfl rfl rfl (Nat.le_of_ble_eq_true rfl) dL_law_540 (Nat.le_of_ble_eq_true rfl) (Nat.le_of_ble_eq_true rfl) (fun H locs hP hD hS => ?_)
          refine lv_icmp_eq (tgt := 692) hx hb dL_law_543 (by decide) (fun hc338 => ?_) (fun hc338 => ?_)
          · replace h := g_it hc338 h
            obtain ⟨v339, e_v339⟩ : ∃ y : Int32, y = (v2 + (4 : Int32)) := ⟨_, rfl⟩
            replace h := jl_s e_v339 h
            refine lv_iinc (v := v339) (lv' := [(3, .int v339), (2, .ref m0), (1, .ref g0), (0, .ref b)]) hx hb dL_law_692 hl (k := 0) rfl (by rw [e_v339]; rfl) (by decide) rfl (fun ls hl => ?_)
            refine lv_goto (tgt := 18) hx hb dL_law_695 (by decide) ?_
            exact ih_rec1 v339 ke3 lnn4 pm5 ch6 tl7 nu8 le9 nx10 cmd11 pos12 rea13 cau14 xn15 xt_332 xp17 xr18 h19 h20 h21 h22 h23 ss335 bg336 kp26 ik27 pt28 st29 tx30 ln31 asd32 att33 dn34 td35 fo36 nb37 _ _ _ hP hS (lv_sub hl [0, 1, 2, 3] rfl) h
          · replace h := g_if hc338 h
            refine lv_iconst (v := (0 : Int32)) hx hb dL_law_546 (by decide) ?_
            exact absurd ((Option.some.inj h).trans hres) (by decide)
        replace h := g_if hk53 h
        by_cases hk54 : ((xs (v2).toNatClampNeg) &&& (31 : Int32)) = (14 : Int32)
        · replace h := g_it hk54 h
          refine lv_tableIn (tgt := 548) (off := 516) hx hb dL_law_32 (by rw [hk54]; decide) (by rw [hk54]; decide) (by rw [hk54]; rfl) (by decide) ?_
          refine lv_aload_n hx hb dL_law_548 rfl (lv_at hl 2 rfl) ?_
          refine lv_aload_n hx hb dL_law_549 rfl (lv_at hl 3 rfl) ?_
          refine lv_iload_n hx hb dL_law_550 rfl (lv_at hl 0 rfl) ?_
          refine lv_iconst (v := (1 : Int32)) hx hb dL_law_551 (by decide) ?_
          refine lv_iadd hx hb dL_law_552 ?_
          obtain ⟨hg340, h⟩ := gd_s h
          refine va_sld hx hb hX hbl hbA hS (inB_in hg340) dL_law_553 ?_
          refine lv_aload_n hx hb dL_law_554 rfl (lv_at hl 3 rfl) ?_
          refine lv_iload_n hx hb dL_law_555 rfl (lv_at hl 0 rfl) ?_
          refine lv_iconst (v := (2 : Int32)) hx hb dL_law_556 (by decide) ?_
          refine lv_iadd hx hb dL_law_557 ?_
          obtain ⟨hg341, h⟩ := gd_s h
          refine va_sld hx hb hX hbl hbA hS (inB_in hg341) dL_law_558 ?_
          obtain ⟨r342, xt_344, hc345, h⟩ := bd2_s h
          refine g_callBi (As := [.int (xs ((v2 + (1 : Int32))).toNatClampNeg), .int (xs ((v2 + (2 : Int32))).toNatClampNeg)]) (rest := []) (r := r342) (bs1 := [[(g0, .inr (6, [.ref (an 0), .ref (au 0), .ref (ap 0), .ref q0, .ref x0, .ref r0, .int ke3]))], [(q0, .inr (0, [.ref q1, .int lnn4]))], wHa E q1 ba pm5, wTx E x0 x1 x2 ch6 tl7 nu8 le9 nx10, [(r0, .inr (3, [.ref (ar 0), .ref (au 0), .int cmd11, .int pos12, .int rea13, .int cau14]))], wHuT E an xn15, wHuT E au xt_344, wHuT E ap xp17, wHuT E ar xr18, wHuT E (ba 0) h19, wHuT E (ba 1) h20, wHuT E (ba 2) h21, wHuT E (ba 3) h22, wHuT E (ba 4) h23, wMo E m0 m1 m2 m3 m4 m5 m6 m7 ss24 bg25 kp26 ik27 pt28 st29 tx30 ln31 asd32 att33 dn34 td35 fo36 nb37]) ⟨hx, hb, hml, hown, hts⟩ (kX6_most E l g0 q0 q1 x0 x1 x2 r0 an au ap ar ba ke3 lnn4 pm5 ch6 tl7 nu8 le9 nx10 cmd11 pos12 rea13 cau14 xn15 xt16 xp17 xr18 h19 h20 h21 h22 h23 (xs ((v2 + (1 : Int32))).toNatClampNeg) (xs ((v2 + (2 : Int32))).toNatClampNeg) (r342, xt_344) hc345) (cwV 2 hts gL_law_X6_most rfl rfl rfl (by decide +kernel) ⟨Nat.le_of_ble_eq_true rfl, Nat.le_of_ble_eq_true rfl⟩) hK hP hD hS hA hG hl [0, 1, 2, 3, 4, 5, 6, 7, 8, 9, 10, 11, 12, 13] 0 0 (by decide) rfl (ci := 6) rfl rfl rfl rfl rfl rfl rfl rfl rfl rfl (Nat.le_of_ble_eq_true rfl) dL_law_559 (Nat.le_of_ble_eq_true rfl) (Nat.le_of_ble_eq_true rfl) (fun H locs hP hD hS => ?_)
          refine lv_aload_n hx hb dL_law_562 rfl (lv_at hl 1 rfl) ?_
          refine lv_aload_n hx hb dL_law_563 rfl (lv_at hl 3 rfl) ?_
          refine lv_iload_n hx hb dL_law_564 rfl (lv_at hl 0 rfl) ?_
          refine lv_iconst (v := (1 : Int32)) hx hb dL_law_565 (by decide) ?_
          refine lv_iadd hx hb dL_law_566 ?_
          refine va_sld hx hb hX hbl hbA hS (inB_in hg340) dL_law_567 ?_
          refine lv_aload_n hx hb dL_law_568 rfl (lv_at hl 3 rfl) ?_
          refine lv_iload_n hx hb dL_law_569 rfl (lv_at hl 0 rfl) ?_
          refine lv_iconst (v := (2 : Int32)) hx hb dL_law_570 (by decide) ?_
          refine lv_iadd hx hb dL_law_571 ?_
          refine va_sld hx hb hX hbl hbA hS (inB_in hg341) dL_law_572 ?_
          obtain ⟨r346, ss347, asd348, hc349, h⟩ := bd3_s h
          refine g_call1i (As := [.int (xs ((v2 + (1 : Int32))).toNatClampNeg), .int (xs ((v2 + (2 : Int32))).toNatClampNeg)]) (rest := [.int r342]) (r := r346) (bs1 := [[(g0, .inr (6, [.ref (an 0), .ref (au 0), .ref (ap 0), .ref q0, .ref x0, .ref r0, .int ke3]))], [(q0, .inr (0, [.ref q1, .int lnn4]))], wHa E q1 ba pm5, wTx E x0 x1 x2 ch6 tl7 nu8 le9 nx10, [(r0, .inr (3, [.ref (ar 0), .ref (au 0), .int cmd11, .int pos12, .int rea13, .int cau14]))], wHuT E an xn15, wHuT E au xt_344, wHuT E ap xp17, wHuT E ar xr18, wHuT E (ba 0) h19, wHuT E (ba 1) h20, wHuT E (ba 2) h21, wHuT E (ba 3) h22, wHuT E (ba 4) h23, wMo E m0 m1 m2 m3 m4 m5 m6 m7 ss347 bg25 kp26 ik27 pt28 st29 tx30 ln31 asd348 att33 dn34 td35 fo36 nb37]) ⟨hx, hb, hml, hown, hts⟩ (kX7_most E l m0 m1 m2 m3 m4 m5 m6 m7 ss24 bg25 kp26 ik27 pt28 st29 tx30 ln31 asd32 att33 dn34 td35 fo36 nb37 (xs ((v2 + (1 : Int32))).toNatClampNeg) (xs ((v2 + (2 : Int32))).toNatClampNeg) (r346, ss347, asd348) hc349) (cwV 2 hts gL_law_X7_most rfl rfl rfl (by decide +kernel) ⟨Nat.le_of_ble_eq_true rfl, Nat.le_of_ble_eq_true rfl⟩) hK hP hD hS hA hG hl 14 0 (ci := 7) rfl rfl rfl rfl rfl rfl rfl rfl rfl (Nat.le_of_ble_eq_true rfl) dL_law_573 (Nat.le_of_ble_eq_true rfl) (Nat.le_of_ble_eq_true rfl) (fun H locs hP hD hS => ?_)
          refine lv_icmp_eq (tgt := 692) hx hb dL_law_576 (by decide) (fun hc350 => ?_) (fun hc350 => ?_)
          · replace h := g_it hc350 h
            obtain ⟨v351, e_v351⟩ : ∃ y : Int32, y = (v2 + (4 : Int32)) := ⟨_, rfl⟩
            replace h := jl_s e_v351 h
            refine lv_iinc (v := v351) (lv' := [(3, .int v351), (2, .ref m0), (1, .ref g0), (0, .ref b)]) hx hb dL_law_692 hl (k := 0) rfl (by rw [e_v351]; rfl) (by decide) rfl (fun ls hl => ?_)
            refine lv_goto (tgt := 18) hx hb dL_law_695 (by decide) ?_
            exact ih_rec1 v351 ke3 lnn4 pm5 ch6 tl7 nu8 le9 nx10 cmd11 pos12 rea13 cau14 xn15 xt_344 xp17 xr18 h19 h20 h21 h22 h23 ss347 bg25 kp26 ik27 pt28 st29 tx30 ln31 asd348 att33 dn34 td35 fo36 nb37 _ _ _ hP hS (lv_sub hl [0, 1, 2, 3] rfl) h
          · replace h := g_if hc350 h
            refine lv_iconst (v := (0 : Int32)) hx hb dL_law_579 (by decide) ?_
            exact absurd ((Option.some.inj h).trans hres) (by decide)
        replace h := g_if hk54 h
        by_cases hk55 : ((xs (v2).toNatClampNeg) &&& (31 : Int32)) = (15 : Int32)
        · replace h := g_it hk55 h
          refine lv_tableIn (tgt := 581) (off := 549) hx hb dL_law_32 (by rw [hk55]; decide) (by rw [hk55]; decide) (by rw [hk55]; rfl) (by decide) ?_
          refine lv_aload_n hx hb dL_law_581 rfl (lv_at hl 2 rfl) ?_
          obtain ⟨r352, ke_354, xp_356, hc357, h⟩ := bd3_s h
          refine g_callBi (As := []) (rest := []) (r := r352) (bs1 := [[(g0, .inr (6, [.ref (an 0), .ref (au 0), .ref (ap 0), .ref q0, .ref x0, .ref r0, .int ke_354]))], [(q0, .inr (0, [.ref q1, .int lnn4]))], wHa E q1 ba pm5, wTx E x0 x1 x2 ch6 tl7 nu8 le9 nx10, [(r0, .inr (3, [.ref (ar 0), .ref (au 0), .int cmd11, .int pos12, .int rea13, .int cau14]))], wHuT E an xn15, wHuT E au xt16, wHuT E ap xp_356, wHuT E ar xr18, wHuT E (ba 0) h19, wHuT E (ba 1) h20, wHuT E (ba 2) h21, wHuT E (ba 3) h22, wHuT E (ba 4) h23, wMo E m0 m1 m2 m3 m4 m5 m6 m7 ss24 bg25 kp26 ik27 pt28 st29 tx30 ln31 asd32 att33 dn34 td35 fo36 nb37]) ⟨hx, hb, hml, hown, hts⟩ (kX6_keep E l g0 q0 q1 x0 x1 x2 r0 an au ap ar ba ke3 lnn4 pm5 ch6 tl7 nu8 le9 nx10 cmd11 pos12 rea13 cau14 xn15 xt16 xp17 xr18 h19 h20 h21 h22 h23 (r352, ke_354, xp_356) hc357) (cwV 0 hts gL_law_X6_keep rfl rfl rfl (by decide +kernel) ⟨Nat.le_of_ble_eq_true rfl, Nat.le_of_ble_eq_true rfl⟩) hK hP hD hS hA hG hl [0, 1, 2, 3, 4, 5, 6, 7, 8, 9, 10, 11, 12, 13] 0 0 (by decide) rfl (ci := 6) rfl rfl rfl rfl rfl rfl rfl rfl rfl rfl (Nat.le_of_ble_eq_true rfl) dL_law_582 (Nat.le_of_ble_eq_true rfl) (Nat.le_of_ble_eq_true rfl) (fun H locs hP hD hS => ?_)
          refine lv_aload_n hx hb dL_law_585 rfl (lv_at hl 1 rfl) ?_
          obtain ⟨r358, kp359, ik360, hc361, h⟩ := bd3_s h
          refine g_call1i (As := []) (rest := [.int r352]) (r := r358) (bs1 := [[(g0, .inr (6, [.ref (an 0), .ref (au 0), .ref (ap 0), .ref q0, .ref x0, .ref r0, .int ke_354]))], [(q0, .inr (0, [.ref q1, .int lnn4]))], wHa E q1 ba pm5, wTx E x0 x1 x2 ch6 tl7 nu8 le9 nx10, [(r0, .inr (3, [.ref (ar 0), .ref (au 0), .int cmd11, .int pos12, .int rea13, .int cau14]))], wHuT E an xn15, wHuT E au xt16, wHuT E ap xp_356, wHuT E ar xr18, wHuT E (ba 0) h19, wHuT E (ba 1) h20, wHuT E (ba 2) h21, wHuT E (ba 3) h22, wHuT E (ba 4) h23, wMo E m0 m1 m2 m3 m4 m5 m6 m7 ss24 bg25 kp359 ik360 pt28 st29 tx30 ln31 asd32 att33 dn34 td35 fo36 nb37]) ⟨hx, hb, hml, hown, hts⟩ (kX7_keep E l m0 m1 m2 m3 m4 m5 m6 m7 ss24 bg25 kp26 ik27 pt28 st29 tx30 ln31 asd32 att33 dn34 td35 fo36 nb37 (r358, kp359, ik360) hc361) (cwV 0 hts gL_law_X7_keep rfl rfl rfl (by decide +kernel) ⟨Nat.le_of_ble_eq_true rfl, Nat.le_of_ble_eq_true rfl⟩) hK hP hD hS hA hG hl 14 0 (ci := 7) rfl rfl rfl rfl rfl rfl rfl rfl rfl (Nat.le_of_ble_eq_true rfl) dL_law_586 (Nat.le_of_ble_eq_true rfl) (Nat.le_of_ble_eq_true rfl) (fun H locs hP hD hS => ?_)
          refine lv_icmp_eq (tgt := 692) hx hb dL_law_589 (by decide) (fun hc362 => ?_) (fun hc362 => ?_)
          · replace h := g_it hc362 h
            obtain ⟨v363, e_v363⟩ : ∃ y : Int32, y = (v2 + (4 : Int32)) := ⟨_, rfl⟩
            replace h := jl_s e_v363 h
            refine lv_iinc (v := v363) (lv' := [(3, .int v363), (2, .ref m0), (1, .ref g0), (0, .ref b)]) hx hb dL_law_692 hl (k := 0) rfl (by rw [e_v363]; rfl) (by decide) rfl (fun ls hl => ?_)
            refine lv_goto (tgt := 18) hx hb dL_law_695 (by decide) ?_
            exact ih_rec1 v363 ke_354 lnn4 pm5 ch6 tl7 nu8 le9 nx10 cmd11 pos12 rea13 cau14 xn15 xt16 xp_356 xr18 h19 h20 h21 h22 h23 ss24 bg25 kp359 ik360 pt28 st29 tx30 ln31 asd32 att33 dn34 td35 fo36 nb37 _ _ _ hP hS (lv_sub hl [0, 1, 2, 3] rfl) h
          · replace h := g_if hc362 h
            refine lv_iconst (v := (0 : Int32)) hx hb dL_law_592 (by decide) ?_
            exact absurd ((Option.some.inj h).trans hres) (by decide)
        replace h := g_if hk55 h
        by_cases hk56 : ((xs (v2).toNatClampNeg) &&& (31 : Int32)) = (16 : Int32)
        · replace h := g_it hk56 h
          refine lv_tableIn (tgt := 594) (off := 562) hx hb dL_law_32 (by rw [hk56]; decide) (by rw [hk56]; decide) (by rw [hk56]; rfl) (by decide) ?_
          refine lv_aload_n hx hb dL_law_594 rfl (lv_at hl 2 rfl) ?_
          obtain ⟨r364, lnn_366, pm_368, xn_370, h0_372, h1_374, h2_376, h3_378, h4_380, hc381, h⟩ := bd9_s h
          refine g_callBi (As := []) (rest := []) (r := r364) (bs1 := [[(g0, .inr (6, [.ref (an 0), .ref (au 0), .ref (ap 0), .ref q0, .ref x0, .ref r0, .int ke3]))], [(q0, .inr (0, [.ref q1, .int lnn_366]))], wHa E q1 ba pm_368, wTx E x0 x1 x2 ch6 tl7 nu8 le9 nx10, [(r0, .inr (3, [.ref (ar 0), .ref (au 0), .int cmd11, .int pos12, .int rea13, .int cau14]))], wHuT E an xn_370, wHuT E au xt16, wHuT E ap xp17, wHuT E ar xr18, wHuT E (ba 0) h0_372, wHuT E (ba 1) h1_374, wHuT E (ba 2) h2_376, wHuT E (ba 3) h3_378, wHuT E (ba 4) h4_380, wMo E m0 m1 m2 m3 m4 m5 m6 m7 ss24 bg25 kp26 ik27 pt28 st29 tx30 ln31 asd32 att33 dn34 td35 fo36 nb37]) ⟨hx, hb, hml, hown, hts⟩ (kX6_restore E l g0 q0 q1 x0 x1 x2 r0 an au ap ar ba ke3 lnn4 pm5 ch6 tl7 nu8 le9 nx10 cmd11 pos12 rea13 cau14 xn15 xt16 xp17 xr18 h19 h20 h21 h22 h23 (r364, lnn_366, pm_368, xn_370, h0_372, h1_374, h2_376, h3_378, h4_380) hc381) (cwV 0 hts gL_law_X6_restore rfl rfl rfl (by decide +kernel) ⟨Nat.le_of_ble_eq_true rfl, Nat.le_of_ble_eq_true rfl⟩) hK hP hD hS hA hG hl [0, 1, 2, 3, 4, 5, 6, 7, 8, 9, 10, 11, 12, 13] 0 0 (by decide) rfl (ci := 6) rfl rfl rfl rfl rfl rfl rfl rfl rfl rfl (Nat.le_of_ble_eq_true rfl) dL_law_595 (Nat.le_of_ble_eq_true rfl) (Nat.le_of_ble_eq_true rfl) (fun H locs hP hD hS => ?_)
          refine lv_aload_n hx hb dL_law_598 rfl (lv_at hl 1 rfl) ?_
          obtain ⟨r382, ss383, bg384, pt385, st386, hc387, h⟩ := bd5_s h
          refine g_call1i (As := []) (rest := [.int r364]) (r := r382) (bs1 := [[(g0, .inr (6, [.ref (an 0), .ref (au 0), .ref (ap 0), .ref q0, .ref x0, .ref r0, .int ke3]))], [(q0, .inr (0, [.ref q1, .int lnn_366]))], wHa E q1 ba pm_368, wTx E x0 x1 x2 ch6 tl7 nu8 le9 nx10, [(r0, .inr (3, [.ref (ar 0), .ref (au 0), .int cmd11, .int pos12, .int rea13, .int cau14]))], wHuT E an xn_370, wHuT E au xt16, wHuT E ap xp17, wHuT E ar xr18, wHuT E (ba 0) h0_372, wHuT E (ba 1) h1_374, wHuT E (ba 2) h2_376, wHuT E (ba 3) h3_378, wHuT E (ba 4) h4_380, wMo E m0 m1 m2 m3 m4 m5 m6 m7 ss383 bg384 kp26 ik27 pt385 st386 tx30 ln31 asd32 att33 dn34 td35 fo36 nb37]) ⟨hx, hb, hml, hown, hts⟩ (kX7_restore E l m0 m1 m2 m3 m4 m5 m6 m7 ss24 bg25 kp26 ik27 pt28 st29 tx30 ln31 asd32 att33 dn34 td35 fo36 nb37 (r382, ss383, bg384, pt385, st386) hc387) (cwV 0 hts gL_law_X7_restore rfl rfl rfl (by decide +kernel) ⟨Nat.le_of_ble_eq_true rfl, Nat.le_of_ble_eq_true rfl⟩) hK hP hD hS hA hG hl 14 0 (ci := 7) rfl rfl rfl rfl rfl rfl rfl rfl rfl (Nat.le_of_ble_eq_true rfl) dL_law_599 (Nat.le_of_ble_eq_true rfl) (Nat.le_of_ble_eq_true rfl) (fun H locs hP hD hS => ?_)
          refine lv_icmp_eq (tgt := 692) hx hb dL_law_602 (by decide) (fun hc388 => ?_) (fun hc388 => ?_)
          · replace h := g_it hc388 h
            obtain ⟨v389, e_v389⟩ : ∃ y : Int32, y = (v2 + (4 : Int32)) := ⟨_, rfl⟩
            replace h := jl_s e_v389 h
            refine lv_iinc (v := v389) (lv' := [(3, .int v389), (2, .ref m0), (1, .ref g0), (0, .ref b)]) hx hb dL_law_692 hl (k := 0) rfl (by rw [e_v389]; rfl) (by decide) rfl (fun ls hl => ?_)
            refine lv_goto (tgt := 18) hx hb dL_law_695 (by decide) ?_
            exact ih_rec1 v389 ke3 lnn_366 pm_368 ch6 tl7 nu8 le9 nx10 cmd11 pos12 rea13 cau14 xn_370 xt16 xp17 xr18 h0_372 h1_374 h2_376 h3_378 h4_380 ss383 bg384 kp26 ik27 pt385 st386 tx30 ln31 asd32 att33 dn34 td35 fo36 nb37 _ _ _ hP hS (lv_sub hl [0, 1, 2, 3] rfl) h
          · replace h := g_if hc388 h
            refine lv_iconst (v := (0 : Int32)) hx hb dL_law_605 (by decide) ?_
            exact absurd ((Option.some.inj h).trans hres) (by decide)
        replace h := g_if hk56 h
        by_cases hk57 : ((xs (v2).toNatClampNeg) &&& (31 : Int32)) = (17 : Int32)
        · replace h := g_it hk57 h
          refine lv_tableIn (tgt := 607) (off := 575) hx hb dL_law_32 (by rw [hk57]; decide) (by rw [hk57]; decide) (by rw [hk57]; rfl) (by decide) ?_
          refine lv_aload_n hx hb dL_law_607 rfl (lv_at hl 2 rfl) ?_
          obtain ⟨r390, lnn_392, xn_394, hc395, h⟩ := bd3_s h
          refine g_callBi (As := []) (rest := []) (r := r390) (bs1 := [[(g0, .inr (6, [.ref (an 0), .ref (au 0), .ref (ap 0), .ref q0, .ref x0, .ref r0, .int ke3]))], [(q0, .inr (0, [.ref q1, .int lnn_392]))], wHa E q1 ba pm5, wTx E x0 x1 x2 ch6 tl7 nu8 le9 nx10, [(r0, .inr (3, [.ref (ar 0), .ref (au 0), .int cmd11, .int pos12, .int rea13, .int cau14]))], wHuT E an xn_394, wHuT E au xt16, wHuT E ap xp17, wHuT E ar xr18, wHuT E (ba 0) h19, wHuT E (ba 1) h20, wHuT E (ba 2) h21, wHuT E (ba 3) h22, wHuT E (ba 4) h23, wMo E m0 m1 m2 m3 m4 m5 m6 m7 ss24 bg25 kp26 ik27 pt28 st29 tx30 ln31 asd32 att33 dn34 td35 fo36 nb37]) ⟨hx, hb, hml, hown, hts⟩ (kX6_undo E l g0 q0 q1 x0 x1 x2 r0 an au ap ar ba ke3 lnn4 pm5 ch6 tl7 nu8 le9 nx10 cmd11 pos12 rea13 cau14 xn15 xt16 xp17 xr18 h19 h20 h21 h22 h23 (r390, lnn_392, xn_394) hc395) (cwV 0 hts gL_law_X6_undo rfl rfl rfl (by decide +kernel) ⟨Nat.le_of_ble_eq_true rfl, Nat.le_of_ble_eq_true rfl⟩) hK hP hD hS hA hG hl [0, 1, 2, 3, 4, 5, 6, 7, 8, 9, 10, 11, 12, 13] 0 0 (by decide) rfl (ci := 6) rfl rfl rfl rfl rfl rfl rfl rfl rfl rfl (Nat.le_of_ble_eq_true rfl) dL_law_608 (Nat.le_of_ble_eq_true rfl) (Nat.le_of_ble_eq_true rfl) (fun H locs hP hD hS => ?_)
          refine lv_aload_n hx hb dL_law_611 rfl (lv_at hl 1 rfl) ?_
          obtain ⟨r396, ss397, st398, hc399, h⟩ := bd3_s h
          refine g_call1i (As := []) (rest := [.int r390]) (r := r396) (bs1 := [[(g0, .inr (6, [.ref (an 0), .ref (au 0), .ref (ap 0), .ref q0, .ref x0, .ref r0, .int ke3]))], [(q0, .inr (0, [.ref q1, .int lnn_392]))], wHa E q1 ba pm5, wTx E x0 x1 x2 ch6 tl7 nu8 le9 nx10, [(r0, .inr (3, [.ref (ar 0), .ref (au 0), .int cmd11, .int pos12, .int rea13, .int cau14]))], wHuT E an xn_394, wHuT E au xt16, wHuT E ap xp17, wHuT E ar xr18, wHuT E (ba 0) h19, wHuT E (ba 1) h20, wHuT E (ba 2) h21, wHuT E (ba 3) h22, wHuT E (ba 4) h23, wMo E m0 m1 m2 m3 m4 m5 m6 m7 ss397 bg25 kp26 ik27 pt28 st398 tx30 ln31 asd32 att33 dn34 td35 fo36 nb37]) ⟨hx, hb, hml, hown, hts⟩ (kX7_undo E l m0 m1 m2 m3 m4 m5 m6 m7 ss24 bg25 kp26 ik27 pt28 st29 tx30 ln31 asd32 att33 dn34 td35 fo36 nb37 (r396, ss397, st398) hc399) (cwV 0 hts gL_law_X7_undo rfl rfl rfl (by decide +kernel) ⟨Nat.le_of_ble_eq_true rfl, Nat.le_of_ble_eq_true rfl⟩) hK hP hD hS hA hG hl 14 0 (ci := 7) rfl rfl rfl rfl rfl rfl rfl rfl rfl (Nat.le_of_ble_eq_true rfl) dL_law_612 (Nat.le_of_ble_eq_true rfl) (Nat.le_of_ble_eq_true rfl) (fun H locs hP hD hS => ?_)
          refine lv_icmp_eq (tgt := 692) hx hb dL_law_615 (by decide) (fun hc400 => ?_) (fun hc400 => ?_)
          · replace h := g_it hc400 h
            obtain ⟨v401, e_v401⟩ : ∃ y : Int32, y = (v2 + (4 : Int32)) := ⟨_, rfl⟩
            replace h := jl_s e_v401 h
            refine lv_iinc (v := v401) (lv' := [(3, .int v401), (2, .ref m0), (1, .ref g0), (0, .ref b)]) hx hb dL_law_692 hl (k := 0) rfl (by rw [e_v401]; rfl) (by decide) rfl (fun ls hl => ?_)
            refine lv_goto (tgt := 18) hx hb dL_law_695 (by decide) ?_
            exact ih_rec1 v401 ke3 lnn_392 pm5 ch6 tl7 nu8 le9 nx10 cmd11 pos12 rea13 cau14 xn_394 xt16 xp17 xr18 h19 h20 h21 h22 h23 ss397 bg25 kp26 ik27 pt28 st398 tx30 ln31 asd32 att33 dn34 td35 fo36 nb37 _ _ _ hP hS (lv_sub hl [0, 1, 2, 3] rfl) h
          · replace h := g_if hc400 h
            refine lv_iconst (v := (0 : Int32)) hx hb dL_law_618 (by decide) ?_
            exact absurd ((Option.some.inj h).trans hres) (by decide)
        replace h := g_if hk57 h
        by_cases hk58 : ((xs (v2).toNatClampNeg) &&& (31 : Int32)) = (18 : Int32)
        · replace h := g_it hk58 h
          refine lv_tableIn (tgt := 620) (off := 588) hx hb dL_law_32 (by rw [hk58]; decide) (by rw [hk58]; decide) (by rw [hk58]; rfl) (by decide) ?_
          refine lv_aload_n hx hb dL_law_620 rfl (lv_at hl 2 rfl) ?_
          refine lv_aload_n hx hb dL_law_621 rfl (lv_at hl 3 rfl) ?_
          refine lv_iload_n hx hb dL_law_622 rfl (lv_at hl 0 rfl) ?_
          refine lv_iconst (v := (1 : Int32)) hx hb dL_law_623 (by decide) ?_
          refine lv_iadd hx hb dL_law_624 ?_
          obtain ⟨hg402, h⟩ := gd_s h
          refine va_sld hx hb hX hbl hbA hS (inB_in hg402) dL_law_625 ?_
          obtain ⟨r403, ch_405, tl_407, hc408, h⟩ := bd3_s h
          refine g_callBi (As := [.int (xs ((v2 + (1 : Int32))).toNatClampNeg)]) (rest := []) (r := r403) (bs1 := [[(g0, .inr (6, [.ref (an 0), .ref (au 0), .ref (ap 0), .ref q0, .ref x0, .ref r0, .int ke3]))], [(q0, .inr (0, [.ref q1, .int lnn4]))], wHa E q1 ba pm5, wTx E x0 x1 x2 ch_405 tl_407 nu8 le9 nx10, [(r0, .inr (3, [.ref (ar 0), .ref (au 0), .int cmd11, .int pos12, .int rea13, .int cau14]))], wHuT E an xn15, wHuT E au xt16, wHuT E ap xp17, wHuT E ar xr18, wHuT E (ba 0) h19, wHuT E (ba 1) h20, wHuT E (ba 2) h21, wHuT E (ba 3) h22, wHuT E (ba 4) h23, wMo E m0 m1 m2 m3 m4 m5 m6 m7 ss24 bg25 kp26 ik27 pt28 st29 tx30 ln31 asd32 att33 dn34 td35 fo36 nb37]) ⟨hx, hb, hml, hown, hts⟩ (kX6_type E l g0 q0 q1 x0 x1 x2 r0 an au ap ar ba ke3 lnn4 pm5 ch6 tl7 nu8 le9 nx10 cmd11 pos12 rea13 cau14 xn15 xt16 xp17 xr18 h19 h20 h21 h22 h23 (xs ((v2 + (1 : Int32))).toNatClampNeg) (r403, ch_405, tl_407) hc408) (cwV 1 hts gL_law_X6_type rfl rfl rfl (by decide +kernel) ⟨Nat.le_of_ble_eq_true rfl, Nat.le_of_ble_eq_true rfl⟩) hK hP hD hS hA hG hl [0, 1, 2, 3, 4, 5, 6, 7, 8, 9, 10, 11, 12, 13] 0 0 (by decide) rfl (ci := 6) rfl rfl rfl rfl rfl rfl rfl rfl rfl rfl (Nat.le_of_ble_eq_true rfl) dL_law_626 (Nat.le_of_ble_eq_true rfl) (Nat.le_of_ble_eq_true rfl) (fun H locs hP hD hS => ?_)
          refine lv_aload_n hx hb dL_law_629 rfl (lv_at hl 1 rfl) ?_
          refine lv_aload_n hx hb dL_law_630 rfl (lv_at hl 3 rfl) ?_
          refine lv_iload_n hx hb dL_law_631 rfl (lv_at hl 0 rfl) ?_
          refine lv_iconst (v := (1 : Int32)) hx hb dL_law_632 (by decide) ?_
          refine lv_iadd hx hb dL_law_633 ?_
          refine va_sld hx hb hX hbl hbA hS (inB_in hg402) dL_law_634 ?_
          obtain ⟨r409, tx410, ln411, hc412, h⟩ := bd3_s h
          refine g_call1i (As := [.int (xs ((v2 + (1 : Int32))).toNatClampNeg)]) (rest := [.int r403]) (r := r409) (bs1 := [[(g0, .inr (6, [.ref (an 0), .ref (au 0), .ref (ap 0), .ref q0, .ref x0, .ref r0, .int ke3]))], [(q0, .inr (0, [.ref q1, .int lnn4]))], wHa E q1 ba pm5, wTx E x0 x1 x2 ch_405 tl_407 nu8 le9 nx10, [(r0, .inr (3, [.ref (ar 0), .ref (au 0), .int cmd11, .int pos12, .int rea13, .int cau14]))], wHuT E an xn15, wHuT E au xt16, wHuT E ap xp17, wHuT E ar xr18, wHuT E (ba 0) h19, wHuT E (ba 1) h20, wHuT E (ba 2) h21, wHuT E (ba 3) h22, wHuT E (ba 4) h23, wMo E m0 m1 m2 m3 m4 m5 m6 m7 ss24 bg25 kp26 ik27 pt28 st29 tx410 ln411 asd32 att33 dn34 td35 fo36 nb37]) ⟨hx, hb, hml, hown, hts⟩ (kX7_type E l m0 m1 m2 m3 m4 m5 m6 m7 ss24 bg25 kp26 ik27 pt28 st29 tx30 ln31 asd32 att33 dn34 td35 fo36 nb37 (xs ((v2 + (1 : Int32))).toNatClampNeg) (r409, tx410, ln411) hc412) (cwV 1 hts gL_law_X7_type rfl rfl rfl (by decide +kernel) ⟨Nat.le_of_ble_eq_true rfl, Nat.le_of_ble_eq_true rfl⟩) hK hP hD hS hA hG hl 14 0 (ci := 7) rfl rfl rfl rfl rfl rfl rfl rfl rfl (Nat.le_of_ble_eq_true rfl) dL_law_635 (Nat.le_of_ble_eq_true rfl) (Nat.le_of_ble_eq_true rfl) (fun H locs hP hD hS => ?_)
          refine lv_icmp_eq (tgt := 692) hx hb dL_law_638 (by decide) (fun hc413 => ?_) (fun hc413 => ?_)
          · replace h := g_it hc413 h
            obtain ⟨v414, e_v414⟩ : ∃ y : Int32, y = (v2 + (4 : Int32)) := ⟨_, rfl⟩
            replace h := jl_s e_v414 h
            refine lv_iinc (v := v414) (lv' := [(3, .int v414), (2, .ref m0), (1, .ref g0), (0, .ref b)]) hx hb dL_law_692 hl (k := 0) rfl (by rw [e_v414]; rfl) (by decide) rfl (fun ls hl => ?_)
            refine lv_goto (tgt := 18) hx hb dL_law_695 (by decide) ?_
            exact ih_rec1 v414 ke3 lnn4 pm5 ch_405 tl_407 nu8 le9 nx10 cmd11 pos12 rea13 cau14 xn15 xt16 xp17 xr18 h19 h20 h21 h22 h23 ss24 bg25 kp26 ik27 pt28 st29 tx410 ln411 asd32 att33 dn34 td35 fo36 nb37 _ _ _ hP hS (lv_sub hl [0, 1, 2, 3] rfl) h
          · replace h := g_if hc413 h
            refine lv_iconst (v := (0 : Int32)) hx hb dL_law_641 (by decide) ?_
            exact absurd ((Option.some.inj h).trans hres) (by decide)
        replace h := g_if hk58 h
        by_cases hk59 : ((xs (v2).toNatClampNeg) &&& (31 : Int32)) = (19 : Int32)
        · replace h := g_it hk59 h
          refine lv_tableIn (tgt := 643) (off := 611) hx hb dL_law_32 (by rw [hk59]; decide) (by rw [hk59]; decide) (by rw [hk59]; rfl) (by decide) ?_
          refine lv_aload_n hx hb dL_law_643 rfl (lv_at hl 2 rfl) ?_
          obtain ⟨r415, tl_417, hc418, h⟩ := bd2_s h
          refine g_callBi (As := []) (rest := []) (r := r415) (bs1 := [[(g0, .inr (6, [.ref (an 0), .ref (au 0), .ref (ap 0), .ref q0, .ref x0, .ref r0, .int ke3]))], [(q0, .inr (0, [.ref q1, .int lnn4]))], wHa E q1 ba pm5, wTx E x0 x1 x2 ch6 tl_417 nu8 le9 nx10, [(r0, .inr (3, [.ref (ar 0), .ref (au 0), .int cmd11, .int pos12, .int rea13, .int cau14]))], wHuT E an xn15, wHuT E au xt16, wHuT E ap xp17, wHuT E ar xr18, wHuT E (ba 0) h19, wHuT E (ba 1) h20, wHuT E (ba 2) h21, wHuT E (ba 3) h22, wHuT E (ba 4) h23, wMo E m0 m1 m2 m3 m4 m5 m6 m7 ss24 bg25 kp26 ik27 pt28 st29 tx30 ln31 asd32 att33 dn34 td35 fo36 nb37]) ⟨hx, hb, hml, hown, hts⟩ (kX6_clearText E l g0 q0 q1 x0 x1 x2 r0 an au ap ar ba ke3 lnn4 pm5 ch6 tl7 nu8 le9 nx10 cmd11 pos12 rea13 cau14 xn15 xt16 xp17 xr18 h19 h20 h21 h22 h23 (r415, tl_417) hc418) (cwV 0 hts gL_law_X6_clearText rfl rfl rfl (by decide +kernel) ⟨Nat.le_of_ble_eq_true rfl, Nat.le_of_ble_eq_true rfl⟩) hK hP hD hS hA hG hl [0, 1, 2, 3, 4, 5, 6, 7, 8, 9, 10, 11, 12, 13] 0 0 (by decide) rfl (ci := 6) rfl rfl rfl rfl rfl rfl rfl rfl rfl rfl (Nat.le_of_ble_eq_true rfl) dL_law_644 (Nat.le_of_ble_eq_true rfl) (Nat.le_of_ble_eq_true rfl) (fun H locs hP hD hS => ?_)
          refine lv_aload_n hx hb dL_law_647 rfl (lv_at hl 1 rfl) ?_
          obtain ⟨r419, ln420, hc421, h⟩ := bd2_s h
          refine g_call1i (As := []) (rest := [.int r415]) (r := r419) (bs1 := [[(g0, .inr (6, [.ref (an 0), .ref (au 0), .ref (ap 0), .ref q0, .ref x0, .ref r0, .int ke3]))], [(q0, .inr (0, [.ref q1, .int lnn4]))], wHa E q1 ba pm5, wTx E x0 x1 x2 ch6 tl_417 nu8 le9 nx10, [(r0, .inr (3, [.ref (ar 0), .ref (au 0), .int cmd11, .int pos12, .int rea13, .int cau14]))], wHuT E an xn15, wHuT E au xt16, wHuT E ap xp17, wHuT E ar xr18, wHuT E (ba 0) h19, wHuT E (ba 1) h20, wHuT E (ba 2) h21, wHuT E (ba 3) h22, wHuT E (ba 4) h23, wMo E m0 m1 m2 m3 m4 m5 m6 m7 ss24 bg25 kp26 ik27 pt28 st29 tx30 ln420 asd32 att33 dn34 td35 fo36 nb37]) ⟨hx, hb, hml, hown, hts⟩ (kX7_clearText E l m0 m1 m2 m3 m4 m5 m6 m7 ss24 bg25 kp26 ik27 pt28 st29 tx30 ln31 asd32 att33 dn34 td35 fo36 nb37 (r419, ln420) hc421) (cwV 0 hts gL_law_X7_clearText rfl rfl rfl (by decide +kernel) ⟨Nat.le_of_ble_eq_true rfl, Nat.le_of_ble_eq_true rfl⟩) hK hP hD hS hA hG hl 14 0 (ci := 7) rfl rfl rfl rfl rfl rfl rfl rfl rfl (Nat.le_of_ble_eq_true rfl) dL_law_648 (Nat.le_of_ble_eq_true rfl) (Nat.le_of_ble_eq_true rfl) (fun H locs hP hD hS => ?_)
          refine lv_icmp_eq (tgt := 692) hx hb dL_law_651 (by decide) (fun hc422 => ?_) (fun hc422 => ?_)
          · replace h := g_it hc422 h
            obtain ⟨v423, e_v423⟩ : ∃ y : Int32, y = (v2 + (4 : Int32)) := ⟨_, rfl⟩
            replace h := jl_s e_v423 h
            refine lv_iinc (v := v423) (lv' := [(3, .int v423), (2, .ref m0), (1, .ref g0), (0, .ref b)]) hx hb dL_law_692 hl (k := 0) rfl (by rw [e_v423]; rfl) (by decide) rfl (fun ls hl => ?_)
            refine lv_goto (tgt := 18) hx hb dL_law_695 (by decide) ?_
            exact ih_rec1 v423 ke3 lnn4 pm5 ch6 tl_417 nu8 le9 nx10 cmd11 pos12 rea13 cau14 xn15 xt16 xp17 xr18 h19 h20 h21 h22 h23 ss24 bg25 kp26 ik27 pt28 st29 tx30 ln420 asd32 att33 dn34 td35 fo36 nb37 _ _ _ hP hS (lv_sub hl [0, 1, 2, 3] rfl) h
          · replace h := g_if hc422 h
            refine lv_iconst (v := (0 : Int32)) hx hb dL_law_654 (by decide) ?_
            exact absurd ((Option.some.inj h).trans hres) (by decide)
        replace h := g_if hk59 h
        by_cases hk60 : ((xs (v2).toNatClampNeg) &&& (31 : Int32)) = (20 : Int32)
        · replace h := g_it hk60 h
          refine lv_tableIn (tgt := 656) (off := 624) hx hb dL_law_32 (by rw [hk60]; decide) (by rw [hk60]; decide) (by rw [hk60]; rfl) (by decide) ?_
          refine lv_aload_n hx hb dL_law_656 rfl (lv_at hl 2 rfl) ?_
          refine lv_aload_n hx hb dL_law_657 rfl (lv_at hl 3 rfl) ?_
          refine lv_iload_n hx hb dL_law_658 rfl (lv_at hl 0 rfl) ?_
          refine lv_iconst (v := (1 : Int32)) hx hb dL_law_659 (by decide) ?_
          refine lv_iadd hx hb dL_law_660 ?_
          obtain ⟨hg424, h⟩ := gd_s h
          refine va_sld hx hb hX hbl hbA hS (inB_in hg424) dL_law_661 ?_
          obtain ⟨r425, nu_427, le_429, nx_431, cmd_433, pos_435, rea_437, cau_439, xt_441, xr_443, hc444, h⟩ := bd10_s h
          refine g_callBi (As := [.int (xs ((v2 + (1 : Int32))).toNatClampNeg)]) (rest := []) (r := r425) (bs1 := [[(g0, .inr (6, [.ref (an 0), .ref (au 0), .ref (ap 0), .ref q0, .ref x0, .ref r0, .int ke3]))], [(q0, .inr (0, [.ref q1, .int lnn4]))], wHa E q1 ba pm5, wTx E x0 x1 x2 ch6 tl7 nu_427 le_429 nx_431, [(r0, .inr (3, [.ref (ar 0), .ref (au 0), .int cmd_433, .int pos_435, .int rea_437, .int cau_439]))], wHuT E an xn15, wHuT E au xt_441, wHuT E ap xp17, wHuT E ar xr_443, wHuT E (ba 0) h19, wHuT E (ba 1) h20, wHuT E (ba 2) h21, wHuT E (ba 3) h22, wHuT E (ba 4) h23, wMo E m0 m1 m2 m3 m4 m5 m6 m7 ss24 bg25 kp26 ik27 pt28 st29 tx30 ln31 asd32 att33 dn34 td35 fo36 nb37]) ⟨hx, hb, hml, hown, hts⟩ (kX6_fault E l g0 q0 q1 x0 x1 x2 r0 an au ap ar ba ke3 lnn4 pm5 ch6 tl7 nu8 le9 nx10 cmd11 pos12 rea13 cau14 xn15 xt16 xp17 xr18 h19 h20 h21 h22 h23 (xs ((v2 + (1 : Int32))).toNatClampNeg) (r425, nu_427, le_429, nx_431, cmd_433, pos_435, rea_437, cau_439, xt_441, xr_443) hc444) (cwV 1 hts gL_law_X6_fault rfl rfl rfl (by decide +kernel) ⟨Nat.le_of_ble_eq_true rfl, Nat.le_of_ble_eq_true rfl⟩) hK hP hD hS hA hG hl [0, 1, 2, 3, 4, 5, 6, 7, 8, 9, 10, 11, 12, 13] 0 0 (by decide) rfl (ci := 6) rfl rfl rfl rfl rfl rfl rfl rfl rfl rfl (Nat.le_of_ble_eq_true rfl) dL_law_662 (Nat.le_of_ble_eq_true rfl) (Nat.le_of_ble_eq_true rfl) (fun H locs hP hD hS => ?_)
          refine lv_aload_n hx hb dL_law_665 rfl (lv_at hl 1 rfl) ?_
          refine lv_aload_n hx hb dL_law_666 rfl (lv_at hl 3 rfl) ?_
          refine lv_iload_n hx hb dL_law_667 rfl (lv_at hl 0 rfl) ?_
          refine lv_iconst (v := (1 : Int32)) hx hb dL_law_668 (by decide) ?_
          refine lv_iadd hx hb dL_law_669 ?_
          refine va_sld hx hb hX hbl hbA hS (inB_in hg424) dL_law_670 ?_
          obtain ⟨r445, ss446, bg447, asd448, att449, dn450, td451, fo452, nb453, hc454, h⟩ := bd9_s h
          refine g_call1i (As := [.int (xs ((v2 + (1 : Int32))).toNatClampNeg)]) (rest := [.int r425]) (r := r445) (bs1 := [[(g0, .inr (6, [.ref (an 0), .ref (au 0), .ref (ap 0), .ref q0, .ref x0, .ref r0, .int ke3]))], [(q0, .inr (0, [.ref q1, .int lnn4]))], wHa E q1 ba pm5, wTx E x0 x1 x2 ch6 tl7 nu_427 le_429 nx_431, [(r0, .inr (3, [.ref (ar 0), .ref (au 0), .int cmd_433, .int pos_435, .int rea_437, .int cau_439]))], wHuT E an xn15, wHuT E au xt_441, wHuT E ap xp17, wHuT E ar xr_443, wHuT E (ba 0) h19, wHuT E (ba 1) h20, wHuT E (ba 2) h21, wHuT E (ba 3) h22, wHuT E (ba 4) h23, wMo E m0 m1 m2 m3 m4 m5 m6 m7 ss446 bg447 kp26 ik27 pt28 st29 tx30 ln31 asd448 att449 dn450 td451 fo452 nb453]) ⟨hx, hb, hml, hown, hts⟩ (kX7_fault E l m0 m1 m2 m3 m4 m5 m6 m7 ss24 bg25 kp26 ik27 pt28 st29 tx30 ln31 asd32 att33 dn34 td35 fo36 nb37 (xs ((v2 + (1 : Int32))).toNatClampNeg) (r445, ss446, bg447, asd448, att449, dn450, td451, fo452, nb453) hc454) (cwV 1 hts gL_law_X7_fault rfl rfl rfl (by decide +kernel) ⟨Nat.le_of_ble_eq_true rfl, Nat.le_of_ble_eq_true rfl⟩) hK hP hD hS hA hG hl 14 0 (ci := 7) rfl rfl rfl rfl rfl rfl rfl rfl rfl (Nat.le_of_ble_eq_true rfl) dL_law_671 (Nat.le_of_ble_eq_true rfl) (Nat.le_of_ble_eq_true rfl) (fun H locs hP hD hS => ?_)
          refine lv_icmp_eq (tgt := 692) hx hb dL_law_674 (by decide) (fun hc455 => ?_) (fun hc455 => ?_)
          · replace h := g_it hc455 h
            obtain ⟨v456, e_v456⟩ : ∃ y : Int32, y = (v2 + (4 : Int32)) := ⟨_, rfl⟩
            replace h := jl_s e_v456 h
            refine lv_iinc (v := v456) (lv' := [(3, .int v456), (2, .ref m0), (1, .ref g0), (0, .ref b)]) hx hb dL_law_692 hl (k := 0) rfl (by rw [e_v456]; rfl) (by decide) rfl (fun ls hl => ?_)
            refine lv_goto (tgt := 18) hx hb dL_law_695 (by decide) ?_
            exact ih_rec1 v456 ke3 lnn4 pm5 ch6 tl7 nu_427 le_429 nx_431 cmd_433 pos_435 rea_437 cau_439 xn15 xt_441 xp17 xr_443 h19 h20 h21 h22 h23 ss446 bg447 kp26 ik27 pt28 st29 tx30 ln31 asd448 att449 dn450 td451 fo452 nb453 _ _ _ hP hS (lv_sub hl [0, 1, 2, 3] rfl) h
          · replace h := g_if hc455 h
            refine lv_iconst (v := (0 : Int32)) hx hb dL_law_677 (by decide) ?_
            exact absurd ((Option.some.inj h).trans hres) (by decide)
        replace h := g_if hk60 h
        by_cases hk61 : ((xs (v2).toNatClampNeg) &&& (31 : Int32)) = (21 : Int32)
        · replace h := g_it hk61 h
          refine lv_tableIn (tgt := 679) (off := 647) hx hb dL_law_32 (by rw [hk61]; decide) (by rw [hk61]; decide) (by rw [hk61]; rfl) (by decide) ?_
          refine lv_aload_n hx hb dL_law_679 rfl (lv_at hl 2 rfl) ?_
          obtain ⟨r457, lnn_459, pm_461, nu_463, le_465, nx_467, cmd_469, pos_471, rea_473, cau_475, xn_477, xt_479, xr_481, h0_483, h1_485, h2_487, h3_489, h4_491, hc492, h⟩ := bd18_s h
          refine g_callBi (As := []) (rest := []) (r := r457) (bs1 := [[(g0, .inr (6, [.ref (an 0), .ref (au 0), .ref (ap 0), .ref q0, .ref x0, .ref r0, .int ke3]))], [(q0, .inr (0, [.ref q1, .int lnn_459]))], wHa E q1 ba pm_461, wTx E x0 x1 x2 ch6 tl7 nu_463 le_465 nx_467, [(r0, .inr (3, [.ref (ar 0), .ref (au 0), .int cmd_469, .int pos_471, .int rea_473, .int cau_475]))], wHuT E an xn_477, wHuT E au xt_479, wHuT E ap xp17, wHuT E ar xr_481, wHuT E (ba 0) h0_483, wHuT E (ba 1) h1_485, wHuT E (ba 2) h2_487, wHuT E (ba 3) h3_489, wHuT E (ba 4) h4_491, wMo E m0 m1 m2 m3 m4 m5 m6 m7 ss24 bg25 kp26 ik27 pt28 st29 tx30 ln31 asd32 att33 dn34 td35 fo36 nb37]) ⟨hx, hb, hml, hown, hts⟩ (kX6_play E l g0 q0 q1 x0 x1 x2 r0 an au ap ar ba ke3 lnn4 pm5 ch6 tl7 nu8 le9 nx10 cmd11 pos12 rea13 cau14 xn15 xt16 xp17 xr18 h19 h20 h21 h22 h23 (r457, lnn_459, pm_461, nu_463, le_465, nx_467, cmd_469, pos_471, rea_473, cau_475, xn_477, xt_479, xr_481, h0_483, h1_485, h2_487, h3_489, h4_491) hc492) (cwV 0 hts gL_law_X6_play rfl rfl rfl (by decide +kernel) ⟨Nat.le_of_ble_eq_true rfl, Nat.le_of_ble_eq_true rfl⟩) hK hP hD hS hA hG hl [0, 1, 2, 3, 4, 5, 6, 7, 8, 9, 10, 11, 12, 13] 0 0 (by decide) rfl (ci := 6) rfl rfl rfl rfl rfl rfl rfl rfl rfl rfl (Nat.le_of_ble_eq_true rfl) dL_law_680 (Nat.le_of_ble_eq_true rfl) (Nat.le_of_ble_eq_true rfl) (fun H locs hP hD hS => ?_)
          refine lv_aload_n hx hb dL_law_683 rfl (lv_at hl 1 rfl) ?_
          obtain ⟨r493, ss494, bg495, pt496, st497, asd498, att499, dn500, td501, fo502, nb503, hc504, h⟩ := bd11_s h
          refine g_call1i (As := []) (rest := [.int r457]) (r := r493) (bs1 := [[(g0, .inr (6, [.ref (an 0), .ref (au 0), .ref (ap 0), .ref q0, .ref x0, .ref r0, .int ke3]))], [(q0, .inr (0, [.ref q1, .int lnn_459]))], wHa E q1 ba pm_461, wTx E x0 x1 x2 ch6 tl7 nu_463 le_465 nx_467, [(r0, .inr (3, [.ref (ar 0), .ref (au 0), .int cmd_469, .int pos_471, .int rea_473, .int cau_475]))], wHuT E an xn_477, wHuT E au xt_479, wHuT E ap xp17, wHuT E ar xr_481, wHuT E (ba 0) h0_483, wHuT E (ba 1) h1_485, wHuT E (ba 2) h2_487, wHuT E (ba 3) h3_489, wHuT E (ba 4) h4_491, wMo E m0 m1 m2 m3 m4 m5 m6 m7 ss494 bg495 kp26 ik27 pt496 st497 tx30 ln31 asd498 att499 dn500 td501 fo502 nb503]) ⟨hx, hb, hml, hown, hts⟩ (kX7_play E l m0 m1 m2 m3 m4 m5 m6 m7 ss24 bg25 kp26 ik27 pt28 st29 tx30 ln31 asd32 att33 dn34 td35 fo36 nb37 (r493, ss494, bg495, pt496, st497, asd498, att499, dn500, td501, fo502, nb503) hc504) (cwV 0 hts gL_law_X7_play rfl rfl rfl (by decide +kernel) ⟨Nat.le_of_ble_eq_true rfl, Nat.le_of_ble_eq_true rfl⟩) hK hP hD hS hA hG hl 14 0 (ci := 7) rfl rfl rfl rfl rfl rfl rfl rfl rfl (Nat.le_of_ble_eq_true rfl) dL_law_684 (Nat.le_of_ble_eq_true rfl) (Nat.le_of_ble_eq_true rfl) (fun H locs hP hD hS => ?_)
          refine lv_icmp_eq (tgt := 692) hx hb dL_law_687 (by decide) (fun hc505 => ?_) (fun hc505 => ?_)
          · replace h := g_it hc505 h
            obtain ⟨v506, e_v506⟩ : ∃ y : Int32, y = (v2 + (4 : Int32)) := ⟨_, rfl⟩
            replace h := jl_s e_v506 h
            refine lv_iinc (v := v506) (lv' := [(3, .int v506), (2, .ref m0), (1, .ref g0), (0, .ref b)]) hx hb dL_law_692 hl (k := 0) rfl (by rw [e_v506]; rfl) (by decide) rfl (fun ls hl => ?_)
            refine lv_goto (tgt := 18) hx hb dL_law_695 (by decide) ?_
            exact ih_rec1 v506 ke3 lnn_459 pm_461 ch6 tl7 nu_463 le_465 nx_467 cmd_469 pos_471 rea_473 cau_475 xn_477 xt_479 xp17 xr_481 h0_483 h1_485 h2_487 h3_489 h4_491 ss494 bg495 kp26 ik27 pt496 st497 tx30 ln31 asd498 att499 dn500 td501 fo502 nb503 _ _ _ hP hS (lv_sub hl [0, 1, 2, 3] rfl) h
          · replace h := g_if hc505 h
            refine lv_iconst (v := (0 : Int32)) hx hb dL_law_690 (by decide) ?_
            exact absurd ((Option.some.inj h).trans hres) (by decide)
        replace h := g_if hk61 h
        refine lv_tableOut (tgt := 692) hx hb dL_law_32 (by have q0 := lv_neT (a := 0) hk40 (by decide); have q1 := lv_neT (a := 1) hk41 (by decide); have q2 := lv_neT (a := 2) hk42 (by decide); have q3 := lv_neT (a := 3) hk43 (by decide); have q4 := lv_neT (a := 4) hk44 (by decide); have q5 := lv_neT (a := 5) hk45 (by decide); have q6 := lv_neT (a := 6) hk46 (by decide); have q7 := lv_neT (a := 7) hk47 (by decide); have q8 := lv_neT (a := 8) hk48 (by decide); have q9 := lv_neT (a := 9) hk49 (by decide); have q10 := lv_neT (a := 10) hk50 (by decide); have q11 := lv_neT (a := 11) hk51 (by decide); have q12 := lv_neT (a := 12) hk52 (by decide); have q13 := lv_neT (a := 13) hk53 (by decide); have q14 := lv_neT (a := 14) hk54 (by decide); have q15 := lv_neT (a := 15) hk55 (by decide); have q16 := lv_neT (a := 16) hk56 (by decide); have q17 := lv_neT (a := 17) hk57 (by decide); have q18 := lv_neT (a := 18) hk58 (by decide); have q19 := lv_neT (a := 19) hk59 (by decide); have q20 := lv_neT (a := 20) hk60 (by decide); have q21 := lv_neT (a := 21) hk61 (by decide); omega) (by decide) ?_
        obtain ⟨v507, e_v507⟩ : ∃ y : Int32, y = (v2 + (4 : Int32)) := ⟨_, rfl⟩
        replace h := jl_s e_v507 h
        refine lv_iinc (v := v507) (lv' := [(3, .int v507), (2, .ref m0), (1, .ref g0), (0, .ref b)]) hx hb dL_law_692 hl (k := 0) rfl (by rw [e_v507]; rfl) (by decide) rfl (fun ls hl => ?_)
        refine lv_goto (tgt := 18) hx hb dL_law_695 (by decide) ?_
        exact ih_rec1 v507 ke3 lnn4 pm5 ch6 tl7 nu8 le9 nx10 cmd11 pos12 rea13 cau14 xn15 xt16 xp17 xr18 h19 h20 h21 h22 h23 ss24 bg25 kp26 ik27 pt28 st29 tx30 ln31 asd32 att33 dn34 td35 fo36 nb37 _ _ _ hP hS (lv_sub hl [0, 1, 2, 3] rfl) h
  exact hL_rec1 gFU (0 : Int32) ke lnn pm ch tl nu le nx cmd pos rea cau xn xt xp xr h0 h1 h2 h3 h4 ss bg kp ik pt st tx ln asd att dn td fo nb _ _ _ hP hS (lv_sub hl [0, 1, 2, 3] rfl) h
