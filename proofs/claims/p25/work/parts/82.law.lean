set_option maxHeartbeats 40000000 in
set_option maxRecDepth 100000 in
theorem kL_law {p : Program} {e : Env} {s : State} {m : MethodId} {below : List Frame} {meth : Method} {c : Code} {l : Launch} {b L : Nat} {xs : Nat → Int32} (E : gE) (g0 q0 q1 x0 x1 x2 r0 : Nat) (an au ap ar aw : Nat → Nat) (ba : Nat → Nat → Nat) (ke : Int32) (lnn : Int32) (pm : Nat → Nat) (ch : Nat → Int32) (tl : Int32) (nu : Nat → Int32) (le : Int32) (nx : Int32) (cmd : Int32) (pos : Int32) (rea : Int32) (cau : Int32) (xn : HutS) (xt : HutS) (xp : HutS) (xr : HutS) (xw : HutS) (h0 : HutS) (h1 : HutS) (h2 : HutS) (h3 : HutS) (h4 : HutS) (C0 : lw_At p s m meth c b L xs) (hK : va_K E.1 vwCl (gT E) s) (hG : gSt E (fun q : Nat => s.heap.size ≤ q) s s.heap) {H : Heap} {locs : List Loc} {ls : Array Slot} (hP : va_P E.1 vwCl (List.flatten [[(g0, .inr (6, [.ref (an 0), .ref (au 0), .ref (ap 0), .ref q0, .ref x0, .ref r0, .int ke]))], [(q0, .inr (0, [.ref q1, .int lnn]))], wHa E q1 ba pm, wTx E x0 x1 x2 ch tl nu le nx, [(r0, .inr (3, [.ref (ar 0), .ref (aw 0), .int cmd, .int pos, .int rea, .int cau]))], wHuT E an xn, wHuT E au xt, wHuT E ap xp, wHuT E ar xr, wHuT E aw xw, wHuT E (ba 0) h0, wHuT E (ba 1) h1, wHuT E (ba 2) h2, wHuT E (ba 3) h3, wHuT E (ba 4) h4]) H) (hD : va_D (fun q : Nat => s.heap.size ≤ q) (List.flatten [[(g0, .inr (6, [.ref (an 0), .ref (au 0), .ref (ap 0), .ref q0, .ref x0, .ref r0, .int ke]))], [(q0, .inr (0, [.ref q1, .int lnn]))], wHa E q1 ba pm, wTx E x0 x1 x2 ch tl nu le nx, [(r0, .inr (3, [.ref (ar 0), .ref (aw 0), .int cmd, .int pos, .int rea, .int cau]))], wHuT E an xn, wHuT E au xt, wHuT E ap xp, wHuT E ar xr, wHuT E aw xw, wHuT E (ba 0) h0, wHuT E (ba 1) h1, wHuT E (ba 2) h2, wHuT E (ba 3) h3, wHuT E (ba 4) h4])) (hS : va_S (fun q : Nat => s.heap.size ≤ q) s.heap H locs) (hl : lv_has ls 11 [(1, .ref g0), (0, .ref b)]) (h : fL_law xs L ke lnn pm ch tl nu le nx cmd pos rea cau xn xt xp xr xw h0 h1 h2 h3 h4 = some 1) : W p l e room_1 s m #[Value.ref b] below meth c H locs 207 6258 (lw_Z below #[Value.ref b] s) (F0 m 8 ls []) := by
  obtain ⟨hx, hb, hr, hml, hown, hts0, hX, hbl, hlocks, hgv⟩ := C0
  have hts := fun w (h : w ∈ wsL_law) => hts0 w (wsL_law_in w h)
  have hown : s.vm.findClass RL = some m.cls := hown
  have hA : ∀ q : Nat, s.heap.size ≤ q → (fun q : Nat => s.heap.size ≤ q) q := fun _ h => h
  have hbA : ¬ (fun q : Nat => s.heap.size ≤ q) b := Nat.not_le.mpr hbl
  generalize hAe : (fun q : Nat => s.heap.size ≤ q) = A at hK hG hP hD hS hA hbA
  obtain ⟨res, hres⟩ : ∃ r : Int32, r = 1 := ⟨1, rfl⟩
  rw [← hres] at h
  unfold fL_law at h
  refine lv_aload_n hx hb dL_law_8 rfl (lv_at hl 0 rfl) ?_
  refine lv_iconst (v := (0 : Int32)) hx hb dL_law_9 (by decide) ?_
  obtain ⟨r1, xt_2, hc3, h⟩ := bd2_s h
  refine g_callSBi (As := [.ref g0, .int (0 : Int32)]) (rest := []) (r := r1) (bs1 := [[(g0, .inr (6, [.ref (an 0), .ref (au 0), .ref (ap 0), .ref q0, .ref x0, .ref r0, .int ke]))], [(q0, .inr (0, [.ref q1, .int lnn]))], wHa E q1 ba pm, wTx E x0 x1 x2 ch tl nu le nx, [(r0, .inr (3, [.ref (ar 0), .ref (aw 0), .int cmd, .int pos, .int rea, .int cau]))], wHuT E an xn, wHuT E au xt_2, wHuT E ap xp, wHuT E ar xr, wHuT E aw xw, wHuT E (ba 0) h0, wHuT E (ba 1) h1, wHuT E (ba 2) h2, wHuT E (ba 3) h3, wHuT E (ba 4) h4]) ⟨hx, hb, hml, hown, hts⟩ (kL_holds E l g0 q0 q1 x0 x1 x2 r0 an au ap ar aw ba ke lnn pm ch tl nu le nx cmd pos rea cau xn xt xp xr xw h0 h1 h2 h3 h4 (0 : Int32) (r1, xt_2) hc3) (va_cwS 2 hts gL_law_L_holds rfl rfl rfl (by decide +kernel) ⟨Nat.le_of_ble_eq_true rfl, Nat.le_of_ble_eq_true rfl⟩) hK hP hD hS hA hG hl [0, 1, 2, 3, 4, 5, 6, 7, 8, 9, 10, 11, 12, 13, 14] (by decide) rfl rfl rfl rfl rfl rfl rfl (Nat.le_of_ble_eq_true rfl) dL_law_10 (Nat.le_of_ble_eq_true rfl) (Nat.le_of_ble_eq_true rfl) (fun H locs hP hD hS => ?_)
  refine lv_if_eq (tgt := 74) hx hb dL_law_13 (by decide) (fun hc4 => ?_) (fun hc4 => ?_)
  · replace h := g_it hc4 h
    cases h
  · replace h := g_if hc4 h
    refine lv_aload_n hx hb dL_law_16 rfl (lv_at hl 0 rfl) ?_
    obtain ⟨r5, lnn_7, xn_9, hc10, h⟩ := bd3_s h
    refine g_callBi (As := []) (rest := []) (r := r5) (bs1 := [[(g0, .inr (6, [.ref (an 0), .ref (au 0), .ref (ap 0), .ref q0, .ref x0, .ref r0, .int ke]))], [(q0, .inr (0, [.ref q1, .int lnn_7]))], wHa E q1 ba pm, wTx E x0 x1 x2 ch tl nu le nx, [(r0, .inr (3, [.ref (ar 0), .ref (aw 0), .int cmd, .int pos, .int rea, .int cau]))], wHuT E an xn_9, wHuT E au xt_2, wHuT E ap xp, wHuT E ar xr, wHuT E aw xw, wHuT E (ba 0) h0, wHuT E (ba 1) h1, wHuT E (ba 2) h2, wHuT E (ba 3) h3, wHuT E (ba 4) h4]) ⟨hx, hb, hml, hown, hts⟩ (kX6_undo E l g0 q0 q1 x0 x1 x2 r0 an au ap ar aw ba ke lnn pm ch tl nu le nx cmd pos rea cau xn xt_2 xp xr xw h0 h1 h2 h3 h4 (r5, lnn_7, xn_9) hc10) (cwV 0 hts gL_law_X6_undo rfl rfl rfl (by decide +kernel) ⟨Nat.le_of_ble_eq_true rfl, Nat.le_of_ble_eq_true rfl⟩) hK hP hD hS hA hG hl [0, 1, 2, 3, 4, 5, 6, 7, 8, 9, 10, 11, 12, 13, 14] 0 0 (by decide) rfl (ci := 6) rfl rfl rfl rfl rfl rfl rfl rfl rfl rfl (Nat.le_of_ble_eq_true rfl) dL_law_17 (Nat.le_of_ble_eq_true rfl) (Nat.le_of_ble_eq_true rfl) (fun H locs hP hD hS => ?_)
    refine lv_bipush (v := (-2 : Int32)) hx hb dL_law_20 (by decide) ?_
    refine lv_icmp_ne (tgt := 74) hx hb dL_law_22 (by decide) (fun hc11 => ?_) (fun hc11 => ?_)
    · replace h := g_if hc11 h
      cases h
    · replace h := g_it hc11 h
      refine lv_aload_n hx hb dL_law_25 rfl (lv_at hl 0 rfl) ?_
      refine lv_iconst (v := (3 : Int32)) hx hb dL_law_26 (by decide) ?_
      refine lv_bipush (v := (9 : Int32)) hx hb dL_law_27 (by decide) ?_
      obtain ⟨r12, lnn_14, pm_16, xn_18, h0_20, h1_22, h2_24, h3_26, h4_28, hc29, h⟩ := bd9_s h
      refine g_callBi (As := [.int (3 : Int32), .int (9 : Int32)]) (rest := []) (r := r12) (bs1 := [[(g0, .inr (6, [.ref (an 0), .ref (au 0), .ref (ap 0), .ref q0, .ref x0, .ref r0, .int ke]))], [(q0, .inr (0, [.ref q1, .int lnn_14]))], wHa E q1 ba pm_16, wTx E x0 x1 x2 ch tl nu le nx, [(r0, .inr (3, [.ref (ar 0), .ref (aw 0), .int cmd, .int pos, .int rea, .int cau]))], wHuT E an xn_18, wHuT E au xt_2, wHuT E ap xp, wHuT E ar xr, wHuT E aw xw, wHuT E (ba 0) h0_20, wHuT E (ba 1) h1_22, wHuT E (ba 2) h2_24, wHuT E (ba 3) h3_26, wHuT E (ba 4) h4_28]) ⟨hx, hb, hml, hown, hts⟩ (kX6_set E l g0 q0 q1 x0 x1 x2 r0 an au ap ar aw ba ke lnn_7 pm ch tl nu le nx cmd pos rea cau xn_9 xt_2 xp xr xw h0 h1 h2 h3 h4 (3 : Int32) (9 : Int32) (r12, lnn_14, pm_16, xn_18, h0_20, h1_22, h2_24, h3_26, h4_28) hc29) (cwV 2 hts gL_law_X6_set rfl rfl rfl (by decide +kernel) ⟨Nat.le_of_ble_eq_true rfl, Nat.le_of_ble_eq_true rfl⟩) hK hP hD hS hA hG hl [0, 1, 2, 3, 4, 5, 6, 7, 8, 9, 10, 11, 12, 13, 14] 0 0 (by decide) rfl (ci := 6) rfl rfl rfl rfl rfl rfl rfl rfl rfl rfl (Nat.le_of_ble_eq_true rfl) dL_law_29 (Nat.le_of_ble_eq_true rfl) (Nat.le_of_ble_eq_true rfl) (fun H locs hP hD hS => ?_)
      refine lv_iconst (v := (1 : Int32)) hx hb dL_law_32 (by decide) ?_
      refine lv_icmp_ne (tgt := 74) hx hb dL_law_33 (by decide) (fun hc30 => ?_) (fun hc30 => ?_)
      · replace h := g_if hc30 h
        cases h
      · replace h := g_it hc30 h
        refine lv_aload_n hx hb dL_law_36 rfl (lv_at hl 0 rfl) ?_
        refine lv_iconst (v := (0 : Int32)) hx hb dL_law_37 (by decide) ?_
        refine lv_bipush (v := (90 : Int32)) hx hb dL_law_38 (by decide) ?_
        refine lv_bipush (v := (30 : Int32)) hx hb dL_law_40 (by decide) ?_
        obtain ⟨r31, lnn_33, pm_35, xn_37, h0_39, h1_41, h2_43, h3_45, h4_47, hc48, h⟩ := bd9_s h
        refine g_callBi (As := [.int (0 : Int32), .int (90 : Int32), .int (30 : Int32)]) (rest := []) (r := r31) (bs1 := [[(g0, .inr (6, [.ref (an 0), .ref (au 0), .ref (ap 0), .ref q0, .ref x0, .ref r0, .int ke]))], [(q0, .inr (0, [.ref q1, .int lnn_33]))], wHa E q1 ba pm_35, wTx E x0 x1 x2 ch tl nu le nx, [(r0, .inr (3, [.ref (ar 0), .ref (aw 0), .int cmd, .int pos, .int rea, .int cau]))], wHuT E an xn_37, wHuT E au xt_2, wHuT E ap xp, wHuT E ar xr, wHuT E aw xw, wHuT E (ba 0) h0_39, wHuT E (ba 1) h1_41, wHuT E (ba 2) h2_43, wHuT E (ba 3) h3_45, wHuT E (ba 4) h4_47]) ⟨hx, hb, hml, hown, hts⟩ (kX6_load E l g0 q0 q1 x0 x1 x2 r0 an au ap ar aw ba ke lnn_14 pm_16 ch tl nu le nx cmd pos rea cau xn_18 xt_2 xp xr xw h0_20 h1_22 h2_24 h3_26 h4_28 (0 : Int32) (90 : Int32) (30 : Int32) (r31, lnn_33, pm_35, xn_37, h0_39, h1_41, h2_43, h3_45, h4_47) hc48) (cwV 3 hts gL_law_X6_load rfl rfl rfl (by decide +kernel) ⟨Nat.le_of_ble_eq_true rfl, Nat.le_of_ble_eq_true rfl⟩) hK hP hD hS hA hG hl [0, 1, 2, 3, 4, 5, 6, 7, 8, 9, 10, 11, 12, 13, 14] 0 0 (by decide) rfl (ci := 6) rfl rfl rfl rfl rfl rfl rfl rfl rfl rfl (Nat.le_of_ble_eq_true rfl) dL_law_42 (Nat.le_of_ble_eq_true rfl) (Nat.le_of_ble_eq_true rfl) (fun H locs hP hD hS => ?_)
        refine lv_iconst (v := (1 : Int32)) hx hb dL_law_45 (by decide) ?_
        refine lv_icmp_ne (tgt := 74) hx hb dL_law_46 (by decide) (fun hc49 => ?_) (fun hc49 => ?_)
        · replace h := g_if hc49 h
          cases h
        · replace h := g_it hc49 h
          refine lv_aload_n hx hb dL_law_49 rfl (lv_at hl 0 rfl) ?_
          refine lv_iconst (v := (2 : Int32)) hx hb dL_law_50 (by decide) ?_
          refine lv_bipush (v := (40 : Int32)) hx hb dL_law_51 (by decide) ?_
          refine lv_bipush (v := (40 : Int32)) hx hb dL_law_53 (by decide) ?_
          obtain ⟨r50, lnn_52, pm_54, xn_56, h0_58, h1_60, h2_62, h3_64, h4_66, hc67, h⟩ := bd9_s h
          refine g_callBi (As := [.int (2 : Int32), .int (40 : Int32), .int (40 : Int32)]) (rest := []) (r := r50) (bs1 := [[(g0, .inr (6, [.ref (an 0), .ref (au 0), .ref (ap 0), .ref q0, .ref x0, .ref r0, .int ke]))], [(q0, .inr (0, [.ref q1, .int lnn_52]))], wHa E q1 ba pm_54, wTx E x0 x1 x2 ch tl nu le nx, [(r0, .inr (3, [.ref (ar 0), .ref (aw 0), .int cmd, .int pos, .int rea, .int cau]))], wHuT E an xn_56, wHuT E au xt_2, wHuT E ap xp, wHuT E ar xr, wHuT E aw xw, wHuT E (ba 0) h0_58, wHuT E (ba 1) h1_60, wHuT E (ba 2) h2_62, wHuT E (ba 3) h3_64, wHuT E (ba 4) h4_66]) ⟨hx, hb, hml, hown, hts⟩ (kX6_load E l g0 q0 q1 x0 x1 x2 r0 an au ap ar aw ba ke lnn_33 pm_35 ch tl nu le nx cmd pos rea cau xn_37 xt_2 xp xr xw h0_39 h1_41 h2_43 h3_45 h4_47 (2 : Int32) (40 : Int32) (40 : Int32) (r50, lnn_52, pm_54, xn_56, h0_58, h1_60, h2_62, h3_64, h4_66) hc67) (cwV 3 hts gL_law_X6_load rfl rfl rfl (by decide +kernel) ⟨Nat.le_of_ble_eq_true rfl, Nat.le_of_ble_eq_true rfl⟩) hK hP hD hS hA hG hl [0, 1, 2, 3, 4, 5, 6, 7, 8, 9, 10, 11, 12, 13, 14] 0 0 (by decide) rfl (ci := 6) rfl rfl rfl rfl rfl rfl rfl rfl rfl rfl (Nat.le_of_ble_eq_true rfl) dL_law_55 (Nat.le_of_ble_eq_true rfl) (Nat.le_of_ble_eq_true rfl) (fun H locs hP hD hS => ?_)
          refine lv_iconst (v := (2 : Int32)) hx hb dL_law_58 (by decide) ?_
          refine lv_icmp_ne (tgt := 74) hx hb dL_law_59 (by decide) (fun hc68 => ?_) (fun hc68 => ?_)
          · replace h := g_if hc68 h
            cases h
          · replace h := g_it hc68 h
            refine lv_aload_n hx hb dL_law_62 rfl (lv_at hl 0 rfl) ?_
            obtain ⟨r69, lnn_71, pm_73, xn_75, h0_77, h1_79, h2_81, h3_83, h4_85, hc86, h⟩ := bd9_s h
            refine g_callBi (As := []) (rest := []) (r := r69) (bs1 := [[(g0, .inr (6, [.ref (an 0), .ref (au 0), .ref (ap 0), .ref q0, .ref x0, .ref r0, .int ke]))], [(q0, .inr (0, [.ref q1, .int lnn_71]))], wHa E q1 ba pm_73, wTx E x0 x1 x2 ch tl nu le nx, [(r0, .inr (3, [.ref (ar 0), .ref (aw 0), .int cmd, .int pos, .int rea, .int cau]))], wHuT E an xn_75, wHuT E au xt_2, wHuT E ap xp, wHuT E ar xr, wHuT E aw xw, wHuT E (ba 0) h0_77, wHuT E (ba 1) h1_79, wHuT E (ba 2) h2_81, wHuT E (ba 3) h3_83, wHuT E (ba 4) h4_85]) ⟨hx, hb, hml, hown, hts⟩ (kX6_fly E l g0 q0 q1 x0 x1 x2 r0 an au ap ar aw ba ke lnn_52 pm_54 ch tl nu le nx cmd pos rea cau xn_56 xt_2 xp xr xw h0_58 h1_60 h2_62 h3_64 h4_66 (r69, lnn_71, pm_73, xn_75, h0_77, h1_79, h2_81, h3_83, h4_85) hc86) (cwV 0 hts gL_law_X6_fly rfl rfl rfl (by decide +kernel) ⟨Nat.le_of_ble_eq_true rfl, Nat.le_of_ble_eq_true rfl⟩) hK hP hD hS hA hG hl [0, 1, 2, 3, 4, 5, 6, 7, 8, 9, 10, 11, 12, 13, 14] 0 0 (by decide) rfl (ci := 6) rfl rfl rfl rfl rfl rfl rfl rfl rfl rfl (Nat.le_of_ble_eq_true rfl) dL_law_63 (Nat.le_of_ble_eq_true rfl) (Nat.le_of_ble_eq_true rfl) (fun H locs hP hD hS => ?_)
            refine lv_iconst (v := (2 : Int32)) hx hb dL_law_66 (by decide) ?_
            refine lv_icmp_ne (tgt := 74) hx hb dL_law_67 (by decide) (fun hc87 => ?_) (fun hc87 => ?_)
            · replace h := g_if hc87 h
              cases h
            · replace h := g_it hc87 h
              refine lv_iconst (v := (1 : Int32)) hx hb dL_law_70 (by decide) ?_
              refine lv_goto (tgt := 75) hx hb dL_law_71 (by decide) ?_
              refine lv_istore_n (lv' := [(2, .int (1 : Int32)), (1, .ref g0), (0, .ref b)]) hx hb dL_law_75 rfl hl (by decide) rfl (fun ls hl => ?_)
              refine lv_iconst (v := (0 : Int32)) hx hb dL_law_76 (by decide) ?_
              refine lv_istore_n (lv' := [(3, .int (0 : Int32)), (2, .int (1 : Int32)), (1, .ref g0), (0, .ref b)]) hx hb dL_law_77 rfl hl (by decide) rfl (fun ls hl => ?_)
              refine gl23_e h (fun S_rec88 hS_rec88 h => ?_)
              have hL_rec88 : ∀ (nF : Nat) (v89 : Int32) (ke90 : Int32) (lnn91 : Int32) (pm92 : Nat → Nat) (ch93 : Nat → Int32) (tl94 : Int32) (nu95 : Nat → Int32) (le96 : Int32) (nx97 : Int32) (cmd98 : Int32) (pos99 : Int32) (rea100 : Int32) (cau101 : Int32) (xn102 : HutS) (xt103 : HutS) (xp104 : HutS) (xr105 : HutS) (xw106 : HutS) (h107 : HutS) (h108 : HutS) (h109 : HutS) (h110 : HutS) (h111 : HutS) (H : Heap) (locs : List Loc) (ls : Array Slot), va_P E.1 vwCl (List.flatten [[(g0, .inr (6, [.ref (an 0), .ref (au 0), .ref (ap 0), .ref q0, .ref x0, .ref r0, .int ke90]))], [(q0, .inr (0, [.ref q1, .int lnn91]))], wHa E q1 ba pm92, wTx E x0 x1 x2 ch93 tl94 nu95 le96 nx97, [(r0, .inr (3, [.ref (ar 0), .ref (aw 0), .int cmd98, .int pos99, .int rea100, .int cau101]))], wHuT E an xn102, wHuT E au xt103, wHuT E ap xp104, wHuT E ar xr105, wHuT E aw xw106, wHuT E (ba 0) h107, wHuT E (ba 1) h108, wHuT E (ba 2) h109, wHuT E (ba 3) h110, wHuT E (ba 4) h111]) H → va_S A s.heap H locs → lv_has ls 11 [(3, .int v89), (2, .int (1 : Int32)), (1, .ref g0), (0, .ref b)] → gl23 S_rec88 nF v89 ke90 lnn91 pm92 ch93 tl94 nu95 le96 nx97 cmd98 pos99 rea100 cau101 xn102 xt103 xp104 xr105 xw106 h107 h108 h109 h110 h111 = some res → W p l e room_1 s m #[Value.ref b] below meth c H locs 207 6258 (lw_Z below #[Value.ref b] s) (F0 m 78 ls []) := by
                intro nF
                induction nF with
                | zero => intro v89 ke90 lnn91 pm92 ch93 tl94 nu95 le96 nx97 cmd98 pos99 rea100 cau101 xn102 xt103 xp104 xr105 xw106 h107 h108 h109 h110 h111 H locs ls hP hS hl h; exact gl23_z h
                | succ nF ih_rec88 =>
                  intro v89 ke90 lnn91 pm92 ch93 tl94 nu95 le96 nx97 cmd98 pos99 rea100 cau101 xn102 xt103 xp104 xr105 xw106 h107 h108 h109 h110 h111 H locs ls hP hS hl h
                  replace hD : va_D A (List.flatten [[(g0, .inr (6, [.ref (an 0), .ref (au 0), .ref (ap 0), .ref q0, .ref x0, .ref r0, .int ke90]))], [(q0, .inr (0, [.ref q1, .int lnn91]))], wHa E q1 ba pm92, wTx E x0 x1 x2 ch93 tl94 nu95 le96 nx97, [(r0, .inr (3, [.ref (ar 0), .ref (aw 0), .int cmd98, .int pos99, .int rea100, .int cau101]))], wHuT E an xn102, wHuT E au xt103, wHuT E ap xp104, wHuT E ar xr105, wHuT E aw xw106, wHuT E (ba 0) h107, wHuT E (ba 1) h108, wHuT E (ba 2) h109, wHuT E (ba 3) h110, wHuT E (ba 4) h111]) := gD_same hD rfl
                  replace h : S_rec88 (gl23 S_rec88 nF) v89 ke90 lnn91 pm92 ch93 tl94 nu95 le96 nx97 cmd98 pos99 rea100 cau101 xn102 xt103 xp104 xr105 xw106 h107 h108 h109 h110 h111 = some res := h
                  generalize gl23 S_rec88 nF = rec88 at h ih_rec88
                  subst hS_rec88
                  unfold sL_law_rec88 at h
                  refine lv_iload_n hx hb dL_law_78 rfl (lv_at hl 0 rfl) ?_
                  refine lv_bipush (v := (32 : Int32)) hx hb dL_law_79 (by decide) ?_
                  refine lv_icmp_ge (tgt := 300) hx hb dL_law_81 (by decide) (fun hc112 => ?_) (fun hc112 => ?_)
                  · replace h := g_it hc112 h
                    refine lv_iload_n hx hb dL_law_300 rfl (lv_at hl 1 rfl) ?_
                    refine va_forget (fun q hq => by have h9 := hS.2.2 q hq; rw [← hAe] at h9; exact h9) ?_
                    refine W.widen (k := 600000) (n := 7302250) (Nat.le_of_ble_eq_true rfl) (Nat.le_of_ble_eq_true rfl) ?_
                    exact lw_ret hx hb hr hlocks dL_law_301
                  · replace h := g_if hc112 h
                    refine lv_iload_n hx hb dL_law_84 rfl (lv_at hl 1 rfl) ?_
                    refine lv_if_eq (tgt := 300) hx hb dL_law_85 (by decide) (fun hc => by first | exact absurd hc (by decide) | exact absurd (by decide) hc) (fun _ => ?_)
                    refine lv_aload_n hx hb dL_law_88 rfl (lv_at hl 3 rfl) ?_
                    refine lv_iconst (v := (2 : Int32)) hx hb dL_law_89 (by decide) ?_
                    refine lv_iload_n hx hb dL_law_90 rfl (lv_at hl 0 rfl) ?_
                    refine lv_imul hx hb dL_law_91 ?_
                    obtain ⟨r113, hc114, h⟩ := bd1_s h
                    refine g_callX (As := [.ref b, .int ((2 : Int32) * v89)]) (rest := []) (r := r113) ⟨hx, hb, hml, hown, hts⟩ (kL_lot l b L xs ((2 : Int32) * v89) r113 hc114) (va_cwS 2 hts gL_law_L_lot rfl rfl rfl (by decide +kernel) ⟨Nat.le_of_ble_eq_true rfl, Nat.le_of_ble_eq_true rfl⟩) hP hD hS hA hX hbl hbA hl rfl rfl (Nat.le_of_ble_eq_true rfl) dL_law_92 (Nat.le_of_ble_eq_true rfl) (Nat.le_of_ble_eq_true rfl) (fun H locs hP hD hS => ?_)
                    refine lv_istore (lv' := [(4, .int r113), (3, .int v89), (2, .int (1 : Int32)), (1, .ref g0), (0, .ref b)]) hx hb dL_law_95 hl (by decide) rfl (fun ls hl => ?_)
                    refine lv_aload_n hx hb dL_law_97 rfl (lv_at hl 4 rfl) ?_
                    refine lv_iconst (v := (2 : Int32)) hx hb dL_law_98 (by decide) ?_
                    refine lv_iload_n hx hb dL_law_99 rfl (lv_at hl 1 rfl) ?_
                    refine lv_imul hx hb dL_law_100 ?_
                    refine lv_iconst (v := (1 : Int32)) hx hb dL_law_101 (by decide) ?_
                    refine lv_iadd hx hb dL_law_102 ?_
                    obtain ⟨r115, hc116, h⟩ := bd1_s h
                    refine g_callX (As := [.ref b, .int (((2 : Int32) * v89) + (1 : Int32))]) (rest := []) (r := r115) ⟨hx, hb, hml, hown, hts⟩ (kL_lot l b L xs (((2 : Int32) * v89) + (1 : Int32)) r115 hc116) (va_cwS 2 hts gL_law_L_lot rfl rfl rfl (by decide +kernel) ⟨Nat.le_of_ble_eq_true rfl, Nat.le_of_ble_eq_true rfl⟩) hP hD hS hA hX hbl hbA hl rfl rfl (Nat.le_of_ble_eq_true rfl) dL_law_103 (Nat.le_of_ble_eq_true rfl) (Nat.le_of_ble_eq_true rfl) (fun H locs hP hD hS => ?_)
                    refine lv_istore (lv' := [(5, .int r115), (4, .int r113), (3, .int v89), (2, .int (1 : Int32)), (1, .ref g0), (0, .ref b)]) hx hb dL_law_106 hl (by decide) rfl (fun ls hl => ?_)
                    refine lv_aload_n hx hb dL_law_108 rfl (lv_at hl 4 rfl) ?_
                    obtain ⟨r117, hc118, h⟩ := bd1_s h
                    refine g_callSBl (As := [.ref g0]) (rest := []) (r := r117) (bs1 := [[(g0, .inr (6, [.ref (an 0), .ref (au 0), .ref (ap 0), .ref q0, .ref x0, .ref r0, .int ke90]))], [(q0, .inr (0, [.ref q1, .int lnn91]))], wHa E q1 ba pm92, wTx E x0 x1 x2 ch93 tl94 nu95 le96 nx97, [(r0, .inr (3, [.ref (ar 0), .ref (aw 0), .int cmd98, .int pos99, .int rea100, .int cau101]))], wHuT E an xn102, wHuT E au xt103, wHuT E ap xp104, wHuT E ar xr105, wHuT E aw xw106, wHuT E (ba 0) h107, wHuT E (ba 1) h108, wHuT E (ba 2) h109, wHuT E (ba 3) h110, wHuT E (ba 4) h111]) ⟨hx, hb, hml, hown, hts⟩ (kL_digest E l g0 q0 q1 x0 x1 x2 r0 an au ap ar aw ba ke90 lnn91 pm92 ch93 tl94 nu95 le96 nx97 cmd98 pos99 rea100 cau101 xn102 xt103 xp104 xr105 xw106 h107 h108 h109 h110 h111 r117 hc118) (va_cwS 1 hts gL_law_L_digest rfl rfl rfl (by decide +kernel) ⟨Nat.le_of_ble_eq_true rfl, Nat.le_of_ble_eq_true rfl⟩) hK hP hD hS hA hG hl [0, 1, 2, 3, 4, 5, 6, 7, 8, 9, 10, 11, 12, 13, 14] (by decide) rfl rfl rfl rfl rfl rfl rfl (Nat.le_of_ble_eq_true rfl) dL_law_109 (Nat.le_of_ble_eq_true rfl) (Nat.le_of_ble_eq_true rfl) (fun H locs hP hD hS => ?_)
                    refine lv_lstore (lv' := [(6, .long r117), (5, .int r115), (4, .int r113), (3, .int v89), (2, .int (1 : Int32)), (1, .ref g0), (0, .ref b)]) hx hb dL_law_112 hl (by decide) rfl (fun ls hl => ?_)
                    refine lv_aload_n hx hb dL_law_114 rfl (lv_at hl 5 rfl) ?_
                    refine lv_bipush (v := (12 : Int32)) hx hb dL_law_115 (by decide) ?_
                    obtain ⟨r119, hc120, h⟩ := bd1_s h
                    refine g_callBi (As := [.int (12 : Int32)]) (rest := []) (r := r119) (bs1 := [[(g0, .inr (6, [.ref (an 0), .ref (au 0), .ref (ap 0), .ref q0, .ref x0, .ref r0, .int ke90]))], [(q0, .inr (0, [.ref q1, .int lnn91]))], wHa E q1 ba pm92, wTx E x0 x1 x2 ch93 tl94 nu95 le96 nx97, [(r0, .inr (3, [.ref (ar 0), .ref (aw 0), .int cmd98, .int pos99, .int rea100, .int cau101]))], wHuT E an xn102, wHuT E au xt103, wHuT E ap xp104, wHuT E ar xr105, wHuT E aw xw106, wHuT E (ba 0) h107, wHuT E (ba 1) h108, wHuT E (ba 2) h109, wHuT E (ba 3) h110, wHuT E (ba 4) h111]) ⟨hx, hb, hml, hown, hts⟩ (kX6_count E l g0 q0 q1 x0 x1 x2 r0 an au ap ar aw ba ke90 lnn91 pm92 ch93 tl94 nu95 le96 nx97 cmd98 pos99 rea100 cau101 xn102 xt103 xp104 xr105 xw106 h107 h108 h109 h110 h111 (12 : Int32) r119 hc120) (cwV 1 hts gL_law_X6_count rfl rfl rfl (by decide +kernel) ⟨Nat.le_of_ble_eq_true rfl, Nat.le_of_ble_eq_true rfl⟩) hK hP hD hS hA hG hl [0, 1, 2, 3, 4, 5, 6, 7, 8, 9, 10, 11, 12, 13, 14] 0 0 (by decide) rfl (ci := 6) rfl rfl rfl rfl rfl rfl rfl rfl rfl rfl (Nat.le_of_ble_eq_true rfl) dL_law_117 (Nat.le_of_ble_eq_true rfl) (Nat.le_of_ble_eq_true rfl) (fun H locs hP hD hS => ?_)
                    refine lv_istore (lv' := [(8, .int r119), (6, .long r117), (5, .int r115), (4, .int r113), (3, .int v89), (2, .int (1 : Int32)), (1, .ref g0), (0, .ref b)]) hx hb dL_law_120 hl (by decide) rfl (fun ls hl => ?_)
                    refine lv_aload_n hx hb dL_law_122 rfl (lv_at hl 6 rfl) ?_
                    refine lv_iload hx hb dL_law_123 (lv_at hl 3 rfl) ?_
                    refine lv_iload hx hb dL_law_125 (lv_at hl 2 rfl) ?_
                    obtain ⟨r121, ke_122, lnn_123, pm_124, ch_125, tl_126, nu_127, le_128, nx_129, cmd_130, pos_131, rea_132, cau_133, xn_134, xt_135, xp_136, xr_137, xw_138, h0_139, h1_140, h2_141, h3_142, h4_143, hc144, h⟩ := bd23_s h
                    refine g_callSBi (As := [.ref g0, .int r113, .int r115]) (rest := []) (r := r121) (bs1 := [[(g0, .inr (6, [.ref (an 0), .ref (au 0), .ref (ap 0), .ref q0, .ref x0, .ref r0, .int ke_122]))], [(q0, .inr (0, [.ref q1, .int lnn_123]))], wHa E q1 ba pm_124, wTx E x0 x1 x2 ch_125 tl_126 nu_127 le_128 nx_129, [(r0, .inr (3, [.ref (ar 0), .ref (aw 0), .int cmd_130, .int pos_131, .int rea_132, .int cau_133]))], wHuT E an xn_134, wHuT E au xt_135, wHuT E ap xp_136, wHuT E ar xr_137, wHuT E aw xw_138, wHuT E (ba 0) h0_139, wHuT E (ba 1) h1_140, wHuT E (ba 2) h2_141, wHuT E (ba 3) h3_142, wHuT E (ba 4) h4_143]) ⟨hx, hb, hml, hown, hts⟩ (kL_acts E l g0 q0 q1 x0 x1 x2 r0 an au ap ar aw ba ke90 lnn91 pm92 ch93 tl94 nu95 le96 nx97 cmd98 pos99 rea100 cau101 xn102 xt103 xp104 xr105 xw106 h107 h108 h109 h110 h111 r113 r115 (r121, ke_122, lnn_123, pm_124, ch_125, tl_126, nu_127, le_128, nx_129, cmd_130, pos_131, rea_132, cau_133, xn_134, xt_135, xp_136, xr_137, xw_138, h0_139, h1_140, h2_141, h3_142, h4_143) hc144) (va_cwS 3 hts gL_law_L_acts rfl rfl rfl (by decide +kernel) ⟨Nat.le_of_ble_eq_true rfl, Nat.le_of_ble_eq_true rfl⟩) hK hP hD hS hA hG hl [0, 1, 2, 3, 4, 5, 6, 7, 8, 9, 10, 11, 12, 13, 14] (by decide) rfl rfl rfl rfl rfl rfl rfl (Nat.le_of_ble_eq_true rfl) dL_law_127 (Nat.le_of_ble_eq_true rfl) (Nat.le_of_ble_eq_true rfl) (fun H locs hP hD hS => ?_)
                    refine lv_if_eq (tgt := 146) hx hb dL_law_130 (by decide) (fun hc145 => ?_) (fun hc145 => ?_)
                    · replace h := g_it hc145 h
                      cases h
                    · replace h := g_if hc145 h
                      refine lv_aload_n hx hb dL_law_133 rfl (lv_at hl 6 rfl) ?_
                      refine lv_iload hx hb dL_law_134 (lv_at hl 2 rfl) ?_
                      obtain ⟨r146, xt_147, hc148, h⟩ := bd2_s h
                      refine g_callSBi (As := [.ref g0, .int r115]) (rest := []) (r := r146) (bs1 := [[(g0, .inr (6, [.ref (an 0), .ref (au 0), .ref (ap 0), .ref q0, .ref x0, .ref r0, .int ke_122]))], [(q0, .inr (0, [.ref q1, .int lnn_123]))], wHa E q1 ba pm_124, wTx E x0 x1 x2 ch_125 tl_126 nu_127 le_128 nx_129, [(r0, .inr (3, [.ref (ar 0), .ref (aw 0), .int cmd_130, .int pos_131, .int rea_132, .int cau_133]))], wHuT E an xn_134, wHuT E au xt_147, wHuT E ap xp_136, wHuT E ar xr_137, wHuT E aw xw_138, wHuT E (ba 0) h0_139, wHuT E (ba 1) h1_140, wHuT E (ba 2) h2_141, wHuT E (ba 3) h3_142, wHuT E (ba 4) h4_143]) ⟨hx, hb, hml, hown, hts⟩ (kL_holds E l g0 q0 q1 x0 x1 x2 r0 an au ap ar aw ba ke_122 lnn_123 pm_124 ch_125 tl_126 nu_127 le_128 nx_129 cmd_130 pos_131 rea_132 cau_133 xn_134 xt_135 xp_136 xr_137 xw_138 h0_139 h1_140 h2_141 h3_142 h4_143 r115 (r146, xt_147) hc148) (va_cwS 2 hts gL_law_L_holds rfl rfl rfl (by decide +kernel) ⟨Nat.le_of_ble_eq_true rfl, Nat.le_of_ble_eq_true rfl⟩) hK hP hD hS hA hG hl [0, 1, 2, 3, 4, 5, 6, 7, 8, 9, 10, 11, 12, 13, 14] (by decide) rfl rfl rfl rfl rfl rfl rfl (Nat.le_of_ble_eq_true rfl) dL_law_136 (Nat.le_of_ble_eq_true rfl) (Nat.le_of_ble_eq_true rfl) (fun H locs hP hD hS => ?_)
                      refine lv_if_eq (tgt := 146) hx hb dL_law_139 (by decide) (fun hc149 => ?_) (fun hc149 => ?_)
                      · replace h := g_it hc149 h
                        cases h
                      · replace h := g_if hc149 h
                        refine lv_iconst (v := (1 : Int32)) hx hb dL_law_142 (by decide) ?_
                        refine lv_goto (tgt := 147) hx hb dL_law_143 (by decide) ?_
                        refine lv_istore_n (lv' := [(2, .int (1 : Int32)), (8, .int r119), (6, .long r117), (5, .int r115), (4, .int r113), (3, .int v89), (1, .ref g0), (0, .ref b)]) hx hb dL_law_147 rfl hl (by decide) rfl (fun ls hl => ?_)
                        refine lv_aload_n hx hb dL_law_148 rfl (lv_at hl 6 rfl) ?_
                        refine lv_bipush (v := (12 : Int32)) hx hb dL_law_149 (by decide) ?_
                        obtain ⟨r150, hc151, h⟩ := bd1_s h
                        refine g_callBi (As := [.int (12 : Int32)]) (rest := []) (r := r150) (bs1 := [[(g0, .inr (6, [.ref (an 0), .ref (au 0), .ref (ap 0), .ref q0, .ref x0, .ref r0, .int ke_122]))], [(q0, .inr (0, [.ref q1, .int lnn_123]))], wHa E q1 ba pm_124, wTx E x0 x1 x2 ch_125 tl_126 nu_127 le_128 nx_129, [(r0, .inr (3, [.ref (ar 0), .ref (aw 0), .int cmd_130, .int pos_131, .int rea_132, .int cau_133]))], wHuT E an xn_134, wHuT E au xt_147, wHuT E ap xp_136, wHuT E ar xr_137, wHuT E aw xw_138, wHuT E (ba 0) h0_139, wHuT E (ba 1) h1_140, wHuT E (ba 2) h2_141, wHuT E (ba 3) h3_142, wHuT E (ba 4) h4_143]) ⟨hx, hb, hml, hown, hts⟩ (kX6_count E l g0 q0 q1 x0 x1 x2 r0 an au ap ar aw ba ke_122 lnn_123 pm_124 ch_125 tl_126 nu_127 le_128 nx_129 cmd_130 pos_131 rea_132 cau_133 xn_134 xt_147 xp_136 xr_137 xw_138 h0_139 h1_140 h2_141 h3_142 h4_143 (12 : Int32) r150 hc151) (cwV 1 hts gL_law_X6_count rfl rfl rfl (by decide +kernel) ⟨Nat.le_of_ble_eq_true rfl, Nat.le_of_ble_eq_true rfl⟩) hK hP hD hS hA hG hl [0, 1, 2, 3, 4, 5, 6, 7, 8, 9, 10, 11, 12, 13, 14] 0 0 (by decide) rfl (ci := 6) rfl rfl rfl rfl rfl rfl rfl rfl rfl rfl (Nat.le_of_ble_eq_true rfl) dL_law_151 (Nat.le_of_ble_eq_true rfl) (Nat.le_of_ble_eq_true rfl) (fun H locs hP hD hS => ?_)
                        refine lv_istore (lv' := [(9, .int r150), (2, .int (1 : Int32)), (8, .int r119), (6, .long r117), (5, .int r115), (4, .int r113), (3, .int v89), (1, .ref g0), (0, .ref b)]) hx hb dL_law_154 hl (by decide) rfl (fun ls hl => ?_)
                        refine lv_iload_n hx hb dL_law_156 rfl (lv_at hl 1 rfl) ?_
                        refine lv_if_eq (tgt := 196) hx hb dL_law_157 (by decide) (fun hc => by first | exact absurd hc (by decide) | exact absurd (by decide) hc) (fun _ => ?_)
                        refine lv_iload hx hb dL_law_160 (lv_at hl 0 rfl) ?_
                        refine lv_iload hx hb dL_law_162 (lv_at hl 2 rfl) ?_
                        refine mrg_e h (fun J154 hK_J154 h => ?_)
                        have hJ_J154 : ∀ (_ : Unit) (H : Heap) (locs : List Loc) (ls : Array Slot), va_P E.1 vwCl (List.flatten [[(g0, .inr (6, [.ref (an 0), .ref (au 0), .ref (ap 0), .ref q0, .ref x0, .ref r0, .int ke_122]))], [(q0, .inr (0, [.ref q1, .int lnn_123]))], wHa E q1 ba pm_124, wTx E x0 x1 x2 ch_125 tl_126 nu_127 le_128 nx_129, [(r0, .inr (3, [.ref (ar 0), .ref (aw 0), .int cmd_130, .int pos_131, .int rea_132, .int cau_133]))], wHuT E an xn_134, wHuT E au xt_147, wHuT E ap xp_136, wHuT E ar xr_137, wHuT E aw xw_138, wHuT E (ba 0) h0_139, wHuT E (ba 1) h1_140, wHuT E (ba 2) h2_141, wHuT E (ba 3) h3_142, wHuT E (ba 4) h4_143]) H → va_S A s.heap H locs → lv_has ls 11 [(9, .int r150), (8, .int r119), (6, .long r117), (5, .int r115), (3, .int v89), (1, .ref g0), (0, .ref b)] → J154 () = some res → W p l e room_1 s m #[Value.ref b] below meth c H locs 207 6258 (lw_Z below #[Value.ref b] s) (F0 m 192 ls []) := by
                          intro _ H locs ls hP hS hl h
                          replace hD : va_D A (List.flatten [[(g0, .inr (6, [.ref (an 0), .ref (au 0), .ref (ap 0), .ref q0, .ref x0, .ref r0, .int ke_122]))], [(q0, .inr (0, [.ref q1, .int lnn_123]))], wHa E q1 ba pm_124, wTx E x0 x1 x2 ch_125 tl_126 nu_127 le_128 nx_129, [(r0, .inr (3, [.ref (ar 0), .ref (aw 0), .int cmd_130, .int pos_131, .int rea_132, .int cau_133]))], wHuT E an xn_134, wHuT E au xt_147, wHuT E ap xp_136, wHuT E ar xr_137, wHuT E aw xw_138, wHuT E (ba 0) h0_139, wHuT E (ba 1) h1_140, wHuT E (ba 2) h2_141, wHuT E (ba 3) h3_142, wHuT E (ba 4) h4_143]) := gD_same hD rfl
                          subst hK_J154
                          refine lv_iconst (v := (1 : Int32)) hx hb dL_law_192 (by decide) ?_
                          refine lv_goto (tgt := 197) hx hb dL_law_193 (by decide) ?_
                          refine lv_istore_n (lv' := [(2, .int (1 : Int32)), (9, .int r150), (8, .int r119), (6, .long r117), (5, .int r115), (3, .int v89), (1, .ref g0), (0, .ref b)]) hx hb dL_law_197 rfl hl (by decide) rfl (fun ls hl => ?_)
                          refine lv_iload_n hx hb dL_law_198 rfl (lv_at hl 0 rfl) ?_
                          refine lv_if_eq (tgt := 248) hx hb dL_law_199 (by decide) (fun hc => by first | exact absurd hc (by decide) | exact absurd (by decide) hc) (fun _ => ?_)
                          refine lv_iload hx hb dL_law_202 (lv_at hl 1 rfl) ?_
                          refine lv_iload hx hb dL_law_204 (lv_at hl 2 rfl) ?_
                          refine lv_iconst (v := (1 : Int32)) hx hb dL_law_206 (by decide) ?_
                          refine lv_iadd hx hb dL_law_207 ?_
                          refine lv_icmp_ne (tgt := 248) hx hb dL_law_208 (by decide) (fun hc160 => ?_) (fun hc160 => ?_)
                          · replace h := g_if hc160 h
                            refine lv_iload_n hx hb dL_law_248 rfl (lv_at hl 0 rfl) ?_
                            refine lv_if_eq (tgt := 294) hx hb dL_law_249 (by decide) (fun hc => by first | exact absurd hc (by decide) | exact absurd (by decide) hc) (fun _ => ?_)
                            refine lv_iload_n hx hb dL_law_252 rfl (lv_at hl 5 rfl) ?_
                            refine lv_iconst (v := (5 : Int32)) hx hb dL_law_253 (by decide) ?_
                            refine lv_irem hx hb dL_law_254 (by decide) ?_
                            refine lv_iconst (v := (4 : Int32)) hx hb dL_law_255 (by decide) ?_
                            refine lv_icmp_ne (tgt := 294) hx hb dL_law_256 (by decide) (fun hc161 => ?_) (fun hc161 => ?_)
                            · replace h := g_if hc161 h
                              obtain ⟨v162, e_v162⟩ : ∃ y : Int32, y = (v89 + (1 : Int32)) := ⟨_, rfl⟩
                              replace h := jl_s e_v162 h
                              refine lv_iinc (v := v162) (lv' := [(3, .int v162), (2, .int (1 : Int32)), (9, .int r150), (8, .int r119), (6, .long r117), (5, .int r115), (1, .ref g0), (0, .ref b)]) hx hb dL_law_294 hl (k := 5) rfl (by rw [e_v162]; rfl) (by decide) rfl (fun ls hl => ?_)
                              refine lv_goto (tgt := 78) hx hb dL_law_297 (by decide) ?_
                              exact ih_rec88 v162 ke_122 lnn_123 pm_124 ch_125 tl_126 nu_127 le_128 nx_129 cmd_130 pos_131 rea_132 cau_133 xn_134 xt_147 xp_136 xr_137 xw_138 h0_139 h1_140 h2_141 h3_142 h4_143 _ _ _ hP hS (lv_sub hl [0, 1, 6, 7] rfl) h
                            · replace h := g_it hc161 h
                              refine lv_aload_n hx hb dL_law_259 rfl (lv_at hl 6 rfl) ?_
                              refine lv_bipush (v := (12 : Int32)) hx hb dL_law_260 (by decide) ?_
                              obtain ⟨r163, hc164, h⟩ := bd1_s h
                              refine g_callBi (As := [.int (12 : Int32)]) (rest := []) (r := r163) (bs1 := [[(g0, .inr (6, [.ref (an 0), .ref (au 0), .ref (ap 0), .ref q0, .ref x0, .ref r0, .int ke_122]))], [(q0, .inr (0, [.ref q1, .int lnn_123]))], wHa E q1 ba pm_124, wTx E x0 x1 x2 ch_125 tl_126 nu_127 le_128 nx_129, [(r0, .inr (3, [.ref (ar 0), .ref (aw 0), .int cmd_130, .int pos_131, .int rea_132, .int cau_133]))], wHuT E an xn_134, wHuT E au xt_147, wHuT E ap xp_136, wHuT E ar xr_137, wHuT E aw xw_138, wHuT E (ba 0) h0_139, wHuT E (ba 1) h1_140, wHuT E (ba 2) h2_141, wHuT E (ba 3) h3_142, wHuT E (ba 4) h4_143]) ⟨hx, hb, hml, hown, hts⟩ (kX6_count E l g0 q0 q1 x0 x1 x2 r0 an au ap ar aw ba ke_122 lnn_123 pm_124 ch_125 tl_126 nu_127 le_128 nx_129 cmd_130 pos_131 rea_132 cau_133 xn_134 xt_147 xp_136 xr_137 xw_138 h0_139 h1_140 h2_141 h3_142 h4_143 (12 : Int32) r163 hc164) (cwV 1 hts gL_law_X6_count rfl rfl rfl (by decide +kernel) ⟨Nat.le_of_ble_eq_true rfl, Nat.le_of_ble_eq_true rfl⟩) hK hP hD hS hA hG hl [0, 1, 2, 3, 4, 5, 6, 7, 8, 9, 10, 11, 12, 13, 14] 0 0 (by decide) rfl (ci := 6) rfl rfl rfl rfl rfl rfl rfl rfl rfl rfl (Nat.le_of_ble_eq_true rfl) dL_law_262 (Nat.le_of_ble_eq_true rfl) (Nat.le_of_ble_eq_true rfl) (fun H locs hP hD hS => ?_)
                              refine lv_istore (lv' := [(10, .int r163), (2, .int (1 : Int32)), (9, .int r150), (8, .int r119), (6, .long r117), (5, .int r115), (3, .int v89), (1, .ref g0), (0, .ref b)]) hx hb dL_law_265 hl (by decide) rfl (fun ls hl => ?_)
                              refine lv_aload_n hx hb dL_law_267 rfl (lv_at hl 7 rfl) ?_
                              obtain ⟨r165, lnn_167, xn_169, hc170, h⟩ := bd3_s h
                              refine g_callBi (As := []) (rest := []) (r := r165) (bs1 := [[(g0, .inr (6, [.ref (an 0), .ref (au 0), .ref (ap 0), .ref q0, .ref x0, .ref r0, .int ke_122]))], [(q0, .inr (0, [.ref q1, .int lnn_167]))], wHa E q1 ba pm_124, wTx E x0 x1 x2 ch_125 tl_126 nu_127 le_128 nx_129, [(r0, .inr (3, [.ref (ar 0), .ref (aw 0), .int cmd_130, .int pos_131, .int rea_132, .int cau_133]))], wHuT E an xn_169, wHuT E au xt_147, wHuT E ap xp_136, wHuT E ar xr_137, wHuT E aw xw_138, wHuT E (ba 0) h0_139, wHuT E (ba 1) h1_140, wHuT E (ba 2) h2_141, wHuT E (ba 3) h3_142, wHuT E (ba 4) h4_143]) ⟨hx, hb, hml, hown, hts⟩ (kX6_undo E l g0 q0 q1 x0 x1 x2 r0 an au ap ar aw ba ke_122 lnn_123 pm_124 ch_125 tl_126 nu_127 le_128 nx_129 cmd_130 pos_131 rea_132 cau_133 xn_134 xt_147 xp_136 xr_137 xw_138 h0_139 h1_140 h2_141 h3_142 h4_143 (r165, lnn_167, xn_169) hc170) (cwV 0 hts gL_law_X6_undo rfl rfl rfl (by decide +kernel) ⟨Nat.le_of_ble_eq_true rfl, Nat.le_of_ble_eq_true rfl⟩) hK hP hD hS hA hG hl [0, 1, 2, 3, 4, 5, 6, 7, 8, 9, 10, 11, 12, 13, 14] 0 0 (by decide) rfl (ci := 6) rfl rfl rfl rfl rfl rfl rfl rfl rfl rfl (Nat.le_of_ble_eq_true rfl) dL_law_268 (Nat.le_of_ble_eq_true rfl) (Nat.le_of_ble_eq_true rfl) (fun H locs hP hD hS => ?_)
                              refine lv_iload hx hb dL_law_271 (lv_at hl 0 rfl) ?_
                              refine mrg_e h (fun J172 hK_J172 h => ?_)
                              have hJ_J172 : ∀ (v173 : Int32) (H : Heap) (locs : List Loc) (ls : Array Slot), va_P E.1 vwCl (List.flatten [[(g0, .inr (6, [.ref (an 0), .ref (au 0), .ref (ap 0), .ref q0, .ref x0, .ref r0, .int ke_122]))], [(q0, .inr (0, [.ref q1, .int lnn_167]))], wHa E q1 ba pm_124, wTx E x0 x1 x2 ch_125 tl_126 nu_127 le_128 nx_129, [(r0, .inr (3, [.ref (ar 0), .ref (aw 0), .int cmd_130, .int pos_131, .int rea_132, .int cau_133]))], wHuT E an xn_169, wHuT E au xt_147, wHuT E ap xp_136, wHuT E ar xr_137, wHuT E aw xw_138, wHuT E (ba 0) h0_139, wHuT E (ba 1) h1_140, wHuT E (ba 2) h2_141, wHuT E (ba 3) h3_142, wHuT E (ba 4) h4_143]) H → va_S A s.heap H locs → lv_has ls 11 [(3, .int v89), (1, .ref g0), (0, .ref b)] → J172 v173 = some res → W p l e room_1 s m #[Value.ref b] below meth c H locs 207 6258 (lw_Z below #[Value.ref b] s) (F0 m 285 ls [.int v173, .int r165]) := by
                                intro v173 H locs ls hP hS hl h
                                replace hD : va_D A (List.flatten [[(g0, .inr (6, [.ref (an 0), .ref (au 0), .ref (ap 0), .ref q0, .ref x0, .ref r0, .int ke_122]))], [(q0, .inr (0, [.ref q1, .int lnn_167]))], wHa E q1 ba pm_124, wTx E x0 x1 x2 ch_125 tl_126 nu_127 le_128 nx_129, [(r0, .inr (3, [.ref (ar 0), .ref (aw 0), .int cmd_130, .int pos_131, .int rea_132, .int cau_133]))], wHuT E an xn_169, wHuT E au xt_147, wHuT E ap xp_136, wHuT E ar xr_137, wHuT E aw xw_138, wHuT E (ba 0) h0_139, wHuT E (ba 1) h1_140, wHuT E (ba 2) h2_141, wHuT E (ba 3) h3_142, wHuT E (ba 4) h4_143]) := gD_same hD rfl
                                subst hK_J172
                                refine lv_icmp_ne (tgt := 292) hx hb dL_law_285 (by decide) (fun hc174 => ?_) (fun hc174 => ?_)
                                · replace h := g_if hc174 h
                                  cases h
                                · replace h := g_it hc174 h
                                  refine lv_iconst (v := (1 : Int32)) hx hb dL_law_288 (by decide) ?_
                                  refine lv_goto (tgt := 293) hx hb dL_law_289 (by decide) ?_
                                  refine lv_istore_n (lv' := [(2, .int (1 : Int32)), (3, .int v89), (1, .ref g0), (0, .ref b)]) hx hb dL_law_293 rfl hl (by decide) rfl (fun ls hl => ?_)
                                  obtain ⟨v175, e_v175⟩ : ∃ y : Int32, y = (v89 + (1 : Int32)) := ⟨_, rfl⟩
                                  replace h := jl_s e_v175 h
                                  refine lv_iinc (v := v175) (lv' := [(3, .int v175), (2, .int (1 : Int32)), (1, .ref g0), (0, .ref b)]) hx hb dL_law_294 hl (k := 1) rfl (by rw [e_v175]; rfl) (by decide) rfl (fun ls hl => ?_)
                                  refine lv_goto (tgt := 78) hx hb dL_law_297 (by decide) ?_
                                  exact ih_rec88 v175 ke_122 lnn_167 pm_124 ch_125 tl_126 nu_127 le_128 nx_129 cmd_130 pos_131 rea_132 cau_133 xn_169 xt_147 xp_136 xr_137 xw_138 h0_139 h1_140 h2_141 h3_142 h4_143 _ _ _ hP hS (lv_sub hl [0, 1, 2, 3] rfl) h
                              refine lv_if_ne (tgt := 281) hx hb dL_law_273 (by decide) (fun hc171 => ?_) (fun hc171 => ?_)
                              · replace h := g_if hc171 h
                                refine lv_iload hx hb dL_law_281 (lv_at hl 0 rfl) ?_
                                refine lv_iconst (v := (1 : Int32)) hx hb dL_law_283 (by decide) ?_
                                refine lv_isub hx hb dL_law_284 ?_
                                exact hJ_J172 (r163 - (1 : Int32)) _ _ _ hP hS (lv_sub hl [6, 7, 8] rfl) h
                              · replace h := g_it hc171 h
                                refine lv_bipush (v := (-2 : Int32)) hx hb dL_law_276 (by decide) ?_
                                refine lv_goto (tgt := 285) hx hb dL_law_278 (by decide) ?_
                                exact hJ_J172 (-2 : Int32) _ _ _ hP hS (lv_sub hl [6, 7, 8] rfl) h
                          · replace h := g_it hc160 h
                            refine lv_iload hx hb dL_law_211 (lv_at hl 4 rfl) ?_
                            refine lv_bipush (v := (8 : Int32)) hx hb dL_law_213 (by decide) ?_
                            refine lv_ishr hx hb dL_law_215 ?_
                            refine lv_iconst (v := (3 : Int32)) hx hb dL_law_216 (by decide) ?_
                            obtain ⟨r176, hc177, h⟩ := bd1_s h
                            refine g_callSBi (As := [.int (r115 >>> ((8 : Int32) &&& 31)), .int (3 : Int32)]) (rest := []) (r := r176) (bs1 := [[(g0, .inr (6, [.ref (an 0), .ref (au 0), .ref (ap 0), .ref q0, .ref x0, .ref r0, .int ke_122]))], [(q0, .inr (0, [.ref q1, .int lnn_123]))], wHa E q1 ba pm_124, wTx E x0 x1 x2 ch_125 tl_126 nu_127 le_128 nx_129, [(r0, .inr (3, [.ref (ar 0), .ref (aw 0), .int cmd_130, .int pos_131, .int rea_132, .int cau_133]))], wHuT E an xn_134, wHuT E au xt_147, wHuT E ap xp_136, wHuT E ar xr_137, wHuT E aw xw_138, wHuT E (ba 0) h0_139, wHuT E (ba 1) h1_140, wHuT E (ba 2) h2_141, wHuT E (ba 3) h3_142, wHuT E (ba 4) h4_143]) ⟨hx, hb, hml, hown, hts⟩ (kL_low E l (r115 >>> ((8 : Int32) &&& 31)) (3 : Int32) r176 hc177) (va_cwS 2 hts gL_law_L_low rfl rfl rfl (by decide +kernel) ⟨Nat.le_of_ble_eq_true rfl, Nat.le_of_ble_eq_true rfl⟩) hK hP hD hS hA hG hl [] (by decide) rfl rfl rfl rfl rfl rfl rfl (Nat.le_of_ble_eq_true rfl) dL_law_217 (Nat.le_of_ble_eq_true rfl) (Nat.le_of_ble_eq_true rfl) (fun H locs hP hD hS => ?_)
                            refine lv_if_ne (tgt := 248) hx hb dL_law_220 (by decide) (fun hc178 => ?_) (fun hc178 => ?_)
                            · replace h := g_if hc178 h
                              refine lv_iload_n hx hb dL_law_248 rfl (lv_at hl 0 rfl) ?_
                              refine lv_if_eq (tgt := 294) hx hb dL_law_249 (by decide) (fun hc => by first | exact absurd hc (by decide) | exact absurd (by decide) hc) (fun _ => ?_)
                              refine lv_iload_n hx hb dL_law_252 rfl (lv_at hl 5 rfl) ?_
                              refine lv_iconst (v := (5 : Int32)) hx hb dL_law_253 (by decide) ?_
                              refine lv_irem hx hb dL_law_254 (by decide) ?_
                              refine lv_iconst (v := (4 : Int32)) hx hb dL_law_255 (by decide) ?_
                              refine lv_icmp_ne (tgt := 294) hx hb dL_law_256 (by decide) (fun hc179 => ?_) (fun hc179 => ?_)
                              · replace h := g_if hc179 h
                                obtain ⟨v180, e_v180⟩ : ∃ y : Int32, y = (v89 + (1 : Int32)) := ⟨_, rfl⟩
                                replace h := jl_s e_v180 h
                                refine lv_iinc (v := v180) (lv' := [(3, .int v180), (2, .int (1 : Int32)), (9, .int r150), (8, .int r119), (6, .long r117), (5, .int r115), (1, .ref g0), (0, .ref b)]) hx hb dL_law_294 hl (k := 5) rfl (by rw [e_v180]; rfl) (by decide) rfl (fun ls hl => ?_)
                                refine lv_goto (tgt := 78) hx hb dL_law_297 (by decide) ?_
                                exact ih_rec88 v180 ke_122 lnn_123 pm_124 ch_125 tl_126 nu_127 le_128 nx_129 cmd_130 pos_131 rea_132 cau_133 xn_134 xt_147 xp_136 xr_137 xw_138 h0_139 h1_140 h2_141 h3_142 h4_143 _ _ _ hP hS (lv_sub hl [0, 1, 6, 7] rfl) h
                              · replace h := g_it hc179 h
                                refine lv_aload_n hx hb dL_law_259 rfl (lv_at hl 6 rfl) ?_
                                refine lv_bipush (v := (12 : Int32)) hx hb dL_law_260 (by decide) ?_
                                obtain ⟨r181, hc182, h⟩ := bd1_s h
                                refine g_callBi (As := [.int (12 : Int32)]) (rest := []) (r := r181) (bs1 := [[(g0, .inr (6, [.ref (an 0), .ref (au 0), .ref (ap 0), .ref q0, .ref x0, .ref r0, .int ke_122]))], [(q0, .inr (0, [.ref q1, .int lnn_123]))], wHa E q1 ba pm_124, wTx E x0 x1 x2 ch_125 tl_126 nu_127 le_128 nx_129, [(r0, .inr (3, [.ref (ar 0), .ref (aw 0), .int cmd_130, .int pos_131, .int rea_132, .int cau_133]))], wHuT E an xn_134, wHuT E au xt_147, wHuT E ap xp_136, wHuT E ar xr_137, wHuT E aw xw_138, wHuT E (ba 0) h0_139, wHuT E (ba 1) h1_140, wHuT E (ba 2) h2_141, wHuT E (ba 3) h3_142, wHuT E (ba 4) h4_143]) ⟨hx, hb, hml, hown, hts⟩ (kX6_count E l g0 q0 q1 x0 x1 x2 r0 an au ap ar aw ba ke_122 lnn_123 pm_124 ch_125 tl_126 nu_127 le_128 nx_129 cmd_130 pos_131 rea_132 cau_133 xn_134 xt_147 xp_136 xr_137 xw_138 h0_139 h1_140 h2_141 h3_142 h4_143 (12 : Int32) r181 hc182) (cwV 1 hts gL_law_X6_count rfl rfl rfl (by decide +kernel) ⟨Nat.le_of_ble_eq_true rfl, Nat.le_of_ble_eq_true rfl⟩) hK hP hD hS hA hG hl [0, 1, 2, 3, 4, 5, 6, 7, 8, 9, 10, 11, 12, 13, 14] 0 0 (by decide) rfl (ci := 6) rfl rfl rfl rfl rfl rfl rfl rfl rfl rfl (Nat.le_of_ble_eq_true rfl) dL_law_262 (Nat.le_of_ble_eq_true rfl) (Nat.le_of_ble_eq_true rfl) (fun H locs hP hD hS => ?_)
                                refine lv_istore (lv' := [(10, .int r181), (2, .int (1 : Int32)), (9, .int r150), (8, .int r119), (6, .long r117), (5, .int r115), (3, .int v89), (1, .ref g0), (0, .ref b)]) hx hb dL_law_265 hl (by decide) rfl (fun ls hl => ?_)
                                refine lv_aload_n hx hb dL_law_267 rfl (lv_at hl 7 rfl) ?_
                                obtain ⟨r183, lnn_185, xn_187, hc188, h⟩ := bd3_s h
                                refine g_callBi (As := []) (rest := []) (r := r183) (bs1 := [[(g0, .inr (6, [.ref (an 0), .ref (au 0), .ref (ap 0), .ref q0, .ref x0, .ref r0, .int ke_122]))], [(q0, .inr (0, [.ref q1, .int lnn_185]))], wHa E q1 ba pm_124, wTx E x0 x1 x2 ch_125 tl_126 nu_127 le_128 nx_129, [(r0, .inr (3, [.ref (ar 0), .ref (aw 0), .int cmd_130, .int pos_131, .int rea_132, .int cau_133]))], wHuT E an xn_187, wHuT E au xt_147, wHuT E ap xp_136, wHuT E ar xr_137, wHuT E aw xw_138, wHuT E (ba 0) h0_139, wHuT E (ba 1) h1_140, wHuT E (ba 2) h2_141, wHuT E (ba 3) h3_142, wHuT E (ba 4) h4_143]) ⟨hx, hb, hml, hown, hts⟩ (kX6_undo E l g0 q0 q1 x0 x1 x2 r0 an au ap ar aw ba ke_122 lnn_123 pm_124 ch_125 tl_126 nu_127 le_128 nx_129 cmd_130 pos_131 rea_132 cau_133 xn_134 xt_147 xp_136 xr_137 xw_138 h0_139 h1_140 h2_141 h3_142 h4_143 (r183, lnn_185, xn_187) hc188) (cwV 0 hts gL_law_X6_undo rfl rfl rfl (by decide +kernel) ⟨Nat.le_of_ble_eq_true rfl, Nat.le_of_ble_eq_true rfl⟩) hK hP hD hS hA hG hl [0, 1, 2, 3, 4, 5, 6, 7, 8, 9, 10, 11, 12, 13, 14] 0 0 (by decide) rfl (ci := 6) rfl rfl rfl rfl rfl rfl rfl rfl rfl rfl (Nat.le_of_ble_eq_true rfl) dL_law_268 (Nat.le_of_ble_eq_true rfl) (Nat.le_of_ble_eq_true rfl) (fun H locs hP hD hS => ?_)
                                refine lv_iload hx hb dL_law_271 (lv_at hl 0 rfl) ?_
                                refine mrg_e h (fun J190 hK_J190 h => ?_)
                                have hJ_J190 : ∀ (v191 : Int32) (H : Heap) (locs : List Loc) (ls : Array Slot), va_P E.1 vwCl (List.flatten [[(g0, .inr (6, [.ref (an 0), .ref (au 0), .ref (ap 0), .ref q0, .ref x0, .ref r0, .int ke_122]))], [(q0, .inr (0, [.ref q1, .int lnn_185]))], wHa E q1 ba pm_124, wTx E x0 x1 x2 ch_125 tl_126 nu_127 le_128 nx_129, [(r0, .inr (3, [.ref (ar 0), .ref (aw 0), .int cmd_130, .int pos_131, .int rea_132, .int cau_133]))], wHuT E an xn_187, wHuT E au xt_147, wHuT E ap xp_136, wHuT E ar xr_137, wHuT E aw xw_138, wHuT E (ba 0) h0_139, wHuT E (ba 1) h1_140, wHuT E (ba 2) h2_141, wHuT E (ba 3) h3_142, wHuT E (ba 4) h4_143]) H → va_S A s.heap H locs → lv_has ls 11 [(3, .int v89), (1, .ref g0), (0, .ref b)] → J190 v191 = some res → W p l e room_1 s m #[Value.ref b] below meth c H locs 207 6258 (lw_Z below #[Value.ref b] s) (F0 m 285 ls [.int v191, .int r183]) := by
                                  intro v191 H locs ls hP hS hl h
                                  replace hD : va_D A (List.flatten [[(g0, .inr (6, [.ref (an 0), .ref (au 0), .ref (ap 0), .ref q0, .ref x0, .ref r0, .int ke_122]))], [(q0, .inr (0, [.ref q1, .int lnn_185]))], wHa E q1 ba pm_124, wTx E x0 x1 x2 ch_125 tl_126 nu_127 le_128 nx_129, [(r0, .inr (3, [.ref (ar 0), .ref (aw 0), .int cmd_130, .int pos_131, .int rea_132, .int cau_133]))], wHuT E an xn_187, wHuT E au xt_147, wHuT E ap xp_136, wHuT E ar xr_137, wHuT E aw xw_138, wHuT E (ba 0) h0_139, wHuT E (ba 1) h1_140, wHuT E (ba 2) h2_141, wHuT E (ba 3) h3_142, wHuT E (ba 4) h4_143]) := gD_same hD rfl
                                  subst hK_J190
                                  refine lv_icmp_ne (tgt := 292) hx hb dL_law_285 (by decide) (fun hc192 => ?_) (fun hc192 => ?_)
                                  · replace h := g_if hc192 h
                                    cases h
                                  · replace h := g_it hc192 h
                                    refine lv_iconst (v := (1 : Int32)) hx hb dL_law_288 (by decide) ?_
                                    refine lv_goto (tgt := 293) hx hb dL_law_289 (by decide) ?_
                                    refine lv_istore_n (lv' := [(2, .int (1 : Int32)), (3, .int v89), (1, .ref g0), (0, .ref b)]) hx hb dL_law_293 rfl hl (by decide) rfl (fun ls hl => ?_)
                                    obtain ⟨v193, e_v193⟩ : ∃ y : Int32, y = (v89 + (1 : Int32)) := ⟨_, rfl⟩
                                    replace h := jl_s e_v193 h
                                    refine lv_iinc (v := v193) (lv' := [(3, .int v193), (2, .int (1 : Int32)), (1, .ref g0), (0, .ref b)]) hx hb dL_law_294 hl (k := 1) rfl (by rw [e_v193]; rfl) (by decide) rfl (fun ls hl => ?_)
                                    refine lv_goto (tgt := 78) hx hb dL_law_297 (by decide) ?_
                                    exact ih_rec88 v193 ke_122 lnn_185 pm_124 ch_125 tl_126 nu_127 le_128 nx_129 cmd_130 pos_131 rea_132 cau_133 xn_187 xt_147 xp_136 xr_137 xw_138 h0_139 h1_140 h2_141 h3_142 h4_143 _ _ _ hP hS (lv_sub hl [0, 1, 2, 3] rfl) h
                                refine lv_if_ne (tgt := 281) hx hb dL_law_273 (by decide) (fun hc189 => ?_) (fun hc189 => ?_)
                                · replace h := g_if hc189 h
                                  refine lv_iload hx hb dL_law_281 (lv_at hl 0 rfl) ?_
                                  refine lv_iconst (v := (1 : Int32)) hx hb dL_law_283 (by decide) ?_
                                  refine lv_isub hx hb dL_law_284 ?_
                                  exact hJ_J190 (r181 - (1 : Int32)) _ _ _ hP hS (lv_sub hl [6, 7, 8] rfl) h
                                · replace h := g_it hc189 h
                                  refine lv_bipush (v := (-2 : Int32)) hx hb dL_law_276 (by decide) ?_
                                  refine lv_goto (tgt := 285) hx hb dL_law_278 (by decide) ?_
                                  exact hJ_J190 (-2 : Int32) _ _ _ hP hS (lv_sub hl [6, 7, 8] rfl) h
                            · replace h := g_it hc178 h
                              refine lv_aload_n hx hb dL_law_223 rfl (lv_at hl 6 rfl) ?_
                              obtain ⟨r194, lnn_196, xn_198, hc199, h⟩ := bd3_s h
                              refine g_callBi (As := []) (rest := []) (r := r194) (bs1 := [[(g0, .inr (6, [.ref (an 0), .ref (au 0), .ref (ap 0), .ref q0, .ref x0, .ref r0, .int ke_122]))], [(q0, .inr (0, [.ref q1, .int lnn_196]))], wHa E q1 ba pm_124, wTx E x0 x1 x2 ch_125 tl_126 nu_127 le_128 nx_129, [(r0, .inr (3, [.ref (ar 0), .ref (aw 0), .int cmd_130, .int pos_131, .int rea_132, .int cau_133]))], wHuT E an xn_198, wHuT E au xt_147, wHuT E ap xp_136, wHuT E ar xr_137, wHuT E aw xw_138, wHuT E (ba 0) h0_139, wHuT E (ba 1) h1_140, wHuT E (ba 2) h2_141, wHuT E (ba 3) h3_142, wHuT E (ba 4) h4_143]) ⟨hx, hb, hml, hown, hts⟩ (kX6_undo E l g0 q0 q1 x0 x1 x2 r0 an au ap ar aw ba ke_122 lnn_123 pm_124 ch_125 tl_126 nu_127 le_128 nx_129 cmd_130 pos_131 rea_132 cau_133 xn_134 xt_147 xp_136 xr_137 xw_138 h0_139 h1_140 h2_141 h3_142 h4_143 (r194, lnn_196, xn_198) hc199) (cwV 0 hts gL_law_X6_undo rfl rfl rfl (by decide +kernel) ⟨Nat.le_of_ble_eq_true rfl, Nat.le_of_ble_eq_true rfl⟩) hK hP hD hS hA hG hl [0, 1, 2, 3, 4, 5, 6, 7, 8, 9, 10, 11, 12, 13, 14] 0 0 (by decide) rfl (ci := 6) rfl rfl rfl rfl rfl rfl rfl rfl rfl rfl (Nat.le_of_ble_eq_true rfl) dL_law_224 (Nat.le_of_ble_eq_true rfl) (Nat.le_of_ble_eq_true rfl) (fun H locs hP hD hS => ?_)
                              refine lv_iload hx hb dL_law_227 (lv_at hl 2 rfl) ?_
                              refine lv_icmp_ne (tgt := 246) hx hb dL_law_229 (by decide) (fun hc200 => ?_) (fun hc200 => ?_)
                              · replace h := g_if hc200 h
                                cases h
                              · replace h := g_it hc200 h
                                refine lv_aload_n hx hb dL_law_232 rfl (lv_at hl 6 rfl) ?_
                                obtain ⟨r201, hc202, h⟩ := bd1_s h
                                refine g_callSBl (As := [.ref g0]) (rest := []) (r := r201) (bs1 := [[(g0, .inr (6, [.ref (an 0), .ref (au 0), .ref (ap 0), .ref q0, .ref x0, .ref r0, .int ke_122]))], [(q0, .inr (0, [.ref q1, .int lnn_196]))], wHa E q1 ba pm_124, wTx E x0 x1 x2 ch_125 tl_126 nu_127 le_128 nx_129, [(r0, .inr (3, [.ref (ar 0), .ref (aw 0), .int cmd_130, .int pos_131, .int rea_132, .int cau_133]))], wHuT E an xn_198, wHuT E au xt_147, wHuT E ap xp_136, wHuT E ar xr_137, wHuT E aw xw_138, wHuT E (ba 0) h0_139, wHuT E (ba 1) h1_140, wHuT E (ba 2) h2_141, wHuT E (ba 3) h3_142, wHuT E (ba 4) h4_143]) ⟨hx, hb, hml, hown, hts⟩ (kL_digest E l g0 q0 q1 x0 x1 x2 r0 an au ap ar aw ba ke_122 lnn_196 pm_124 ch_125 tl_126 nu_127 le_128 nx_129 cmd_130 pos_131 rea_132 cau_133 xn_198 xt_147 xp_136 xr_137 xw_138 h0_139 h1_140 h2_141 h3_142 h4_143 r201 hc202) (va_cwS 1 hts gL_law_L_digest rfl rfl rfl (by decide +kernel) ⟨Nat.le_of_ble_eq_true rfl, Nat.le_of_ble_eq_true rfl⟩) hK hP hD hS hA hG hl [0, 1, 2, 3, 4, 5, 6, 7, 8, 9, 10, 11, 12, 13, 14] (by decide) rfl rfl rfl rfl rfl rfl rfl (Nat.le_of_ble_eq_true rfl) dL_law_233 (Nat.le_of_ble_eq_true rfl) (Nat.le_of_ble_eq_true rfl) (fun H locs hP hD hS => ?_)
                                refine lv_lload hx hb dL_law_236 (lv_at hl 3 rfl) ?_
                                refine W.lcmp hx hb dL_law_238 ?_
                                refine lv_if_ne (tgt := 246) hx hb dL_law_239 (by decide) (fun hc203 => ?_) (fun hc203 => ?_)
                                · replace h := g_if hc203 h
                                  cases h
                                · replace h := g_it hc203 h
                                  refine lv_iconst (v := (1 : Int32)) hx hb dL_law_242 (by decide) ?_
                                  refine lv_goto (tgt := 247) hx hb dL_law_243 (by decide) ?_
                                  refine lv_istore_n (lv' := [(2, .int (1 : Int32)), (9, .int r150), (8, .int r119), (6, .long r117), (5, .int r115), (3, .int v89), (1, .ref g0), (0, .ref b)]) hx hb dL_law_247 rfl hl (by decide) rfl (fun ls hl => ?_)
                                  refine lv_iload_n hx hb dL_law_248 rfl (lv_at hl 0 rfl) ?_
                                  refine lv_if_eq (tgt := 294) hx hb dL_law_249 (by decide) (fun hc => by first | exact absurd hc (by decide) | exact absurd (by decide) hc) (fun _ => ?_)
                                  refine lv_iload_n hx hb dL_law_252 rfl (lv_at hl 5 rfl) ?_
                                  refine lv_iconst (v := (5 : Int32)) hx hb dL_law_253 (by decide) ?_
                                  refine lv_irem hx hb dL_law_254 (by decide) ?_
                                  refine lv_iconst (v := (4 : Int32)) hx hb dL_law_255 (by decide) ?_
                                  refine lv_icmp_ne (tgt := 294) hx hb dL_law_256 (by decide) (fun hc204 => ?_) (fun hc204 => ?_)
                                  · replace h := g_if hc204 h
                                    obtain ⟨v205, e_v205⟩ : ∃ y : Int32, y = (v89 + (1 : Int32)) := ⟨_, rfl⟩
                                    replace h := jl_s e_v205 h
                                    refine lv_iinc (v := v205) (lv' := [(3, .int v205), (2, .int (1 : Int32)), (9, .int r150), (8, .int r119), (6, .long r117), (5, .int r115), (1, .ref g0), (0, .ref b)]) hx hb dL_law_294 hl (k := 5) rfl (by rw [e_v205]; rfl) (by decide) rfl (fun ls hl => ?_)
                                    refine lv_goto (tgt := 78) hx hb dL_law_297 (by decide) ?_
                                    exact ih_rec88 v205 ke_122 lnn_196 pm_124 ch_125 tl_126 nu_127 le_128 nx_129 cmd_130 pos_131 rea_132 cau_133 xn_198 xt_147 xp_136 xr_137 xw_138 h0_139 h1_140 h2_141 h3_142 h4_143 _ _ _ hP hS (lv_sub hl [0, 1, 6, 7] rfl) h
                                  · replace h := g_it hc204 h
                                    refine lv_aload_n hx hb dL_law_259 rfl (lv_at hl 6 rfl) ?_
                                    refine lv_bipush (v := (12 : Int32)) hx hb dL_law_260 (by decide) ?_
                                    obtain ⟨r206, hc207, h⟩ := bd1_s h
                                    refine g_callBi (As := [.int (12 : Int32)]) (rest := []) (r := r206) (bs1 := [[(g0, .inr (6, [.ref (an 0), .ref (au 0), .ref (ap 0), .ref q0, .ref x0, .ref r0, .int ke_122]))], [(q0, .inr (0, [.ref q1, .int lnn_196]))], wHa E q1 ba pm_124, wTx E x0 x1 x2 ch_125 tl_126 nu_127 le_128 nx_129, [(r0, .inr (3, [.ref (ar 0), .ref (aw 0), .int cmd_130, .int pos_131, .int rea_132, .int cau_133]))], wHuT E an xn_198, wHuT E au xt_147, wHuT E ap xp_136, wHuT E ar xr_137, wHuT E aw xw_138, wHuT E (ba 0) h0_139, wHuT E (ba 1) h1_140, wHuT E (ba 2) h2_141, wHuT E (ba 3) h3_142, wHuT E (ba 4) h4_143]) ⟨hx, hb, hml, hown, hts⟩ (kX6_count E l g0 q0 q1 x0 x1 x2 r0 an au ap ar aw ba ke_122 lnn_196 pm_124 ch_125 tl_126 nu_127 le_128 nx_129 cmd_130 pos_131 rea_132 cau_133 xn_198 xt_147 xp_136 xr_137 xw_138 h0_139 h1_140 h2_141 h3_142 h4_143 (12 : Int32) r206 hc207) (cwV 1 hts gL_law_X6_count rfl rfl rfl (by decide +kernel) ⟨Nat.le_of_ble_eq_true rfl, Nat.le_of_ble_eq_true rfl⟩) hK hP hD hS hA hG hl [0, 1, 2, 3, 4, 5, 6, 7, 8, 9, 10, 11, 12, 13, 14] 0 0 (by decide) rfl (ci := 6) rfl rfl rfl rfl rfl rfl rfl rfl rfl rfl (Nat.le_of_ble_eq_true rfl) dL_law_262 (Nat.le_of_ble_eq_true rfl) (Nat.le_of_ble_eq_true rfl) (fun H locs hP hD hS => ?_)
                                    refine lv_istore (lv' := [(10, .int r206), (2, .int (1 : Int32)), (9, .int r150), (8, .int r119), (6, .long r117), (5, .int r115), (3, .int v89), (1, .ref g0), (0, .ref b)]) hx hb dL_law_265 hl (by decide) rfl (fun ls hl => ?_)
                                    refine lv_aload_n hx hb dL_law_267 rfl (lv_at hl 7 rfl) ?_
                                    obtain ⟨r208, lnn_210, xn_212, hc213, h⟩ := bd3_s h
                                    refine g_callBi (As := []) (rest := []) (r := r208) (bs1 := [[(g0, .inr (6, [.ref (an 0), .ref (au 0), .ref (ap 0), .ref q0, .ref x0, .ref r0, .int ke_122]))], [(q0, .inr (0, [.ref q1, .int lnn_210]))], wHa E q1 ba pm_124, wTx E x0 x1 x2 ch_125 tl_126 nu_127 le_128 nx_129, [(r0, .inr (3, [.ref (ar 0), .ref (aw 0), .int cmd_130, .int pos_131, .int rea_132, .int cau_133]))], wHuT E an xn_212, wHuT E au xt_147, wHuT E ap xp_136, wHuT E ar xr_137, wHuT E aw xw_138, wHuT E (ba 0) h0_139, wHuT E (ba 1) h1_140, wHuT E (ba 2) h2_141, wHuT E (ba 3) h3_142, wHuT E (ba 4) h4_143]) ⟨hx, hb, hml, hown, hts⟩ (kX6_undo E l g0 q0 q1 x0 x1 x2 r0 an au ap ar aw ba ke_122 lnn_196 pm_124 ch_125 tl_126 nu_127 le_128 nx_129 cmd_130 pos_131 rea_132 cau_133 xn_198 xt_147 xp_136 xr_137 xw_138 h0_139 h1_140 h2_141 h3_142 h4_143 (r208, lnn_210, xn_212) hc213) (cwV 0 hts gL_law_X6_undo rfl rfl rfl (by decide +kernel) ⟨Nat.le_of_ble_eq_true rfl, Nat.le_of_ble_eq_true rfl⟩) hK hP hD hS hA hG hl [0, 1, 2, 3, 4, 5, 6, 7, 8, 9, 10, 11, 12, 13, 14] 0 0 (by decide) rfl (ci := 6) rfl rfl rfl rfl rfl rfl rfl rfl rfl rfl (Nat.le_of_ble_eq_true rfl) dL_law_268 (Nat.le_of_ble_eq_true rfl) (Nat.le_of_ble_eq_true rfl) (fun H locs hP hD hS => ?_)
                                    refine lv_iload hx hb dL_law_271 (lv_at hl 0 rfl) ?_
                                    refine mrg_e h (fun J215 hK_J215 h => ?_)
                                    have hJ_J215 : ∀ (v216 : Int32) (H : Heap) (locs : List Loc) (ls : Array Slot), va_P E.1 vwCl (List.flatten [[(g0, .inr (6, [.ref (an 0), .ref (au 0), .ref (ap 0), .ref q0, .ref x0, .ref r0, .int ke_122]))], [(q0, .inr (0, [.ref q1, .int lnn_210]))], wHa E q1 ba pm_124, wTx E x0 x1 x2 ch_125 tl_126 nu_127 le_128 nx_129, [(r0, .inr (3, [.ref (ar 0), .ref (aw 0), .int cmd_130, .int pos_131, .int rea_132, .int cau_133]))], wHuT E an xn_212, wHuT E au xt_147, wHuT E ap xp_136, wHuT E ar xr_137, wHuT E aw xw_138, wHuT E (ba 0) h0_139, wHuT E (ba 1) h1_140, wHuT E (ba 2) h2_141, wHuT E (ba 3) h3_142, wHuT E (ba 4) h4_143]) H → va_S A s.heap H locs → lv_has ls 11 [(3, .int v89), (1, .ref g0), (0, .ref b)] → J215 v216 = some res → W p l e room_1 s m #[Value.ref b] below meth c H locs 207 6258 (lw_Z below #[Value.ref b] s) (F0 m 285 ls [.int v216, .int r208]) := by
                                      intro v216 H locs ls hP hS hl h
                                      replace hD : va_D A (List.flatten [[(g0, .inr (6, [.ref (an 0), .ref (au 0), .ref (ap 0), .ref q0, .ref x0, .ref r0, .int ke_122]))], [(q0, .inr (0, [.ref q1, .int lnn_210]))], wHa E q1 ba pm_124, wTx E x0 x1 x2 ch_125 tl_126 nu_127 le_128 nx_129, [(r0, .inr (3, [.ref (ar 0), .ref (aw 0), .int cmd_130, .int pos_131, .int rea_132, .int cau_133]))], wHuT E an xn_212, wHuT E au xt_147, wHuT E ap xp_136, wHuT E ar xr_137, wHuT E aw xw_138, wHuT E (ba 0) h0_139, wHuT E (ba 1) h1_140, wHuT E (ba 2) h2_141, wHuT E (ba 3) h3_142, wHuT E (ba 4) h4_143]) := gD_same hD rfl
                                      subst hK_J215
                                      refine lv_icmp_ne (tgt := 292) hx hb dL_law_285 (by decide) (fun hc217 => ?_) (fun hc217 => ?_)
                                      · replace h := g_if hc217 h
                                        cases h
                                      · replace h := g_it hc217 h
                                        refine lv_iconst (v := (1 : Int32)) hx hb dL_law_288 (by decide) ?_
                                        refine lv_goto (tgt := 293) hx hb dL_law_289 (by decide) ?_
                                        refine lv_istore_n (lv' := [(2, .int (1 : Int32)), (3, .int v89), (1, .ref g0), (0, .ref b)]) hx hb dL_law_293 rfl hl (by decide) rfl (fun ls hl => ?_)
                                        obtain ⟨v218, e_v218⟩ : ∃ y : Int32, y = (v89 + (1 : Int32)) := ⟨_, rfl⟩
                                        replace h := jl_s e_v218 h
                                        refine lv_iinc (v := v218) (lv' := [(3, .int v218), (2, .int (1 : Int32)), (1, .ref g0), (0, .ref b)]) hx hb dL_law_294 hl (k := 1) rfl (by rw [e_v218]; rfl) (by decide) rfl (fun ls hl => ?_)
                                        refine lv_goto (tgt := 78) hx hb dL_law_297 (by decide) ?_
                                        exact ih_rec88 v218 ke_122 lnn_210 pm_124 ch_125 tl_126 nu_127 le_128 nx_129 cmd_130 pos_131 rea_132 cau_133 xn_212 xt_147 xp_136 xr_137 xw_138 h0_139 h1_140 h2_141 h3_142 h4_143 _ _ _ hP hS (lv_sub hl [0, 1, 2, 3] rfl) h
                                    refine lv_if_ne (tgt := 281) hx hb dL_law_273 (by decide) (fun hc214 => ?_) (fun hc214 => ?_)
                                    · replace h := g_if hc214 h
                                      refine lv_iload hx hb dL_law_281 (lv_at hl 0 rfl) ?_
                                      refine lv_iconst (v := (1 : Int32)) hx hb dL_law_283 (by decide) ?_
                                      refine lv_isub hx hb dL_law_284 ?_
                                      exact hJ_J215 (r206 - (1 : Int32)) _ _ _ hP hS (lv_sub hl [6, 7, 8] rfl) h
                                    · replace h := g_it hc214 h
                                      refine lv_bipush (v := (-2 : Int32)) hx hb dL_law_276 (by decide) ?_
                                      refine lv_goto (tgt := 285) hx hb dL_law_278 (by decide) ?_
                                      exact hJ_J215 (-2 : Int32) _ _ _ hP hS (lv_sub hl [6, 7, 8] rfl) h
                        refine mrg_e h (fun J153 hK_J153 h => ?_)
                        have hJ_J153 : ∀ (_ : Unit) (H : Heap) (locs : List Loc) (ls : Array Slot), va_P E.1 vwCl (List.flatten [[(g0, .inr (6, [.ref (an 0), .ref (au 0), .ref (ap 0), .ref q0, .ref x0, .ref r0, .int ke_122]))], [(q0, .inr (0, [.ref q1, .int lnn_123]))], wHa E q1 ba pm_124, wTx E x0 x1 x2 ch_125 tl_126 nu_127 le_128 nx_129, [(r0, .inr (3, [.ref (ar 0), .ref (aw 0), .int cmd_130, .int pos_131, .int rea_132, .int cau_133]))], wHuT E an xn_134, wHuT E au xt_147, wHuT E ap xp_136, wHuT E ar xr_137, wHuT E aw xw_138, wHuT E (ba 0) h0_139, wHuT E (ba 1) h1_140, wHuT E (ba 2) h2_141, wHuT E (ba 3) h3_142, wHuT E (ba 4) h4_143]) H → va_S A s.heap H locs → lv_has ls 11 [(9, .int r150), (8, .int r119), (6, .long r117), (5, .int r115), (3, .int v89), (1, .ref g0), (0, .ref b)] → J153 () = some res → W p l e room_1 s m #[Value.ref b] below meth c H locs 207 6258 (lw_Z below #[Value.ref b] s) (F0 m 183 ls []) := by
                          intro _ H locs ls hP hS hl h
                          replace hD : va_D A (List.flatten [[(g0, .inr (6, [.ref (an 0), .ref (au 0), .ref (ap 0), .ref q0, .ref x0, .ref r0, .int ke_122]))], [(q0, .inr (0, [.ref q1, .int lnn_123]))], wHa E q1 ba pm_124, wTx E x0 x1 x2 ch_125 tl_126 nu_127 le_128 nx_129, [(r0, .inr (3, [.ref (ar 0), .ref (aw 0), .int cmd_130, .int pos_131, .int rea_132, .int cau_133]))], wHuT E an xn_134, wHuT E au xt_147, wHuT E ap xp_136, wHuT E ar xr_137, wHuT E aw xw_138, wHuT E (ba 0) h0_139, wHuT E (ba 1) h1_140, wHuT E (ba 2) h2_141, wHuT E (ba 3) h3_142, wHuT E (ba 4) h4_143]) := gD_same hD rfl
                          subst hK_J153
                          refine lv_iload hx hb dL_law_183 (lv_at hl 0 rfl) ?_
                          refine lv_iload hx hb dL_law_185 (lv_at hl 1 rfl) ?_
                          refine lv_iconst (v := (1 : Int32)) hx hb dL_law_187 (by decide) ?_
                          refine lv_iadd hx hb dL_law_188 ?_
                          refine lv_icmp_ne (tgt := 196) hx hb dL_law_189 (by decide) (fun hc159 => ?_) (fun hc159 => ?_)
                          · replace h := g_if hc159 h
                            cases h
                          · replace h := g_it hc159 h
                            exact hJ_J154 () _ _ _ hP hS (lv_sub hl [0, 1, 2, 3, 4, 5, 6] rfl) h
                        refine lv_icmp_ne (tgt := 183) hx hb dL_law_164 (by decide) (fun hc152 => ?_) (fun hc152 => ?_)
                        · replace h := g_if hc152 h
                          exact hJ_J153 () _ _ _ hP hS (lv_sub hl [0, 2, 3, 4, 6, 7, 8] rfl) h
                        · replace h := g_it hc152 h
                          refine lv_iload hx hb dL_law_167 (lv_at hl 2 rfl) ?_
                          refine lv_iconst (v := (4 : Int32)) hx hb dL_law_169 (by decide) ?_
                          refine lv_icmp_eq (tgt := 192) hx hb dL_law_170 (by decide) (fun hc155 => ?_) (fun hc155 => ?_)
                          · replace h := g_it hc155 h
                            exact hJ_J154 () _ _ _ hP hS (lv_sub hl [0, 2, 3, 4, 6, 7, 8] rfl) h
                          · replace h := g_if hc155 h
                            refine lv_aload_n hx hb dL_law_173 rfl (lv_at hl 7 rfl) ?_
                            obtain ⟨r156, hc157, h⟩ := bd1_s h
                            refine g_callSBl (As := [.ref g0]) (rest := []) (r := r156) (bs1 := [[(g0, .inr (6, [.ref (an 0), .ref (au 0), .ref (ap 0), .ref q0, .ref x0, .ref r0, .int ke_122]))], [(q0, .inr (0, [.ref q1, .int lnn_123]))], wHa E q1 ba pm_124, wTx E x0 x1 x2 ch_125 tl_126 nu_127 le_128 nx_129, [(r0, .inr (3, [.ref (ar 0), .ref (aw 0), .int cmd_130, .int pos_131, .int rea_132, .int cau_133]))], wHuT E an xn_134, wHuT E au xt_147, wHuT E ap xp_136, wHuT E ar xr_137, wHuT E aw xw_138, wHuT E (ba 0) h0_139, wHuT E (ba 1) h1_140, wHuT E (ba 2) h2_141, wHuT E (ba 3) h3_142, wHuT E (ba 4) h4_143]) ⟨hx, hb, hml, hown, hts⟩ (kL_digest E l g0 q0 q1 x0 x1 x2 r0 an au ap ar aw ba ke_122 lnn_123 pm_124 ch_125 tl_126 nu_127 le_128 nx_129 cmd_130 pos_131 rea_132 cau_133 xn_134 xt_147 xp_136 xr_137 xw_138 h0_139 h1_140 h2_141 h3_142 h4_143 r156 hc157) (va_cwS 1 hts gL_law_L_digest rfl rfl rfl (by decide +kernel) ⟨Nat.le_of_ble_eq_true rfl, Nat.le_of_ble_eq_true rfl⟩) hK hP hD hS hA hG hl [0, 1, 2, 3, 4, 5, 6, 7, 8, 9, 10, 11, 12, 13, 14] (by decide) rfl rfl rfl rfl rfl rfl rfl (Nat.le_of_ble_eq_true rfl) dL_law_174 (Nat.le_of_ble_eq_true rfl) (Nat.le_of_ble_eq_true rfl) (fun H locs hP hD hS => ?_)
                            refine lv_lload hx hb dL_law_177 (lv_at hl 3 rfl) ?_
                            refine W.lcmp hx hb dL_law_179 ?_
                            refine lv_if_eq (tgt := 192) hx hb dL_law_180 (by decide) (fun hc158 => ?_) (fun hc158 => ?_)
                            · replace h := g_it hc158 h
                              exact hJ_J154 () _ _ _ hP hS (lv_sub hl [0, 2, 3, 4, 6, 7, 8] rfl) h
                            · replace h := g_if hc158 h
                              exact hJ_J153 () _ _ _ hP hS (lv_sub hl [0, 2, 3, 4, 6, 7, 8] rfl) h
              exact hL_rec88 gFU (0 : Int32) ke lnn_71 pm_73 ch tl nu le nx cmd pos rea cau xn_75 xt_2 xp xr xw h0_77 h1_79 h2_81 h3_83 h4_85 _ _ _ hP hS (lv_sub hl [0, 1, 2, 3] rfl) h
