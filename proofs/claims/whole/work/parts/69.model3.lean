set_option maxHeartbeats 4000000 in
set_option maxRecDepth 100000 in
theorem kX7_night (E : gE) (l : Launch) (a0 a1 a2 a3 a4 a5 a6 a7 : Nat) (ss : Nat → Int32) (bg : Nat → Int32) (kp : Nat → Int32) (ik : Int32) (pt : Nat → Int32) (st : Int32) (tx : Nat → Int32) (ln : Int32) (asd : Nat → Int32) (att : Int32) (dn : Int32) (td : Int32) (fo : Int32) (nb : Nat → Int32)  (res : (Nat → Int32)) (h : fX7_night ss  = some res) : gMV E l yX7_night wsX7_night ({ frames := 4, cells := 0, slots := 0, locals := 94 } : Room) [.ref a0] (wMo E a0 a1 a2 a3 a4 a5 a6 a7 ss bg kp ik pt st tx ln asd att dn td fo nb) (fun res : (Nat → Int32) => (wMo E a0 a1 a2 a3 a4 a5 a6 a7 res bg kp ik pt st tx ln asd att dn td fo nb)) res := by
  refine g_entV (cc := cX7_night) (maxL := 3) (by decide) rfl (Nat.le_of_ble_eq_true rfl) ?_
  intro p e s m args below meth c A Q ls hx hb hml hown hts hK hP hD hS hA hG hret hl
  unfold fX7_night at h
  replace hl : lv_has ls 3 [(0, .ref a0)] := hl
  have hiX7 : ∀ w ∈ wsX70, w ∈ wsX7_night := by decide +kernel
  have hw0 := hts (.fieldLink RX7 7 "GlacierHutModel" "s" "[I") (by decide +kernel)
  refine lv_aload_n hx hb dX7_night_0 rfl (lv_at hl 0 rfl) ?_
  refine lv_aload_n hx hb dX7_night_1 rfl (lv_at hl 0 rfl) ?_
  refine va_get (D := E.1) (cl := vwCl) (ci := 7) (v := .ref a1) (C := RX7) (T := TX7) (N := 14) hx hb hts hiX7 hown hK hP 0 rfl rfl 0 (by decide) hw0 (fun _ h9 => h9) rfl dX7_night_2 ?_
  refine lv_iconst (v := (0 : Int32)) hx hb dX7_night_5 (by decide) ?_
  obtain ⟨hg1, h⟩ := gd_s h
  refine va_iald (D := E.1) (cl := vwCl) (tys := gT E) hx hb hK hP 1 0 rfl rfl (inB_in hg1) dX7_night_6 ?_
  obtain ⟨r2, hc3, h⟩ := bd1_s h
  refine g_callRi (As := [.int (ss ((0 : Int32)).toNatClampNeg)]) (rest := []) (r := r2) ⟨hx, hb, hml, hown, hts⟩ (kX7_isStorm E l a0 a1 a2 a3 a4 a5 a6 a7 ss bg kp ik pt st tx ln asd att dn td fo nb (ss ((0 : Int32)).toNatClampNeg) r2 hc3) (cwV 1 hts gX7_night_X7_isStorm rfl rfl rfl (by decide +kernel) ⟨Nat.le_of_ble_eq_true rfl, Nat.le_of_ble_eq_true rfl⟩) hK hP hD hS hA hG hl [0, 1, 2, 3, 4, 5, 6, 7] 0 (by decide) rfl (ci := 7) rfl rfl rfl rfl rfl rfl rfl (Nat.le_of_ble_eq_true rfl) dX7_night_7 (Nat.zero_le _) (Nat.zero_le _) (fun H locs hP hD hS => ?_)
  refine mrg_e h (fun J5 hK_J5 h => ?_)
  have hJ_J5 : ∀ (ss8 : Nat → Int32) (H : Heap) (locs : List Loc) (ls : Array Slot), va_P E.1 vwCl (wMo E a0 a1 a2 a3 a4 a5 a6 a7 ss8 bg kp ik pt st tx ln asd att dn td fo nb) H → va_S A s.heap H locs → lv_has ls 3 [(0, .ref a0)] → J5 ss8 = some res → W p l e ({ frames := 4, cells := 0, slots := 0, locals := 94 } : Room) s m args below meth c H locs 0 0 Q (F0 m 17 ls []) := by
    intro ss8 H locs ls hP hS hl h
    replace hD : va_D A (wMo E a0 a1 a2 a3 a4 a5 a6 a7 ss8 bg kp ik pt st tx ln asd att dn td fo nb) := gD_same hD rfl
    subst hK_J5
    refine lv_iconst (v := (0 : Int32)) hx hb dX7_night_17 (by decide) ?_
    refine lv_istore_n (lv' := [(1, .int (0 : Int32)), (0, .ref a0)]) hx hb dX7_night_18 rfl hl (by decide) rfl (fun ls hl => ?_)
    refine gl2_e h (fun S_rec9 hS_rec9 h => ?_)
    have hL_rec9 : ∀ (nF : Nat) (v10 : Int32) (ss11 : Nat → Int32) (H : Heap) (locs : List Loc) (ls : Array Slot), va_P E.1 vwCl (wMo E a0 a1 a2 a3 a4 a5 a6 a7 ss11 bg kp ik pt st tx ln asd att dn td fo nb) H → va_S A s.heap H locs → lv_has ls 3 [(1, .int v10), (0, .ref a0)] → gl2 S_rec9 nF v10 ss11 = some res → W p l e ({ frames := 4, cells := 0, slots := 0, locals := 94 } : Room) s m args below meth c H locs 0 0 Q (F0 m 19 ls []) := by
      intro nF
      induction nF with
      | zero => intro v10 ss11 H locs ls hP hS hl h; exact gl2_z h
      | succ nF ih_rec9 =>
        intro v10 ss11 H locs ls hP hS hl h
        replace hD : va_D A (wMo E a0 a1 a2 a3 a4 a5 a6 a7 ss11 bg kp ik pt st tx ln asd att dn td fo nb) := gD_same hD rfl
        replace h : S_rec9 (gl2 S_rec9 nF) v10 ss11 = some res := h
        generalize gl2 S_rec9 nF = rec9 at h ih_rec9
        subst hS_rec9
        unfold sX7_night_rec9 at h
        refine lv_iload_n hx hb dX7_night_19 rfl (lv_at hl 0 rfl) ?_
        refine lv_aload_n hx hb dX7_night_20 rfl (lv_at hl 1 rfl) ?_
        refine va_get (D := E.1) (cl := vwCl) (ci := 7) (v := .ref a1) (C := RX7) (T := TX7) (N := 14) hx hb hts hiX7 hown hK hP 0 rfl rfl 0 (by decide) hw0 (fun _ h9 => h9) rfl dX7_night_21 ?_
        refine lv_iconst (v := (4 : Int32)) hx hb dX7_night_24 (by decide) ?_
        obtain ⟨hg12, h⟩ := gd_s h
        refine va_iald (D := E.1) (cl := vwCl) (tys := gT E) hx hb hK hP 1 0 rfl rfl (inB_in hg12) dX7_night_25 ?_
        refine lv_icmp_ge (tgt := 64) hx hb dX7_night_26 (by decide) (fun hc13 => ?_) (fun hc13 => ?_)
        · replace h := g_it hc13 h
          refine lv_aload_n hx hb dX7_night_64 rfl (lv_at hl 1 rfl) ?_
          obtain ⟨r14, hc15, h⟩ := bd1_s h
          refine g_callRi (As := []) (rest := []) (r := r14) ⟨hx, hb, hml, hown, hts⟩ (kX7_guests E l a0 a1 a2 a3 a4 a5 a6 a7 ss11 bg kp ik pt st tx ln asd att dn td fo nb r14 hc15) (cwV 0 hts gX7_night_X7_guests rfl rfl rfl (by decide +kernel) ⟨Nat.le_of_ble_eq_true rfl, Nat.le_of_ble_eq_true rfl⟩) hK hP hD hS hA hG hl [0, 1, 2, 3, 4, 5, 6, 7] 0 (by decide) rfl (ci := 7) rfl rfl rfl rfl rfl rfl rfl (Nat.le_of_ble_eq_true rfl) dX7_night_65 (Nat.zero_le _) (Nat.zero_le _) (fun H locs hP hD hS => ?_)
          refine lv_istore_n (lv' := [(1, .int r14), (0, .ref a0)]) hx hb dX7_night_68 rfl hl (by decide) rfl (fun ls hl => ?_)
          refine lv_aload_n hx hb dX7_night_69 rfl (lv_at hl 1 rfl) ?_
          refine lv_iload_n hx hb dX7_night_70 rfl (lv_at hl 0 rfl) ?_
          obtain ⟨ss16, hc17, h⟩ := bd1_s h
          refine g_callVv (As := [.int r14]) (rest := []) (ws1 := (wMo E a0 a1 a2 a3 a4 a5 a6 a7 ss16 bg kp ik pt st tx ln asd att dn td fo nb)) ⟨hx, hb, hml, hown, hts⟩ (kX7_sups E l a0 a1 a2 a3 a4 a5 a6 a7 ss11 bg kp ik pt st tx ln asd att dn td fo nb r14 ss16 hc17) (cwV 1 hts gX7_night_X7_sups rfl rfl rfl (by decide +kernel) ⟨Nat.le_of_ble_eq_true rfl, Nat.le_of_ble_eq_true rfl⟩) hK hP hD hS hA hG hl [0, 1, 2, 3, 4, 5, 6, 7] 0 (by decide) rfl (ci := 7) rfl rfl rfl rfl rfl rfl rfl rfl (Nat.le_of_ble_eq_true rfl) dX7_night_71 (Nat.zero_le _) (Nat.zero_le _) (fun H locs hP hD hS => ?_)
          refine lv_aload_n hx hb dX7_night_74 rfl (lv_at hl 1 rfl) ?_
          refine lv_iload_n hx hb dX7_night_75 rfl (lv_at hl 0 rfl) ?_
          obtain ⟨ss18, hc19, h⟩ := bd1_s h
          refine g_callVv (As := [.int r14]) (rest := []) (ws1 := (wMo E a0 a1 a2 a3 a4 a5 a6 a7 ss18 bg kp ik pt st tx ln asd att dn td fo nb)) ⟨hx, hb, hml, hown, hts⟩ (kX7_heats E l a0 a1 a2 a3 a4 a5 a6 a7 ss16 bg kp ik pt st tx ln asd att dn td fo nb r14 ss18 hc19) (cwV 1 hts gX7_night_X7_heats rfl rfl rfl (by decide +kernel) ⟨Nat.le_of_ble_eq_true rfl, Nat.le_of_ble_eq_true rfl⟩) hK hP hD hS hA hG hl [0, 1, 2, 3, 4, 5, 6, 7] 0 (by decide) rfl (ci := 7) rfl rfl rfl rfl rfl rfl rfl rfl (Nat.le_of_ble_eq_true rfl) dX7_night_76 (Nat.zero_le _) (Nat.zero_le _) (fun H locs hP hD hS => ?_)
          refine lv_aload_n hx hb dX7_night_79 rfl (lv_at hl 1 rfl) ?_
          refine va_get (D := E.1) (cl := vwCl) (ci := 7) (v := .ref a1) (C := RX7) (T := TX7) (N := 14) hx hb hts hiX7 hown hK hP 0 rfl rfl 0 (by decide) hw0 (fun _ h9 => h9) rfl dX7_night_80 ?_
          refine lv_bipush (v := (7 : Int32)) hx hb dX7_night_83 (by decide) ?_
          refine lv_dup2_11 hx hb dX7_night_85 rfl rfl ?_
          obtain ⟨hg20, h⟩ := gd_s h
          refine va_iald (D := E.1) (cl := vwCl) (tys := gT E) hx hb hK hP 1 0 rfl rfl (inB_in hg20) dX7_night_86 ?_
          refine lv_iload_n hx hb dX7_night_87 rfl (lv_at hl 0 rfl) ?_
          refine lv_iadd hx hb dX7_night_88 ?_
          refine va_iast (D := E.1) (cl := vwCl) (tys := gT E) hx hb hK hP hD hS 1 0 rfl rfl (inB_in hg20) dX7_night_89 (fun H locs hP hD hS => ?_)
          obtain ⟨ss21, e_ss21⟩ : ∃ y : Nat → Int32, y = (upd ss18 ((7 : Int32)).toNatClampNeg ((ss18 ((7 : Int32)).toNatClampNeg) + r14)) := ⟨_, rfl⟩
          replace h := jl_s e_ss21 h
          replace hP : va_P E.1 vwCl (wMo E a0 a1 a2 a3 a4 a5 a6 a7 ss21 bg kp ik pt st tx ln asd att dn td fo nb) H := (by rw [e_ss21]; exact hP)
          replace hD : va_D A (wMo E a0 a1 a2 a3 a4 a5 a6 a7 ss21 bg kp ik pt st tx ln asd att dn td fo nb) := gD_same hD rfl
          refine lv_iconst (v := (0 : Int32)) hx hb dX7_night_90 (by decide) ?_
          refine lv_istore_n (lv' := [(2, .int (0 : Int32)), (1, .int r14), (0, .ref a0)]) hx hb dX7_night_91 rfl hl (by decide) rfl (fun ls hl => ?_)
          refine gl2_e h (fun S_rec22 hS_rec22 h => ?_)
          have hL_rec22 : ∀ (nF : Nat) (v23 : Int32) (ss24 : Nat → Int32) (H : Heap) (locs : List Loc) (ls : Array Slot), va_P E.1 vwCl (wMo E a0 a1 a2 a3 a4 a5 a6 a7 ss24 bg kp ik pt st tx ln asd att dn td fo nb) H → va_S A s.heap H locs → lv_has ls 3 [(2, .int v23), (0, .ref a0)] → gl2 S_rec22 nF v23 ss24 = some res → W p l e ({ frames := 4, cells := 0, slots := 0, locals := 94 } : Room) s m args below meth c H locs 0 0 Q (F0 m 92 ls []) := by
            intro nF
            induction nF with
            | zero => intro v23 ss24 H locs ls hP hS hl h; exact gl2_z h
            | succ nF ih_rec22 =>
              intro v23 ss24 H locs ls hP hS hl h
              replace hD : va_D A (wMo E a0 a1 a2 a3 a4 a5 a6 a7 ss24 bg kp ik pt st tx ln asd att dn td fo nb) := gD_same hD rfl
              replace h : S_rec22 (gl2 S_rec22 nF) v23 ss24 = some res := h
              generalize gl2 S_rec22 nF = rec22 at h ih_rec22
              subst hS_rec22
              unfold sX7_night_rec22 at h
              refine lv_iload_n hx hb dX7_night_92 rfl (lv_at hl 0 rfl) ?_
              refine lv_aload_n hx hb dX7_night_93 rfl (lv_at hl 1 rfl) ?_
              refine va_get (D := E.1) (cl := vwCl) (ci := 7) (v := .ref a1) (C := RX7) (T := TX7) (N := 14) hx hb hts hiX7 hown hK hP 0 rfl rfl 0 (by decide) hw0 (fun _ h9 => h9) rfl dX7_night_94 ?_
              refine lv_iconst (v := (4 : Int32)) hx hb dX7_night_97 (by decide) ?_
              refine va_iald (D := E.1) (cl := vwCl) (tys := gT E) hx hb hK hP 1 0 rfl rfl (inB_in hg12) dX7_night_98 ?_
              refine lv_icmp_ge (tgt := 136) hx hb dX7_night_99 (by decide) (fun hc25 => ?_) (fun hc25 => ?_)
              · replace h := g_it hc25 h
                refine lv_aload_n hx hb dX7_night_136 rfl (lv_at hl 1 rfl) ?_
                obtain ⟨ss26, hc27, h⟩ := bd1_s h
                refine g_callVv (As := []) (rest := []) (ws1 := (wMo E a0 a1 a2 a3 a4 a5 a6 a7 ss26 bg kp ik pt st tx ln asd att dn td fo nb)) ⟨hx, hb, hml, hown, hts⟩ (kX7_spoils E l a0 a1 a2 a3 a4 a5 a6 a7 ss24 bg kp ik pt st tx ln asd att dn td fo nb ss26 hc27) (cwV 0 hts gX7_night_X7_spoils rfl rfl rfl (by decide +kernel) ⟨Nat.le_of_ble_eq_true rfl, Nat.le_of_ble_eq_true rfl⟩) hK hP hD hS hA hG hl [0, 1, 2, 3, 4, 5, 6, 7] 0 (by decide) rfl (ci := 7) rfl rfl rfl rfl rfl rfl rfl rfl (Nat.le_of_ble_eq_true rfl) dX7_night_137 (Nat.zero_le _) (Nat.zero_le _) (fun H locs hP hD hS => ?_)
                refine lv_aload_n hx hb dX7_night_140 rfl (lv_at hl 1 rfl) ?_
                refine va_get (D := E.1) (cl := vwCl) (ci := 7) (v := .ref a1) (C := RX7) (T := TX7) (N := 14) hx hb hts hiX7 hown hK hP 0 rfl rfl 0 (by decide) hw0 (fun _ h9 => h9) rfl dX7_night_141 ?_
                refine lv_iconst (v := (0 : Int32)) hx hb dX7_night_144 (by decide) ?_
                refine lv_dup2_11 hx hb dX7_night_145 rfl rfl ?_
                refine va_iald (D := E.1) (cl := vwCl) (tys := gT E) hx hb hK hP 1 0 rfl rfl (inB_in hg1) dX7_night_146 ?_
                refine lv_iconst (v := (1 : Int32)) hx hb dX7_night_147 (by decide) ?_
                refine lv_iadd hx hb dX7_night_148 ?_
                refine va_iast (D := E.1) (cl := vwCl) (tys := gT E) hx hb hK hP hD hS 1 0 rfl rfl (inB_in hg1) dX7_night_149 (fun H locs hP hD hS => ?_)
                obtain ⟨ss28, e_ss28⟩ : ∃ y : Nat → Int32, y = (upd ss26 ((0 : Int32)).toNatClampNeg ((ss26 ((0 : Int32)).toNatClampNeg) + (1 : Int32))) := ⟨_, rfl⟩
                replace h := jl_s e_ss28 h
                replace hP : va_P E.1 vwCl (wMo E a0 a1 a2 a3 a4 a5 a6 a7 ss28 bg kp ik pt st tx ln asd att dn td fo nb) H := (by rw [e_ss28]; exact hP)
                replace hD : va_D A (wMo E a0 a1 a2 a3 a4 a5 a6 a7 ss28 bg kp ik pt st tx ln asd att dn td fo nb) := gD_same hD rfl
                exact hret ss28 _ _ _ _ (Option.some.inj h) hP hS dX7_night_150
              · replace h := g_if hc25 h
                refine lv_aload_n hx hb dX7_night_102 rfl (lv_at hl 1 rfl) ?_
                refine lv_iload_n hx hb dX7_night_103 rfl (lv_at hl 0 rfl) ?_
                refine lv_iconst (v := (4 : Int32)) hx hb dX7_night_104 (by decide) ?_
                refine lv_aload_n hx hb dX7_night_105 rfl (lv_at hl 1 rfl) ?_
                refine lv_iload_n hx hb dX7_night_106 rfl (lv_at hl 0 rfl) ?_
                refine lv_iconst (v := (4 : Int32)) hx hb dX7_night_107 (by decide) ?_
                obtain ⟨r29, hc30, h⟩ := bd1_s h
                refine g_callRi (As := [.int v23, .int (4 : Int32)]) (rest := [.int (4 : Int32), .int v23, .ref a0]) (r := r29) ⟨hx, hb, hml, hown, hts⟩ (kX7_ofParty E l a0 a1 a2 a3 a4 a5 a6 a7 ss24 bg kp ik pt st tx ln asd att dn td fo nb v23 (4 : Int32) r29 hc30) (cwV 2 hts gX7_night_X7_ofParty rfl rfl rfl (by decide +kernel) ⟨Nat.le_of_ble_eq_true rfl, Nat.le_of_ble_eq_true rfl⟩) hK hP hD hS hA hG hl [0, 1, 2, 3, 4, 5, 6, 7] 0 (by decide) rfl (ci := 7) rfl rfl rfl rfl rfl rfl rfl (Nat.le_of_ble_eq_true rfl) dX7_night_108 (Nat.zero_le _) (Nat.zero_le _) (fun H locs hP hD hS => ?_)
                refine lv_aload_n hx hb dX7_night_111 rfl (lv_at hl 1 rfl) ?_
                refine lv_iload_n hx hb dX7_night_112 rfl (lv_at hl 0 rfl) ?_
                refine lv_iconst (v := (3 : Int32)) hx hb dX7_night_113 (by decide) ?_
                obtain ⟨r31, hc32, h⟩ := bd1_s h
                refine g_callRi (As := [.int v23, .int (3 : Int32)]) (rest := [.int r29, .int (4 : Int32), .int v23, .ref a0]) (r := r31) ⟨hx, hb, hml, hown, hts⟩ (kX7_ofParty E l a0 a1 a2 a3 a4 a5 a6 a7 ss24 bg kp ik pt st tx ln asd att dn td fo nb v23 (3 : Int32) r31 hc32) (cwV 2 hts gX7_night_X7_ofParty rfl rfl rfl (by decide +kernel) ⟨Nat.le_of_ble_eq_true rfl, Nat.le_of_ble_eq_true rfl⟩) hK hP hD hS hA hG hl [0, 1, 2, 3, 4, 5, 6, 7] 0 (by decide) rfl (ci := 7) rfl rfl rfl rfl rfl rfl rfl (Nat.le_of_ble_eq_true rfl) dX7_night_114 (Nat.zero_le _) (Nat.zero_le _) (fun H locs hP hD hS => ?_)
                refine lv_iconst (v := (1 : Int32)) hx hb dX7_night_117 (by decide) ?_
                refine mrg_e h (fun J34 hK_J34 h => ?_)
                have hJ_J34 : ∀ (v35 : Int32) (H : Heap) (locs : List Loc) (ls : Array Slot), va_P E.1 vwCl (wMo E a0 a1 a2 a3 a4 a5 a6 a7 ss24 bg kp ik pt st tx ln asd att dn td fo nb) H → va_S A s.heap H locs → lv_has ls 3 [(2, .int v23), (0, .ref a0)] → J34 v35 = some res → W p l e ({ frames := 4, cells := 0, slots := 0, locals := 94 } : Room) s m args below meth c H locs 0 0 Q (F0 m 126 ls [.int v35, .int r29, .int (4 : Int32), .int v23, .ref a0]) := by
                  intro v35 H locs ls hP hS hl h
                  replace hD : va_D A (wMo E a0 a1 a2 a3 a4 a5 a6 a7 ss24 bg kp ik pt st tx ln asd att dn td fo nb) := gD_same hD rfl
                  subst hK_J34
                  refine lv_iadd hx hb dX7_night_126 ?_
                  obtain ⟨ss36, hc37, h⟩ := bd1_s h
                  refine g_callVv (As := [.int v23, .int (4 : Int32), .int (r29 + v35)]) (rest := []) (ws1 := (wMo E a0 a1 a2 a3 a4 a5 a6 a7 ss36 bg kp ik pt st tx ln asd att dn td fo nb)) ⟨hx, hb, hml, hown, hts⟩ (kX7_setParty E l a0 a1 a2 a3 a4 a5 a6 a7 ss24 bg kp ik pt st tx ln asd att dn td fo nb v23 (4 : Int32) (r29 + v35) ss36 hc37) (cwV 3 hts gX7_night_X7_setParty rfl rfl rfl (by decide +kernel) ⟨Nat.le_of_ble_eq_true rfl, Nat.le_of_ble_eq_true rfl⟩) hK hP hD hS hA hG hl [0, 1, 2, 3, 4, 5, 6, 7] 0 (by decide) rfl (ci := 7) rfl rfl rfl rfl rfl rfl rfl rfl (Nat.le_of_ble_eq_true rfl) dX7_night_127 (Nat.zero_le _) (Nat.zero_le _) (fun H locs hP hD hS => ?_)
                  obtain ⟨v38, e_v38⟩ : ∃ y : Int32, y = (v23 + (1 : Int32)) := ⟨_, rfl⟩
                  replace h := jl_s e_v38 h
                  refine lv_iinc (v := v38) (lv' := [(2, .int v38), (0, .ref a0)]) hx hb dX7_night_130 hl (k := 0) rfl (by rw [e_v38]; rfl) (by decide) rfl (fun ls hl => ?_)
                  refine lv_goto (tgt := 92) hx hb dX7_night_133 (by decide) ?_
                  exact ih_rec22 v38 ss36 _ _ _ hP hS (lv_sub hl [0, 1] rfl) h
                refine lv_icmp_ne (tgt := 125) hx hb dX7_night_118 (by decide) (fun hc33 => ?_) (fun hc33 => ?_)
                · replace h := g_if hc33 h
                  refine lv_iconst (v := (0 : Int32)) hx hb dX7_night_125 (by decide) ?_
                  exact hJ_J34 (0 : Int32) _ _ _ hP hS (lv_sub hl [0, 1] rfl) h
                · replace h := g_it hc33 h
                  refine lv_iconst (v := (1 : Int32)) hx hb dX7_night_121 (by decide) ?_
                  refine lv_goto (tgt := 126) hx hb dX7_night_122 (by decide) ?_
                  exact hJ_J34 (1 : Int32) _ _ _ hP hS (lv_sub hl [0, 1] rfl) h
          exact hL_rec22 gFU (0 : Int32) ss21 _ _ _ hP hS (lv_sub hl [0, 2] rfl) h
        · replace h := g_if hc13 h
          refine lv_aload_n hx hb dX7_night_29 rfl (lv_at hl 1 rfl) ?_
          refine lv_iload_n hx hb dX7_night_30 rfl (lv_at hl 0 rfl) ?_
          refine lv_iconst (v := (3 : Int32)) hx hb dX7_night_31 (by decide) ?_
          obtain ⟨r39, hc40, h⟩ := bd1_s h
          refine g_callRi (As := [.int v10, .int (3 : Int32)]) (rest := []) (r := r39) ⟨hx, hb, hml, hown, hts⟩ (kX7_ofParty E l a0 a1 a2 a3 a4 a5 a6 a7 ss11 bg kp ik pt st tx ln asd att dn td fo nb v10 (3 : Int32) r39 hc40) (cwV 2 hts gX7_night_X7_ofParty rfl rfl rfl (by decide +kernel) ⟨Nat.le_of_ble_eq_true rfl, Nat.le_of_ble_eq_true rfl⟩) hK hP hD hS hA hG hl [0, 1, 2, 3, 4, 5, 6, 7] 0 (by decide) rfl (ci := 7) rfl rfl rfl rfl rfl rfl rfl (Nat.le_of_ble_eq_true rfl) dX7_night_32 (Nat.zero_le _) (Nat.zero_le _) (fun H locs hP hD hS => ?_)
          refine lv_if_ne (tgt := 58) hx hb dX7_night_35 (by decide) (fun hc41 => ?_) (fun hc41 => ?_)
          · replace h := g_if hc41 h
            obtain ⟨v42, e_v42⟩ : ∃ y : Int32, y = (v10 + (1 : Int32)) := ⟨_, rfl⟩
            replace h := jl_s e_v42 h
            refine lv_iinc (v := v42) (lv' := [(1, .int v42), (0, .ref a0)]) hx hb dX7_night_58 hl (k := 0) rfl (by rw [e_v42]; rfl) (by decide) rfl (fun ls hl => ?_)
            refine lv_goto (tgt := 19) hx hb dX7_night_61 (by decide) ?_
            exact ih_rec9 v42 ss11 _ _ _ hP hS (lv_sub hl [0, 1] rfl) h
          · replace h := g_it hc41 h
            refine lv_aload_n hx hb dX7_night_38 rfl (lv_at hl 1 rfl) ?_
            refine lv_iload_n hx hb dX7_night_39 rfl (lv_at hl 0 rfl) ?_
            refine lv_iconst (v := (1 : Int32)) hx hb dX7_night_40 (by decide) ?_
            obtain ⟨r43, hc44, h⟩ := bd1_s h
            refine g_callRi (As := [.int v10, .int (1 : Int32)]) (rest := []) (r := r43) ⟨hx, hb, hml, hown, hts⟩ (kX7_ofParty E l a0 a1 a2 a3 a4 a5 a6 a7 ss11 bg kp ik pt st tx ln asd att dn td fo nb v10 (1 : Int32) r43 hc44) (cwV 2 hts gX7_night_X7_ofParty rfl rfl rfl (by decide +kernel) ⟨Nat.le_of_ble_eq_true rfl, Nat.le_of_ble_eq_true rfl⟩) hK hP hD hS hA hG hl [0, 1, 2, 3, 4, 5, 6, 7] 0 (by decide) rfl (ci := 7) rfl rfl rfl rfl rfl rfl rfl (Nat.le_of_ble_eq_true rfl) dX7_night_41 (Nat.zero_le _) (Nat.zero_le _) (fun H locs hP hD hS => ?_)
            refine lv_aload_n hx hb dX7_night_44 rfl (lv_at hl 1 rfl) ?_
            refine va_get (D := E.1) (cl := vwCl) (ci := 7) (v := .ref a1) (C := RX7) (T := TX7) (N := 14) hx hb hts hiX7 hown hK hP 0 rfl rfl 0 (by decide) hw0 (fun _ h9 => h9) rfl dX7_night_45 ?_
            refine lv_iconst (v := (0 : Int32)) hx hb dX7_night_48 (by decide) ?_
            refine va_iald (D := E.1) (cl := vwCl) (tys := gT E) hx hb hK hP 1 0 rfl rfl (inB_in hg1) dX7_night_49 ?_
            refine lv_icmp_gt (tgt := 58) hx hb dX7_night_50 (by decide) (fun hc45 => ?_) (fun hc45 => ?_)
            · replace h := g_it hc45 h
              obtain ⟨v46, e_v46⟩ : ∃ y : Int32, y = (v10 + (1 : Int32)) := ⟨_, rfl⟩
              replace h := jl_s e_v46 h
              refine lv_iinc (v := v46) (lv' := [(1, .int v46), (0, .ref a0)]) hx hb dX7_night_58 hl (k := 0) rfl (by rw [e_v46]; rfl) (by decide) rfl (fun ls hl => ?_)
              refine lv_goto (tgt := 19) hx hb dX7_night_61 (by decide) ?_
              exact ih_rec9 v46 ss11 _ _ _ hP hS (lv_sub hl [0, 1] rfl) h
            · replace h := g_if hc45 h
              refine lv_aload_n hx hb dX7_night_53 rfl (lv_at hl 1 rfl) ?_
              refine lv_iload_n hx hb dX7_night_54 rfl (lv_at hl 0 rfl) ?_
              obtain ⟨ss47, hc48, h⟩ := bd1_s h
              refine g_callVv (As := [.int v10]) (rest := []) (ws1 := (wMo E a0 a1 a2 a3 a4 a5 a6 a7 ss47 bg kp ik pt st tx ln asd att dn td fo nb)) ⟨hx, hb, hml, hown, hts⟩ (kX7_arrives E l a0 a1 a2 a3 a4 a5 a6 a7 ss11 bg kp ik pt st tx ln asd att dn td fo nb v10 ss47 hc48) (cwV 1 hts gX7_night_X7_arrives rfl rfl rfl (by decide +kernel) ⟨Nat.le_of_ble_eq_true rfl, Nat.le_of_ble_eq_true rfl⟩) hK hP hD hS hA hG hl [0, 1, 2, 3, 4, 5, 6, 7] 0 (by decide) rfl (ci := 7) rfl rfl rfl rfl rfl rfl rfl rfl (Nat.le_of_ble_eq_true rfl) dX7_night_55 (Nat.zero_le _) (Nat.zero_le _) (fun H locs hP hD hS => ?_)
              obtain ⟨v49, e_v49⟩ : ∃ y : Int32, y = (v10 + (1 : Int32)) := ⟨_, rfl⟩
              replace h := jl_s e_v49 h
              refine lv_iinc (v := v49) (lv' := [(1, .int v49), (0, .ref a0)]) hx hb dX7_night_58 hl (k := 0) rfl (by rw [e_v49]; rfl) (by decide) rfl (fun ls hl => ?_)
              refine lv_goto (tgt := 19) hx hb dX7_night_61 (by decide) ?_
              exact ih_rec9 v49 ss47 _ _ _ hP hS (lv_sub hl [0, 1] rfl) h
    exact hL_rec9 gFU (0 : Int32) ss8 _ _ _ hP hS (lv_sub hl [0, 1] rfl) h
  refine lv_if_ne (tgt := 17) hx hb dX7_night_10 (by decide) (fun hc4 => ?_) (fun hc4 => ?_)
  · replace h := g_if hc4 h
    exact hJ_J5 ss _ _ _ hP hS (lv_sub hl [0] rfl) h
  · replace h := g_it hc4 h
    refine lv_aload_n hx hb dX7_night_13 rfl (lv_at hl 0 rfl) ?_
    obtain ⟨ss6, hc7, h⟩ := bd1_s h
    refine g_callVv (As := []) (rest := []) (ws1 := (wMo E a0 a1 a2 a3 a4 a5 a6 a7 ss6 bg kp ik pt st tx ln asd att dn td fo nb)) ⟨hx, hb, hml, hown, hts⟩ (kX7_leave E l a0 a1 a2 a3 a4 a5 a6 a7 ss bg kp ik pt st tx ln asd att dn td fo nb ss6 hc7) (cwV 0 hts gX7_night_X7_leave rfl rfl rfl (by decide +kernel) ⟨Nat.le_of_ble_eq_true rfl, Nat.le_of_ble_eq_true rfl⟩) hK hP hD hS hA hG hl [0, 1, 2, 3, 4, 5, 6, 7] 0 (by decide) rfl (ci := 7) rfl rfl rfl rfl rfl rfl rfl rfl (Nat.le_of_ble_eq_true rfl) dX7_night_14 (Nat.zero_le _) (Nat.zero_le _) (fun H locs hP hD hS => ?_)
    exact hJ_J5 ss6 _ _ _ hP hS (lv_sub hl [0] rfl) h
set_option maxHeartbeats 4000000 in
set_option maxRecDepth 100000 in
theorem kX7_isTaken (E : gE) (l : Launch) (a0 a1 a2 a3 a4 a5 a6 a7 : Nat) (ss : Nat → Int32) (bg : Nat → Int32) (kp : Nat → Int32) (ik : Int32) (pt : Nat → Int32) (st : Int32) (tx : Nat → Int32) (ln : Int32) (asd : Nat → Int32) (att : Int32) (dn : Int32) (td : Int32) (fo : Int32) (nb : Nat → Int32) (p1 : Int32) (p2 : Int32) (p3 : Int32) (res : Int32 × (Nat → Int32) × (Nat → Int32)) (h : fX7_isTaken ss asd p1 p2 p3 = some res) : gMI E l yX7_isTaken wsX7_isTaken ({ frames := 5, cells := 0, slots := 0, locals := 116 } : Room) [.ref a0, .int p1, .int p2, .int p3] (wMo E a0 a1 a2 a3 a4 a5 a6 a7 ss bg kp ik pt st tx ln asd att dn td fo nb) (fun res : Int32 × (Nat → Int32) × (Nat → Int32) => (wMo E a0 a1 a2 a3 a4 a5 a6 a7 res.2.1 bg kp ik pt st tx ln res.2.2 att dn td fo nb)) (fun res => res.1) res := by
  refine g_entZ (cc := cX7_isTaken) (maxL := 6) (by decide) rfl (Nat.le_of_ble_eq_true rfl) ?_
  intro p e s m args below meth c A Q ls hx hb hml hown hts hK hP hD hS hA hG hret hl
  unfold fX7_isTaken at h
  replace hl : lv_has ls 6 [(0, .ref a0), (1, .int p1), (2, .int p2), (3, .int p3)] := hl
  have hiX7 : ∀ w ∈ wsX70, w ∈ wsX7_isTaken := by decide +kernel
  have hw0 := hts (.fieldLink RX7 7 "GlacierHutModel" "s" "[I") (by decide +kernel)
  have hw1 := hts (.fieldLink RX7 25 "GlacierHutModel" "aside" "[I") (by decide +kernel)
  refine lv_iconst (v := (0 : Int32)) hx hb dX7_isTaken_0 (by decide) ?_
  refine lv_istore (lv' := [(4, .int (0 : Int32)), (0, .ref a0), (1, .int p1), (2, .int p2), (3, .int p3)]) hx hb dX7_isTaken_1 hl (by decide) rfl (fun ls hl => ?_)
  refine gl2_e h (fun S_rec1 hS_rec1 h => ?_)
  have hL_rec1 : ∀ (nF : Nat) (v2 : Int32) (asd3 : Nat → Int32) (H : Heap) (locs : List Loc) (ls : Array Slot), va_P E.1 vwCl (wMo E a0 a1 a2 a3 a4 a5 a6 a7 ss bg kp ik pt st tx ln asd3 att dn td fo nb) H → va_S A s.heap H locs → lv_has ls 6 [(4, .int v2), (0, .ref a0), (1, .int p1), (2, .int p2), (3, .int p3)] → gl2 S_rec1 nF v2 asd3 = some res → W p l e ({ frames := 5, cells := 0, slots := 0, locals := 116 } : Room) s m args below meth c H locs 0 0 Q (F0 m 3 ls []) := by
    intro nF
    induction nF with
    | zero => intro v2 asd3 H locs ls hP hS hl h; exact gl2_z h
    | succ nF ih_rec1 =>
      intro v2 asd3 H locs ls hP hS hl h
      replace hD : va_D A (wMo E a0 a1 a2 a3 a4 a5 a6 a7 ss bg kp ik pt st tx ln asd3 att dn td fo nb) := gD_same hD rfl
      replace h : S_rec1 (gl2 S_rec1 nF) v2 asd3 = some res := h
      generalize gl2 S_rec1 nF = rec1 at h ih_rec1
      subst hS_rec1
      unfold sX7_isTaken_rec1 at h
      refine lv_iload hx hb dX7_isTaken_3 (lv_at hl 0 rfl) ?_
      refine lv_sipush (v := (599 : Int32)) hx hb dX7_isTaken_5 (by decide) ?_
      refine lv_icmp_ge (tgt := 31) hx hb dX7_isTaken_8 (by decide) (fun hc4 => ?_) (fun hc4 => ?_)
      · replace h := g_it hc4 h
        refine lv_aload_n hx hb dX7_isTaken_31 rfl (lv_at hl 1 rfl) ?_
        refine lv_iload_n hx hb dX7_isTaken_32 rfl (lv_at hl 2 rfl) ?_
        refine lv_iload_n hx hb dX7_isTaken_33 rfl (lv_at hl 3 rfl) ?_
        refine lv_iload_n hx hb dX7_isTaken_34 rfl (lv_at hl 4 rfl) ?_
        obtain ⟨ss5, hc6, h⟩ := bd1_s h
        refine g_callVv (As := [.int p1, .int p2, .int p3]) (rest := []) (ws1 := (wMo E a0 a1 a2 a3 a4 a5 a6 a7 ss5 bg kp ik pt st tx ln asd3 att dn td fo nb)) ⟨hx, hb, hml, hown, hts⟩ (kX7_adds E l a0 a1 a2 a3 a4 a5 a6 a7 ss bg kp ik pt st tx ln asd3 att dn td fo nb p1 p2 p3 ss5 hc6) (cwV 3 hts gX7_isTaken_X7_adds rfl rfl rfl (by decide +kernel) ⟨Nat.le_of_ble_eq_true rfl, Nat.le_of_ble_eq_true rfl⟩) hK hP hD hS hA hG hl [0, 1, 2, 3, 4, 5, 6, 7] 0 (by decide) rfl (ci := 7) rfl rfl rfl rfl rfl rfl rfl rfl (Nat.le_of_ble_eq_true rfl) dX7_isTaken_35 (Nat.zero_le _) (Nat.zero_le _) (fun H locs hP hD hS => ?_)
        refine lv_iconst (v := (1 : Int32)) hx hb dX7_isTaken_38 (by decide) ?_
        refine lv_istore (lv' := [(4, .int (1 : Int32)), (0, .ref a0), (1, .int p1), (2, .int p2), (3, .int p3)]) hx hb dX7_isTaken_39 hl (by decide) rfl (fun ls hl => ?_)
        refine gl2_e h (fun S_rec7 hS_rec7 h => ?_)
        have hL_rec7 : ∀ (nF : Nat) (v8 : Int32) (ss9 : Nat → Int32) (H : Heap) (locs : List Loc) (ls : Array Slot), va_P E.1 vwCl (wMo E a0 a1 a2 a3 a4 a5 a6 a7 ss9 bg kp ik pt st tx ln asd3 att dn td fo nb) H → va_S A s.heap H locs → lv_has ls 6 [(4, .int v8), (0, .ref a0)] → gl2 S_rec7 nF v8 ss9 = some res → W p l e ({ frames := 5, cells := 0, slots := 0, locals := 116 } : Room) s m args below meth c H locs 0 0 Q (F0 m 41 ls []) := by
          intro nF
          induction nF with
          | zero => intro v8 ss9 H locs ls hP hS hl h; exact gl2_z h
          | succ nF ih_rec7 =>
            intro v8 ss9 H locs ls hP hS hl h
            replace hD : va_D A (wMo E a0 a1 a2 a3 a4 a5 a6 a7 ss9 bg kp ik pt st tx ln asd3 att dn td fo nb) := gD_same hD rfl
            replace h : S_rec7 (gl2 S_rec7 nF) v8 ss9 = some res := h
            generalize gl2 S_rec7 nF = rec7 at h ih_rec7
            subst hS_rec7
            unfold sX7_isTaken_rec7 at h
            refine lv_iload hx hb dX7_isTaken_41 (lv_at hl 0 rfl) ?_
            refine mrg_e h (fun J11 hK_J11 h => ?_)
            have hJ_J11 : ∀ (_ : Unit) (H : Heap) (locs : List Loc) (ls : Array Slot), va_P E.1 vwCl (wMo E a0 a1 a2 a3 a4 a5 a6 a7 ss9 bg kp ik pt st tx ln asd3 att dn td fo nb) H → va_S A s.heap H locs → lv_has ls 6 [(4, .int v8), (0, .ref a0)] → J11 () = some res → W p l e ({ frames := 5, cells := 0, slots := 0, locals := 116 } : Room) s m args below meth c H locs 0 0 Q (F0 m 116 ls []) := by
              intro _ H locs ls hP hS hl h
              replace hD : va_D A (wMo E a0 a1 a2 a3 a4 a5 a6 a7 ss9 bg kp ik pt st tx ln asd3 att dn td fo nb) := gD_same hD rfl
              subst hK_J11
              refine lv_iconst (v := (0 : Int32)) hx hb dX7_isTaken_116 (by decide) ?_
              refine lv_istore (lv' := [(5, .int (0 : Int32)), (4, .int v8), (0, .ref a0)]) hx hb dX7_isTaken_117 hl (by decide) rfl (fun ls hl => ?_)
              refine gl2_e h (fun S_rec23 hS_rec23 h => ?_)
              have hL_rec23 : ∀ (nF : Nat) (v24 : Int32) (ss25 : Nat → Int32) (H : Heap) (locs : List Loc) (ls : Array Slot), va_P E.1 vwCl (wMo E a0 a1 a2 a3 a4 a5 a6 a7 ss25 bg kp ik pt st tx ln asd3 att dn td fo nb) H → va_S A s.heap H locs → lv_has ls 6 [(5, .int v24), (4, .int v8), (0, .ref a0)] → gl2 S_rec23 nF v24 ss25 = some res → W p l e ({ frames := 5, cells := 0, slots := 0, locals := 116 } : Room) s m args below meth c H locs 0 0 Q (F0 m 119 ls []) := by
                intro nF
                induction nF with
                | zero => intro v24 ss25 H locs ls hP hS hl h; exact gl2_z h
                | succ nF ih_rec23 =>
                  intro v24 ss25 H locs ls hP hS hl h
                  replace hD : va_D A (wMo E a0 a1 a2 a3 a4 a5 a6 a7 ss25 bg kp ik pt st tx ln asd3 att dn td fo nb) := gD_same hD rfl
                  replace h : S_rec23 (gl2 S_rec23 nF) v24 ss25 = some res := h
                  generalize gl2 S_rec23 nF = rec23 at h ih_rec23
                  subst hS_rec23
                  unfold sX7_isTaken_rec23 at h
                  refine lv_iload hx hb dX7_isTaken_119 (lv_at hl 0 rfl) ?_
                  refine lv_sipush (v := (599 : Int32)) hx hb dX7_isTaken_121 (by decide) ?_
                  refine lv_icmp_ge (tgt := 147) hx hb dX7_isTaken_124 (by decide) (fun hc26 => ?_) (fun hc26 => ?_)
                  · replace h := g_it hc26 h
                    refine lv_iload hx hb dX7_isTaken_147 (lv_at hl 1 rfl) ?_
                    obtain ⟨hg27, h⟩ := gd_s h
                    exact hret (v8, ss25, asd3) _ _ _ _ _ (Option.some.inj h) hP hS rfl (nzB_nar hg27) dX7_isTaken_149
                  · replace h := g_if hc26 h
                    refine lv_aload_n hx hb dX7_isTaken_127 rfl (lv_at hl 2 rfl) ?_
                    refine va_get (D := E.1) (cl := vwCl) (ci := 7) (v := .ref a1) (C := RX7) (T := TX7) (N := 14) hx hb hts hiX7 hown hK hP 0 rfl rfl 0 (by decide) hw0 (fun _ h9 => h9) rfl dX7_isTaken_128 ?_
                    refine lv_iload hx hb dX7_isTaken_131 (lv_at hl 0 rfl) ?_
                    refine lv_aload_n hx hb dX7_isTaken_133 rfl (lv_at hl 2 rfl) ?_
                    refine va_get (D := E.1) (cl := vwCl) (ci := 7) (v := .ref a6) (C := RX7) (T := TX7) (N := 14) hx hb hts hiX7 hown hK hP 0 rfl rfl 8 (by decide) hw1 (fun _ h9 => h9) rfl dX7_isTaken_134 ?_
                    refine lv_iload hx hb dX7_isTaken_137 (lv_at hl 0 rfl) ?_
                    obtain ⟨hg28, h⟩ := gd_s h
                    refine va_iald (D := E.1) (cl := vwCl) (tys := gT E) hx hb hK hP 6 0 rfl rfl (inB_in hg28) dX7_isTaken_139 ?_
                    refine va_iast (D := E.1) (cl := vwCl) (tys := gT E) hx hb hK hP hD hS 1 0 rfl rfl (inB_in hg28) dX7_isTaken_140 (fun H locs hP hD hS => ?_)
                    obtain ⟨ss29, e_ss29⟩ : ∃ y : Nat → Int32, y = (upd ss25 (v24).toNatClampNeg (asd3 (v24).toNatClampNeg)) := ⟨_, rfl⟩
                    replace h := jl_s e_ss29 h
                    replace hP : va_P E.1 vwCl (wMo E a0 a1 a2 a3 a4 a5 a6 a7 ss29 bg kp ik pt st tx ln asd3 att dn td fo nb) H := (by rw [e_ss29]; exact hP)
                    replace hD : va_D A (wMo E a0 a1 a2 a3 a4 a5 a6 a7 ss29 bg kp ik pt st tx ln asd3 att dn td fo nb) := gD_same hD rfl
                    obtain ⟨v30, e_v30⟩ : ∃ y : Int32, y = (v24 + (1 : Int32)) := ⟨_, rfl⟩
                    replace h := jl_s e_v30 h
                    refine lv_iinc (v := v30) (lv' := [(5, .int v30), (4, .int v8), (0, .ref a0)]) hx hb dX7_isTaken_141 hl (k := 0) rfl (by rw [e_v30]; rfl) (by decide) rfl (fun ls hl => ?_)
                    refine lv_goto (tgt := 119) hx hb dX7_isTaken_144 (by decide) ?_
                    exact ih_rec23 v30 ss29 _ _ _ hP hS (lv_sub hl [0, 1, 2] rfl) h
              exact hL_rec23 gFU (0 : Int32) ss9 _ _ _ hP hS (lv_sub hl [0, 1, 2] rfl) h
            refine lv_if_eq (tgt := 116) hx hb dX7_isTaken_43 (by decide) (fun hc10 => ?_) (fun hc10 => ?_)
            · replace h := g_it hc10 h
              exact hJ_J11 () _ _ _ hP hS (lv_sub hl [0, 1] rfl) h
            · replace h := g_if hc10 h
              refine lv_aload_n hx hb dX7_isTaken_46 rfl (lv_at hl 1 rfl) ?_
              obtain ⟨r12, hc13, h⟩ := bd1_s h
              refine g_callRi (As := []) (rest := []) (r := r12) ⟨hx, hb, hml, hown, hts⟩ (kX7_isAny E l a0 a1 a2 a3 a4 a5 a6 a7 ss9 bg kp ik pt st tx ln asd3 att dn td fo nb r12 hc13) (cwV 0 hts gX7_isTaken_X7_isAny rfl rfl rfl (by decide +kernel) ⟨Nat.le_of_ble_eq_true rfl, Nat.le_of_ble_eq_true rfl⟩) hK hP hD hS hA hG hl [0, 1, 2, 3, 4, 5, 6, 7] 0 (by decide) rfl (ci := 7) rfl rfl rfl rfl rfl rfl rfl (Nat.le_of_ble_eq_true rfl) dX7_isTaken_47 (Nat.zero_le _) (Nat.zero_le _) (fun H locs hP hD hS => ?_)
              refine lv_if_eq (tgt := 116) hx hb dX7_isTaken_50 (by decide) (fun hc14 => ?_) (fun hc14 => ?_)
              · replace h := g_it hc14 h
                exact hJ_J11 () _ _ _ hP hS (lv_sub hl [0, 1] rfl) h
              · replace h := g_if hc14 h
                refine lv_aload_n hx hb dX7_isTaken_53 rfl (lv_at hl 1 rfl) ?_
                obtain ⟨ss15, hc16, h⟩ := bd1_s h
                refine g_callVv (As := []) (rest := []) (ws1 := (wMo E a0 a1 a2 a3 a4 a5 a6 a7 ss15 bg kp ik pt st tx ln asd3 att dn td fo nb)) ⟨hx, hb, hml, hown, hts⟩ (kX7_night E l a0 a1 a2 a3 a4 a5 a6 a7 ss9 bg kp ik pt st tx ln asd3 att dn td fo nb ss15 hc16) (cwV 0 hts gX7_isTaken_X7_night rfl rfl rfl (by decide +kernel) ⟨Nat.le_of_ble_eq_true rfl, Nat.le_of_ble_eq_true rfl⟩) hK hP hD hS hA hG hl [0, 1, 2, 3, 4, 5, 6, 7] 0 (by decide) rfl (ci := 7) rfl rfl rfl rfl rfl rfl rfl rfl (Nat.le_of_ble_eq_true rfl) dX7_isTaken_54 (Nat.zero_le _) (Nat.zero_le _) (fun H locs hP hD hS => ?_)
                refine lv_aload_n hx hb dX7_isTaken_57 rfl (lv_at hl 1 rfl) ?_
                refine va_get (D := E.1) (cl := vwCl) (ci := 7) (v := .ref a1) (C := RX7) (T := TX7) (N := 14) hx hb hts hiX7 hown hK hP 0 rfl rfl 0 (by decide) hw0 (fun _ h9 => h9) rfl dX7_isTaken_58 ?_
                refine lv_iconst (v := (5 : Int32)) hx hb dX7_isTaken_61 (by decide) ?_
                obtain ⟨hg17, h⟩ := gd_s h
                refine va_iald (D := E.1) (cl := vwCl) (tys := gT E) hx hb hK hP 1 0 rfl rfl (inB_in hg17) dX7_isTaken_62 ?_
                refine lv_aload_n hx hb dX7_isTaken_63 rfl (lv_at hl 1 rfl) ?_
                refine va_get (D := E.1) (cl := vwCl) (ci := 7) (v := .ref a6) (C := RX7) (T := TX7) (N := 14) hx hb hts hiX7 hown hK hP 0 rfl rfl 8 (by decide) hw1 (fun _ h9 => h9) rfl dX7_isTaken_64 ?_
                refine lv_iconst (v := (5 : Int32)) hx hb dX7_isTaken_67 (by decide) ?_
                refine va_iald (D := E.1) (cl := vwCl) (tys := gT E) hx hb hK hP 6 0 rfl rfl (inB_in hg17) dX7_isTaken_68 ?_
                refine lv_icmp_ne (tgt := 110) hx hb dX7_isTaken_69 (by decide) (fun hc18 => ?_) (fun hc18 => ?_)
                · replace h := g_if hc18 h
                  refine lv_iconst (v := (0 : Int32)) hx hb dX7_isTaken_110 (by decide) ?_
                  refine lv_istore (lv' := [(4, .int (0 : Int32)), (0, .ref a0)]) hx hb dX7_isTaken_111 hl (by decide) rfl (fun ls hl => ?_)
                  refine lv_goto (tgt := 41) hx hb dX7_isTaken_113 (by decide) ?_
                  exact ih_rec7 (0 : Int32) ss15 _ _ _ hP hS (lv_sub hl [0, 1] rfl) h
                · replace h := g_it hc18 h
                  refine lv_aload_n hx hb dX7_isTaken_72 rfl (lv_at hl 1 rfl) ?_
                  refine va_get (D := E.1) (cl := vwCl) (ci := 7) (v := .ref a1) (C := RX7) (T := TX7) (N := 14) hx hb hts hiX7 hown hK hP 0 rfl rfl 0 (by decide) hw0 (fun _ h9 => h9) rfl dX7_isTaken_73 ?_
                  refine lv_bipush (v := (6 : Int32)) hx hb dX7_isTaken_76 (by decide) ?_
                  obtain ⟨hg19, h⟩ := gd_s h
                  refine va_iald (D := E.1) (cl := vwCl) (tys := gT E) hx hb hK hP 1 0 rfl rfl (inB_in hg19) dX7_isTaken_78 ?_
                  refine lv_aload_n hx hb dX7_isTaken_79 rfl (lv_at hl 1 rfl) ?_
                  refine va_get (D := E.1) (cl := vwCl) (ci := 7) (v := .ref a6) (C := RX7) (T := TX7) (N := 14) hx hb hts hiX7 hown hK hP 0 rfl rfl 8 (by decide) hw1 (fun _ h9 => h9) rfl dX7_isTaken_80 ?_
                  refine lv_bipush (v := (6 : Int32)) hx hb dX7_isTaken_83 (by decide) ?_
                  refine va_iald (D := E.1) (cl := vwCl) (tys := gT E) hx hb hK hP 6 0 rfl rfl (inB_in hg19) dX7_isTaken_85 ?_
                  refine lv_icmp_ne (tgt := 110) hx hb dX7_isTaken_86 (by decide) (fun hc20 => ?_) (fun hc20 => ?_)
                  · replace h := g_if hc20 h
                    refine lv_iconst (v := (0 : Int32)) hx hb dX7_isTaken_110 (by decide) ?_
                    refine lv_istore (lv' := [(4, .int (0 : Int32)), (0, .ref a0)]) hx hb dX7_isTaken_111 hl (by decide) rfl (fun ls hl => ?_)
                    refine lv_goto (tgt := 41) hx hb dX7_isTaken_113 (by decide) ?_
                    exact ih_rec7 (0 : Int32) ss15 _ _ _ hP hS (lv_sub hl [0, 1] rfl) h
                  · replace h := g_it hc20 h
                    refine lv_aload_n hx hb dX7_isTaken_89 rfl (lv_at hl 1 rfl) ?_
                    refine va_get (D := E.1) (cl := vwCl) (ci := 7) (v := .ref a1) (C := RX7) (T := TX7) (N := 14) hx hb hts hiX7 hown hK hP 0 rfl rfl 0 (by decide) hw0 (fun _ h9 => h9) rfl dX7_isTaken_90 ?_
                    refine lv_bipush (v := (9 : Int32)) hx hb dX7_isTaken_93 (by decide) ?_
                    obtain ⟨hg21, h⟩ := gd_s h
                    refine va_iald (D := E.1) (cl := vwCl) (tys := gT E) hx hb hK hP 1 0 rfl rfl (inB_in hg21) dX7_isTaken_95 ?_
                    refine lv_aload_n hx hb dX7_isTaken_96 rfl (lv_at hl 1 rfl) ?_
                    refine va_get (D := E.1) (cl := vwCl) (ci := 7) (v := .ref a6) (C := RX7) (T := TX7) (N := 14) hx hb hts hiX7 hown hK hP 0 rfl rfl 8 (by decide) hw1 (fun _ h9 => h9) rfl dX7_isTaken_97 ?_
                    refine lv_bipush (v := (9 : Int32)) hx hb dX7_isTaken_100 (by decide) ?_
                    refine va_iald (D := E.1) (cl := vwCl) (tys := gT E) hx hb hK hP 6 0 rfl rfl (inB_in hg21) dX7_isTaken_102 ?_
                    refine lv_icmp_ne (tgt := 110) hx hb dX7_isTaken_103 (by decide) (fun hc22 => ?_) (fun hc22 => ?_)
                    · replace h := g_if hc22 h
                      refine lv_iconst (v := (0 : Int32)) hx hb dX7_isTaken_110 (by decide) ?_
                      refine lv_istore (lv' := [(4, .int (0 : Int32)), (0, .ref a0)]) hx hb dX7_isTaken_111 hl (by decide) rfl (fun ls hl => ?_)
                      refine lv_goto (tgt := 41) hx hb dX7_isTaken_113 (by decide) ?_
                      exact ih_rec7 (0 : Int32) ss15 _ _ _ hP hS (lv_sub hl [0, 1] rfl) h
                    · replace h := g_it hc22 h
                      refine lv_iconst (v := (1 : Int32)) hx hb dX7_isTaken_106 (by decide) ?_
                      refine lv_goto (tgt := 111) hx hb dX7_isTaken_107 (by decide) ?_
                      refine lv_istore (lv' := [(4, .int (1 : Int32)), (0, .ref a0)]) hx hb dX7_isTaken_111 hl (by decide) rfl (fun ls hl => ?_)
                      refine lv_goto (tgt := 41) hx hb dX7_isTaken_113 (by decide) ?_
                      exact ih_rec7 (1 : Int32) ss15 _ _ _ hP hS (lv_sub hl [0, 1] rfl) h
        exact hL_rec7 gFU (1 : Int32) ss5 _ _ _ hP hS (lv_sub hl [0, 1] rfl) h
      · replace h := g_if hc4 h
        refine lv_aload_n hx hb dX7_isTaken_11 rfl (lv_at hl 1 rfl) ?_
        refine va_get (D := E.1) (cl := vwCl) (ci := 7) (v := .ref a6) (C := RX7) (T := TX7) (N := 14) hx hb hts hiX7 hown hK hP 0 rfl rfl 8 (by decide) hw1 (fun _ h9 => h9) rfl dX7_isTaken_12 ?_
        refine lv_iload hx hb dX7_isTaken_15 (lv_at hl 0 rfl) ?_
        refine lv_aload_n hx hb dX7_isTaken_17 rfl (lv_at hl 1 rfl) ?_
        refine va_get (D := E.1) (cl := vwCl) (ci := 7) (v := .ref a1) (C := RX7) (T := TX7) (N := 14) hx hb hts hiX7 hown hK hP 0 rfl rfl 0 (by decide) hw0 (fun _ h9 => h9) rfl dX7_isTaken_18 ?_
        refine lv_iload hx hb dX7_isTaken_21 (lv_at hl 0 rfl) ?_
        obtain ⟨hg31, h⟩ := gd_s h
        refine va_iald (D := E.1) (cl := vwCl) (tys := gT E) hx hb hK hP 1 0 rfl rfl (inB_in hg31) dX7_isTaken_23 ?_
        refine va_iast (D := E.1) (cl := vwCl) (tys := gT E) hx hb hK hP hD hS 6 0 rfl rfl (inB_in hg31) dX7_isTaken_24 (fun H locs hP hD hS => ?_)
        obtain ⟨asd32, e_asd32⟩ : ∃ y : Nat → Int32, y = (upd asd3 (v2).toNatClampNeg (ss (v2).toNatClampNeg)) := ⟨_, rfl⟩
        replace h := jl_s e_asd32 h
        replace hP : va_P E.1 vwCl (wMo E a0 a1 a2 a3 a4 a5 a6 a7 ss bg kp ik pt st tx ln asd32 att dn td fo nb) H := (by rw [e_asd32]; exact hP)
        replace hD : va_D A (wMo E a0 a1 a2 a3 a4 a5 a6 a7 ss bg kp ik pt st tx ln asd32 att dn td fo nb) := gD_same hD rfl
        obtain ⟨v33, e_v33⟩ : ∃ y : Int32, y = (v2 + (1 : Int32)) := ⟨_, rfl⟩
        replace h := jl_s e_v33 h
        refine lv_iinc (v := v33) (lv' := [(4, .int v33), (0, .ref a0), (1, .int p1), (2, .int p2), (3, .int p3)]) hx hb dX7_isTaken_25 hl (k := 0) rfl (by rw [e_v33]; rfl) (by decide) rfl (fun ls hl => ?_)
        refine lv_goto (tgt := 3) hx hb dX7_isTaken_28 (by decide) ?_
        exact ih_rec1 v33 asd32 _ _ _ hP hS (lv_sub hl [0, 1, 2, 3, 4] rfl) h
  exact hL_rec1 gFU (0 : Int32) asd _ _ _ hP hS (lv_sub hl [0, 1, 2, 3, 4] rfl) h
set_option maxHeartbeats 4000000 in
set_option maxRecDepth 100000 in
theorem kX7_books (E : gE) (l : Launch) (a0 a1 a2 a3 a4 a5 a6 a7 : Nat) (ss : Nat → Int32) (bg : Nat → Int32) (kp : Nat → Int32) (ik : Int32) (pt : Nat → Int32) (st : Int32) (tx : Nat → Int32) (ln : Int32) (asd : Nat → Int32) (att : Int32) (dn : Int32) (td : Int32) (fo : Int32) (nb : Nat → Int32) (p1 : Int32) (p2 : Int32) (p3 : Int32) (res : Int32 × (Nat → Int32) × (Nat → Int32)) (h : fX7_books ss asd p1 p2 p3 = some res) : gMI E l yX7_books wsX7_books ({ frames := 6, cells := 0, slots := 0, locals := 141 } : Room) [.ref a0, .int p1, .int p2, .int p3] (wMo E a0 a1 a2 a3 a4 a5 a6 a7 ss bg kp ik pt st tx ln asd att dn td fo nb) (fun res : Int32 × (Nat → Int32) × (Nat → Int32) => (wMo E a0 a1 a2 a3 a4 a5 a6 a7 res.2.1 bg kp ik pt st tx ln res.2.2 att dn td fo nb)) (fun res => res.1) res := by
  refine g_entI (cc := cX7_books) (maxL := 4) (by decide) rfl (Nat.le_of_ble_eq_true rfl) ?_
  intro p e s m args below meth c A Q ls hx hb hml hown hts hK hP hD hS hA hG hret hl
  unfold fX7_books at h
  replace hl : lv_has ls 4 [(0, .ref a0), (1, .int p1), (2, .int p2), (3, .int p3)] := hl
  have hiX7 : ∀ w ∈ wsX70, w ∈ wsX7_books := by decide +kernel
  have hw0 := hts (.fieldLink RX7 7 "GlacierHutModel" "s" "[I") (by decide +kernel)
  refine lv_iload_n hx hb dX7_books_0 rfl (lv_at hl 1 rfl) ?_
  refine lv_iconst (v := (1 : Int32)) hx hb dX7_books_1 (by decide) ?_
  refine lv_bipush (v := (6 : Int32)) hx hb dX7_books_2 (by decide) ?_
  obtain ⟨r1, hc2, h⟩ := bd1_s h
  refine g_callSi (As := [.int p1, .int (1 : Int32), .int (6 : Int32)]) (rest := []) (r := r1) ⟨hx, hb, hml, hown, hts⟩ (kX7_in E l p1 (1 : Int32) (6 : Int32) r1 hc2) (va_cwS 3 hts gX7_books_X7_in rfl rfl rfl (by decide +kernel) ⟨Nat.le_of_ble_eq_true rfl, Nat.le_of_ble_eq_true rfl⟩) hK hP hD hS hA hG hl rfl rfl rfl (Nat.le_of_ble_eq_true rfl) dX7_books_4 (Nat.zero_le _) (Nat.zero_le _) (fun H locs hP hD hS => ?_)
  refine lv_if_eq (tgt := 19) hx hb dX7_books_7 (by decide) (fun hc3 => ?_) (fun hc3 => ?_)
  · replace h := g_it hc3 h
    refine lv_iconst (v := (-1 : Int32)) hx hb dX7_books_19 (by decide) ?_
    exact hret ((-1 : Int32), ss, asd) _ _ _ _ _ (Option.some.inj h) hP hS rfl dX7_books_20
  · replace h := g_if hc3 h
    refine lv_aload_n hx hb dX7_books_10 rfl (lv_at hl 0 rfl) ?_
    refine lv_iload_n hx hb dX7_books_11 rfl (lv_at hl 2 rfl) ?_
    refine lv_iload_n hx hb dX7_books_12 rfl (lv_at hl 3 rfl) ?_
    obtain ⟨r4, hc5, h⟩ := bd1_s h
    refine g_callRi (As := [.int p2, .int p3]) (rest := []) (r := r4) ⟨hx, hb, hml, hown, hts⟩ (kX7_isStay E l a0 a1 a2 a3 a4 a5 a6 a7 ss bg kp ik pt st tx ln asd att dn td fo nb p2 p3 r4 hc5) (cwV 2 hts gX7_books_X7_isStay rfl rfl rfl (by decide +kernel) ⟨Nat.le_of_ble_eq_true rfl, Nat.le_of_ble_eq_true rfl⟩) hK hP hD hS hA hG hl [0, 1, 2, 3, 4, 5, 6, 7] 0 (by decide) rfl (ci := 7) rfl rfl rfl rfl rfl rfl rfl (Nat.le_of_ble_eq_true rfl) dX7_books_13 (Nat.zero_le _) (Nat.zero_le _) (fun H locs hP hD hS => ?_)
    refine lv_if_ne (tgt := 21) hx hb dX7_books_16 (by decide) (fun hc6 => ?_) (fun hc6 => ?_)
    · replace h := g_if hc6 h
      refine lv_aload_n hx hb dX7_books_21 rfl (lv_at hl 0 rfl) ?_
      refine lv_iload_n hx hb dX7_books_22 rfl (lv_at hl 1 rfl) ?_
      refine lv_iload_n hx hb dX7_books_23 rfl (lv_at hl 2 rfl) ?_
      refine lv_iload_n hx hb dX7_books_24 rfl (lv_at hl 3 rfl) ?_
      obtain ⟨r7, ss8, asd9, hc10, h⟩ := bd3_s h
      refine g_callVi (As := [.int p1, .int p2, .int p3]) (rest := []) (r := r7) (ws1 := (wMo E a0 a1 a2 a3 a4 a5 a6 a7 ss8 bg kp ik pt st tx ln asd9 att dn td fo nb)) ⟨hx, hb, hml, hown, hts⟩ (kX7_isTaken E l a0 a1 a2 a3 a4 a5 a6 a7 ss bg kp ik pt st tx ln asd att dn td fo nb p1 p2 p3 (r7, ss8, asd9) hc10) (cwV 3 hts gX7_books_X7_isTaken rfl rfl rfl (by decide +kernel) ⟨Nat.le_of_ble_eq_true rfl, Nat.le_of_ble_eq_true rfl⟩) hK hP hD hS hA hG hl [0, 1, 2, 3, 4, 5, 6, 7] 0 (by decide) rfl (ci := 7) rfl rfl rfl rfl rfl rfl rfl rfl rfl (Nat.le_of_ble_eq_true rfl) dX7_books_25 (Nat.zero_le _) (Nat.zero_le _) (fun H locs hP hD hS => ?_)
      refine lv_if_ne (tgt := 34) hx hb dX7_books_28 (by decide) (fun hc11 => ?_) (fun hc11 => ?_)
      · replace h := g_if hc11 h
        refine lv_aload_n hx hb dX7_books_34 rfl (lv_at hl 0 rfl) ?_
        refine va_get (D := E.1) (cl := vwCl) (ci := 7) (v := .ref a1) (C := RX7) (T := TX7) (N := 14) hx hb hts hiX7 hown hK hP 0 rfl rfl 0 (by decide) hw0 (fun _ h9 => h9) rfl dX7_books_35 ?_
        refine lv_iconst (v := (4 : Int32)) hx hb dX7_books_38 (by decide) ?_
        obtain ⟨hg12, h⟩ := gd_s h
        refine va_iald (D := E.1) (cl := vwCl) (tys := gT E) hx hb hK hP 1 0 rfl rfl (inB_in hg12) dX7_books_39 ?_
        refine lv_bipush (v := (16 : Int32)) hx hb dX7_books_40 (by decide) ?_
        refine lv_icmp_ne (tgt := 48) hx hb dX7_books_42 (by decide) (fun hc13 => ?_) (fun hc13 => ?_)
        · replace h := g_if hc13 h
          refine lv_aload_n hx hb dX7_books_48 rfl (lv_at hl 0 rfl) ?_
          refine lv_iload_n hx hb dX7_books_49 rfl (lv_at hl 1 rfl) ?_
          refine lv_iload_n hx hb dX7_books_50 rfl (lv_at hl 2 rfl) ?_
          refine lv_iload_n hx hb dX7_books_51 rfl (lv_at hl 3 rfl) ?_
          obtain ⟨ss14, hc15, h⟩ := bd1_s h
          refine g_callVv (As := [.int p1, .int p2, .int p3]) (rest := []) (ws1 := (wMo E a0 a1 a2 a3 a4 a5 a6 a7 ss14 bg kp ik pt st tx ln asd9 att dn td fo nb)) ⟨hx, hb, hml, hown, hts⟩ (kX7_adds E l a0 a1 a2 a3 a4 a5 a6 a7 ss8 bg kp ik pt st tx ln asd9 att dn td fo nb p1 p2 p3 ss14 hc15) (cwV 3 hts gX7_books_X7_adds rfl rfl rfl (by decide +kernel) ⟨Nat.le_of_ble_eq_true rfl, Nat.le_of_ble_eq_true rfl⟩) hK hP hD hS hA hG hl [0, 1, 2, 3, 4, 5, 6, 7] 0 (by decide) rfl (ci := 7) rfl rfl rfl rfl rfl rfl rfl rfl (Nat.le_of_ble_eq_true rfl) dX7_books_52 (Nat.zero_le _) (Nat.zero_le _) (fun H locs hP hD hS => ?_)
          refine lv_aload_n hx hb dX7_books_55 rfl (lv_at hl 0 rfl) ?_
          refine va_get (D := E.1) (cl := vwCl) (ci := 7) (v := .ref a1) (C := RX7) (T := TX7) (N := 14) hx hb hts hiX7 hown hK hP 0 rfl rfl 0 (by decide) hw0 (fun _ h9 => h9) rfl dX7_books_56 ?_
          refine lv_iconst (v := (4 : Int32)) hx hb dX7_books_59 (by decide) ?_
          refine va_iald (D := E.1) (cl := vwCl) (tys := gT E) hx hb hK hP 1 0 rfl rfl (inB_in hg12) dX7_books_60 ?_
          refine lv_iconst (v := (1 : Int32)) hx hb dX7_books_61 (by decide) ?_
          refine lv_isub hx hb dX7_books_62 ?_
          exact hret (((ss14 ((4 : Int32)).toNatClampNeg) - (1 : Int32)), ss14, asd9) _ _ _ _ _ (Option.some.inj h) hP hS rfl dX7_books_63
        · replace h := g_it hc13 h
          refine lv_bipush (v := (-3 : Int32)) hx hb dX7_books_45 (by decide) ?_
          exact hret ((-3 : Int32), ss8, asd9) _ _ _ _ _ (Option.some.inj h) hP hS rfl dX7_books_47
      · replace h := g_it hc11 h
        refine lv_bipush (v := (-2 : Int32)) hx hb dX7_books_31 (by decide) ?_
        exact hret ((-2 : Int32), ss8, asd9) _ _ _ _ _ (Option.some.inj h) hP hS rfl dX7_books_33
    · replace h := g_it hc6 h
      refine lv_iconst (v := (-1 : Int32)) hx hb dX7_books_19 (by decide) ?_
      exact hret ((-1 : Int32), ss, asd) _ _ _ _ _ (Option.some.inj h) hP hS rfl dX7_books_20
set_option maxHeartbeats 4000000 in
set_option maxRecDepth 100000 in
theorem kX7_book (E : gE) (l : Launch) (a0 a1 a2 a3 a4 a5 a6 a7 : Nat) (ss : Nat → Int32) (bg : Nat → Int32) (kp : Nat → Int32) (ik : Int32) (pt : Nat → Int32) (st : Int32) (tx : Nat → Int32) (ln : Int32) (asd : Nat → Int32) (att : Int32) (dn : Int32) (td : Int32) (fo : Int32) (nb : Nat → Int32) (p1 : Int32) (p2 : Int32) (p3 : Int32) (res : Int32 × (Nat → Int32) × (Nat → Int32) × (Nat → Int32) × Int32 × (Nat → Int32)) (h : fX7_book ss bg pt st asd p1 p2 p3 = some res) : gMI E l yX7_book wsX7_book ({ frames := 7, cells := 0, slots := 0, locals := 164 } : Room) [.ref a0, .int p1, .int p2, .int p3] (wMo E a0 a1 a2 a3 a4 a5 a6 a7 ss bg kp ik pt st tx ln asd att dn td fo nb) (fun res : Int32 × (Nat → Int32) × (Nat → Int32) × (Nat → Int32) × Int32 × (Nat → Int32) => (wMo E a0 a1 a2 a3 a4 a5 a6 a7 res.2.1 res.2.2.1 kp ik res.2.2.2.1 res.2.2.2.2.1 tx ln res.2.2.2.2.2 att dn td fo nb)) (fun res => res.1) res := by
  refine g_entI (cc := cX7_book) (maxL := 4) (by decide) rfl (Nat.le_of_ble_eq_true rfl) ?_
  intro p e s m args below meth c A Q ls hx hb hml hown hts hK hP hD hS hA hG hret hl
  unfold fX7_book at h
  replace hl : lv_has ls 4 [(0, .ref a0), (1, .int p1), (2, .int p2), (3, .int p3)] := hl
  refine lv_aload_n hx hb dX7_book_0 rfl (lv_at hl 0 rfl) ?_
  obtain ⟨bg1, hc2, h⟩ := bd1_s h
  refine g_callVv (As := []) (rest := []) (ws1 := (wMo E a0 a1 a2 a3 a4 a5 a6 a7 ss bg1 kp ik pt st tx ln asd att dn td fo nb)) ⟨hx, hb, hml, hown, hts⟩ (kX7_begins E l a0 a1 a2 a3 a4 a5 a6 a7 ss bg kp ik pt st tx ln asd att dn td fo nb bg1 hc2) (cwV 0 hts gX7_book_X7_begins rfl rfl rfl (by decide +kernel) ⟨Nat.le_of_ble_eq_true rfl, Nat.le_of_ble_eq_true rfl⟩) hK hP hD hS hA hG hl [0, 1, 2, 3, 4, 5, 6, 7] 0 (by decide) rfl (ci := 7) rfl rfl rfl rfl rfl rfl rfl rfl (Nat.le_of_ble_eq_true rfl) dX7_book_1 (Nat.zero_le _) (Nat.zero_le _) (fun H locs hP hD hS => ?_)
  refine lv_aload_n hx hb dX7_book_4 rfl (lv_at hl 0 rfl) ?_
  refine lv_aload_n hx hb dX7_book_5 rfl (lv_at hl 0 rfl) ?_
  refine lv_iload_n hx hb dX7_book_6 rfl (lv_at hl 1 rfl) ?_
  refine lv_iload_n hx hb dX7_book_7 rfl (lv_at hl 2 rfl) ?_
  refine lv_iload_n hx hb dX7_book_8 rfl (lv_at hl 3 rfl) ?_
  obtain ⟨r3, ss4, asd5, hc6, h⟩ := bd3_s h
  refine g_callVi (As := [.int p1, .int p2, .int p3]) (rest := [.ref a0]) (r := r3) (ws1 := (wMo E a0 a1 a2 a3 a4 a5 a6 a7 ss4 bg1 kp ik pt st tx ln asd5 att dn td fo nb)) ⟨hx, hb, hml, hown, hts⟩ (kX7_books E l a0 a1 a2 a3 a4 a5 a6 a7 ss bg1 kp ik pt st tx ln asd att dn td fo nb p1 p2 p3 (r3, ss4, asd5) hc6) (cwV 3 hts gX7_book_X7_books rfl rfl rfl (by decide +kernel) ⟨Nat.le_of_ble_eq_true rfl, Nat.le_of_ble_eq_true rfl⟩) hK hP hD hS hA hG hl [0, 1, 2, 3, 4, 5, 6, 7] 0 (by decide) rfl (ci := 7) rfl rfl rfl rfl rfl rfl rfl rfl rfl (Nat.le_of_ble_eq_true rfl) dX7_book_9 (Nat.zero_le _) (Nat.zero_le _) (fun H locs hP hD hS => ?_)
  obtain ⟨r7, ss8, pt9, st10, hc11, h⟩ := bd4_s h
  refine g_callVi (As := [.int r3]) (rest := []) (r := r7) (ws1 := (wMo E a0 a1 a2 a3 a4 a5 a6 a7 ss8 bg1 kp ik pt9 st10 tx ln asd5 att dn td fo nb)) ⟨hx, hb, hml, hown, hts⟩ (kX7_acted E l a0 a1 a2 a3 a4 a5 a6 a7 ss4 bg1 kp ik pt st tx ln asd5 att dn td fo nb r3 (r7, ss8, pt9, st10) hc11) (cwV 1 hts gX7_book_X7_acted rfl rfl rfl (by decide +kernel) ⟨Nat.le_of_ble_eq_true rfl, Nat.le_of_ble_eq_true rfl⟩) hK hP hD hS hA hG hl [0, 1, 2, 3, 4, 5, 6, 7] 0 (by decide) rfl (ci := 7) rfl rfl rfl rfl rfl rfl rfl rfl rfl (Nat.le_of_ble_eq_true rfl) dX7_book_12 (Nat.zero_le _) (Nat.zero_le _) (fun H locs hP hD hS => ?_)
  exact hret (r7, ss8, bg1, pt9, st10, asd5) _ _ _ _ _ (Option.some.inj h) hP hS rfl dX7_book_15
set_option maxHeartbeats 4000000 in
set_option maxRecDepth 100000 in
theorem kX7_loads (E : gE) (l : Launch) (a0 a1 a2 a3 a4 a5 a6 a7 : Nat) (ss : Nat → Int32) (bg : Nat → Int32) (kp : Nat → Int32) (ik : Int32) (pt : Nat → Int32) (st : Int32) (tx : Nat → Int32) (ln : Int32) (asd : Nat → Int32) (att : Int32) (dn : Int32) (td : Int32) (fo : Int32) (nb : Nat → Int32) (p1 : Int32) (p2 : Int32) (p3 : Int32) (res : Int32 × (Nat → Int32)) (h : fX7_loads ss p1 p2 p3 = some res) : gMI E l yX7_loads wsX7_loads ({ frames := 1, cells := 0, slots := 0, locals := 22 } : Room) [.ref a0, .int p1, .int p2, .int p3] (wMo E a0 a1 a2 a3 a4 a5 a6 a7 ss bg kp ik pt st tx ln asd att dn td fo nb) (fun res : Int32 × (Nat → Int32) => (wMo E a0 a1 a2 a3 a4 a5 a6 a7 res.2 bg kp ik pt st tx ln asd att dn td fo nb)) (fun res => res.1) res := by
  refine g_entI (cc := cX7_loads) (maxL := 5) (by decide) rfl (Nat.le_of_ble_eq_true rfl) ?_
  intro p e s m args below meth c A Q ls hx hb hml hown hts hK hP hD hS hA hG hret hl
  unfold fX7_loads at h
  replace hl : lv_has ls 5 [(0, .ref a0), (1, .int p1), (2, .int p2), (3, .int p3)] := hl
  have hiX7 : ∀ w ∈ wsX70, w ∈ wsX7_loads := by decide +kernel
  have hw0 := hts (.fieldLink RX7 7 "GlacierHutModel" "s" "[I") (by decide +kernel)
  refine lv_iload_n hx hb dX7_loads_0 rfl (lv_at hl 1 rfl) ?_
  refine lv_iconst (v := (0 : Int32)) hx hb dX7_loads_1 (by decide) ?_
  refine lv_iconst (v := (2 : Int32)) hx hb dX7_loads_2 (by decide) ?_
  obtain ⟨r1, hc2, h⟩ := bd1_s h
  refine g_callSi (As := [.int p1, .int (0 : Int32), .int (2 : Int32)]) (rest := []) (r := r1) ⟨hx, hb, hml, hown, hts⟩ (kX7_in E l p1 (0 : Int32) (2 : Int32) r1 hc2) (va_cwS 3 hts gX7_loads_X7_in rfl rfl rfl (by decide +kernel) ⟨Nat.le_of_ble_eq_true rfl, Nat.le_of_ble_eq_true rfl⟩) hK hP hD hS hA hG hl rfl rfl rfl (Nat.le_of_ble_eq_true rfl) dX7_loads_3 (Nat.zero_le _) (Nat.zero_le _) (fun H locs hP hD hS => ?_)
  refine lv_if_eq (tgt := 31) hx hb dX7_loads_6 (by decide) (fun hc3 => ?_) (fun hc3 => ?_)
  · replace h := g_it hc3 h
    refine lv_iconst (v := (-1 : Int32)) hx hb dX7_loads_31 (by decide) ?_
    exact hret ((-1 : Int32), ss) _ _ _ _ _ (Option.some.inj h) hP hS rfl dX7_loads_32
  · replace h := g_if hc3 h
    refine lv_iload_n hx hb dX7_loads_9 rfl (lv_at hl 2 rfl) ?_
    refine lv_iconst (v := (1 : Int32)) hx hb dX7_loads_10 (by decide) ?_
    refine lv_sipush (v := (999 : Int32)) hx hb dX7_loads_11 (by decide) ?_
    obtain ⟨r4, hc5, h⟩ := bd1_s h
    refine g_callSi (As := [.int p2, .int (1 : Int32), .int (999 : Int32)]) (rest := []) (r := r4) ⟨hx, hb, hml, hown, hts⟩ (kX7_in E l p2 (1 : Int32) (999 : Int32) r4 hc5) (va_cwS 3 hts gX7_loads_X7_in rfl rfl rfl (by decide +kernel) ⟨Nat.le_of_ble_eq_true rfl, Nat.le_of_ble_eq_true rfl⟩) hK hP hD hS hA hG hl rfl rfl rfl (Nat.le_of_ble_eq_true rfl) dX7_loads_14 (Nat.zero_le _) (Nat.zero_le _) (fun H locs hP hD hS => ?_)
    refine lv_if_eq (tgt := 31) hx hb dX7_loads_17 (by decide) (fun hc6 => ?_) (fun hc6 => ?_)
    · replace h := g_it hc6 h
      refine lv_iconst (v := (-1 : Int32)) hx hb dX7_loads_31 (by decide) ?_
      exact hret ((-1 : Int32), ss) _ _ _ _ _ (Option.some.inj h) hP hS rfl dX7_loads_32
    · replace h := g_if hc6 h
      refine lv_iload_n hx hb dX7_loads_20 rfl (lv_at hl 3 rfl) ?_
      refine lv_iconst (v := (0 : Int32)) hx hb dX7_loads_21 (by decide) ?_
      refine lv_sipush (v := (365 : Int32)) hx hb dX7_loads_22 (by decide) ?_
      obtain ⟨r7, hc8, h⟩ := bd1_s h
      refine g_callSi (As := [.int p3, .int (0 : Int32), .int (365 : Int32)]) (rest := []) (r := r7) ⟨hx, hb, hml, hown, hts⟩ (kX7_in E l p3 (0 : Int32) (365 : Int32) r7 hc8) (va_cwS 3 hts gX7_loads_X7_in rfl rfl rfl (by decide +kernel) ⟨Nat.le_of_ble_eq_true rfl, Nat.le_of_ble_eq_true rfl⟩) hK hP hD hS hA hG hl rfl rfl rfl (Nat.le_of_ble_eq_true rfl) dX7_loads_25 (Nat.zero_le _) (Nat.zero_le _) (fun H locs hP hD hS => ?_)
      refine lv_if_ne (tgt := 33) hx hb dX7_loads_28 (by decide) (fun hc9 => ?_) (fun hc9 => ?_)
      · replace h := g_if hc9 h
        refine lv_aload_n hx hb dX7_loads_33 rfl (lv_at hl 0 rfl) ?_
        refine va_get (D := E.1) (cl := vwCl) (ci := 7) (v := .ref a1) (C := RX7) (T := TX7) (N := 14) hx hb hts hiX7 hown hK hP 0 rfl rfl 0 (by decide) hw0 (fun _ h9 => h9) rfl dX7_loads_34 ?_
        refine lv_iconst (v := (3 : Int32)) hx hb dX7_loads_37 (by decide) ?_
        obtain ⟨hg10, h⟩ := gd_s h
        refine va_iald (D := E.1) (cl := vwCl) (tys := gT E) hx hb hK hP 1 0 rfl rfl (inB_in hg10) dX7_loads_38 ?_
        refine lv_bipush (v := (6 : Int32)) hx hb dX7_loads_39 (by decide) ?_
        refine lv_icmp_ne (tgt := 47) hx hb dX7_loads_41 (by decide) (fun hc11 => ?_) (fun hc11 => ?_)
        · replace h := g_if hc11 h
          refine lv_bipush (v := (23 : Int32)) hx hb dX7_loads_47 (by decide) ?_
          refine lv_iconst (v := (3 : Int32)) hx hb dX7_loads_49 (by decide) ?_
          refine lv_aload_n hx hb dX7_loads_50 rfl (lv_at hl 0 rfl) ?_
          refine va_get (D := E.1) (cl := vwCl) (ci := 7) (v := .ref a1) (C := RX7) (T := TX7) (N := 14) hx hb hts hiX7 hown hK hP 0 rfl rfl 0 (by decide) hw0 (fun _ h9 => h9) rfl dX7_loads_51 ?_
          refine lv_iconst (v := (3 : Int32)) hx hb dX7_loads_54 (by decide) ?_
          refine va_iald (D := E.1) (cl := vwCl) (tys := gT E) hx hb hK hP 1 0 rfl rfl (inB_in hg10) dX7_loads_55 ?_
          refine lv_imul hx hb dX7_loads_56 ?_
          refine lv_iadd hx hb dX7_loads_57 ?_
          refine lv_topi (fun v12 e_v12 => ?_)
          replace h := jl_s e_v12 h
          refine lv_istore (lv' := [(4, .int v12), (0, .ref a0), (1, .int p1), (2, .int p2), (3, .int p3)]) hx hb dX7_loads_58 hl (by decide) rfl (fun ls hl => ?_)
          refine lv_aload_n hx hb dX7_loads_60 rfl (lv_at hl 1 rfl) ?_
          refine va_get (D := E.1) (cl := vwCl) (ci := 7) (v := .ref a1) (C := RX7) (T := TX7) (N := 14) hx hb hts hiX7 hown hK hP 0 rfl rfl 0 (by decide) hw0 (fun _ h9 => h9) rfl dX7_loads_61 ?_
          refine lv_iload hx hb dX7_loads_64 (lv_at hl 0 rfl) ?_
          refine lv_iload_n hx hb dX7_loads_66 rfl (lv_at hl 2 rfl) ?_
          obtain ⟨hg13, h⟩ := gd_s h
          refine va_iast (D := E.1) (cl := vwCl) (tys := gT E) hx hb hK hP hD hS 1 0 rfl rfl (inB_in hg13) dX7_loads_67 (fun H locs hP hD hS => ?_)
          obtain ⟨ss14, e_ss14⟩ : ∃ y : Nat → Int32, y = (upd ss (v12).toNatClampNeg p1) := ⟨_, rfl⟩
          replace h := jl_s e_ss14 h
          replace hP : va_P E.1 vwCl (wMo E a0 a1 a2 a3 a4 a5 a6 a7 ss14 bg kp ik pt st tx ln asd att dn td fo nb) H := (by rw [e_ss14]; exact hP)
          replace hD : va_D A (wMo E a0 a1 a2 a3 a4 a5 a6 a7 ss14 bg kp ik pt st tx ln asd att dn td fo nb) := gD_same hD rfl
          refine lv_aload_n hx hb dX7_loads_68 rfl (lv_at hl 1 rfl) ?_
          refine va_get (D := E.1) (cl := vwCl) (ci := 7) (v := .ref a1) (C := RX7) (T := TX7) (N := 14) hx hb hts hiX7 hown hK hP 0 rfl rfl 0 (by decide) hw0 (fun _ h9 => h9) rfl dX7_loads_69 ?_
          refine lv_iload hx hb dX7_loads_72 (lv_at hl 0 rfl) ?_
          refine lv_iconst (v := (1 : Int32)) hx hb dX7_loads_74 (by decide) ?_
          refine lv_iadd hx hb dX7_loads_75 ?_
          refine lv_iload_n hx hb dX7_loads_76 rfl (lv_at hl 3 rfl) ?_
          obtain ⟨hg15, h⟩ := gd_s h
          refine va_iast (D := E.1) (cl := vwCl) (tys := gT E) hx hb hK hP hD hS 1 0 rfl rfl (inB_in hg15) dX7_loads_77 (fun H locs hP hD hS => ?_)
          obtain ⟨ss16, e_ss16⟩ : ∃ y : Nat → Int32, y = (upd ss14 ((v12 + (1 : Int32))).toNatClampNeg p2) := ⟨_, rfl⟩
          replace h := jl_s e_ss16 h
          replace hP : va_P E.1 vwCl (wMo E a0 a1 a2 a3 a4 a5 a6 a7 ss16 bg kp ik pt st tx ln asd att dn td fo nb) H := (by rw [e_ss16]; exact hP)
          replace hD : va_D A (wMo E a0 a1 a2 a3 a4 a5 a6 a7 ss16 bg kp ik pt st tx ln asd att dn td fo nb) := gD_same hD rfl
          refine lv_aload_n hx hb dX7_loads_78 rfl (lv_at hl 1 rfl) ?_
          refine va_get (D := E.1) (cl := vwCl) (ci := 7) (v := .ref a1) (C := RX7) (T := TX7) (N := 14) hx hb hts hiX7 hown hK hP 0 rfl rfl 0 (by decide) hw0 (fun _ h9 => h9) rfl dX7_loads_79 ?_
          refine lv_iload hx hb dX7_loads_82 (lv_at hl 0 rfl) ?_
          refine lv_iconst (v := (2 : Int32)) hx hb dX7_loads_84 (by decide) ?_
          refine lv_iadd hx hb dX7_loads_85 ?_
          refine lv_iload_n hx hb dX7_loads_86 rfl (lv_at hl 4 rfl) ?_
          obtain ⟨hg17, h⟩ := gd_s h
          refine va_iast (D := E.1) (cl := vwCl) (tys := gT E) hx hb hK hP hD hS 1 0 rfl rfl (inB_in hg17) dX7_loads_87 (fun H locs hP hD hS => ?_)
          obtain ⟨ss18, e_ss18⟩ : ∃ y : Nat → Int32, y = (upd ss16 ((v12 + (2 : Int32))).toNatClampNeg p3) := ⟨_, rfl⟩
          replace h := jl_s e_ss18 h
          replace hP : va_P E.1 vwCl (wMo E a0 a1 a2 a3 a4 a5 a6 a7 ss18 bg kp ik pt st tx ln asd att dn td fo nb) H := (by rw [e_ss18]; exact hP)
          replace hD : va_D A (wMo E a0 a1 a2 a3 a4 a5 a6 a7 ss18 bg kp ik pt st tx ln asd att dn td fo nb) := gD_same hD rfl
          refine lv_aload_n hx hb dX7_loads_88 rfl (lv_at hl 1 rfl) ?_
          refine va_get (D := E.1) (cl := vwCl) (ci := 7) (v := .ref a1) (C := RX7) (T := TX7) (N := 14) hx hb hts hiX7 hown hK hP 0 rfl rfl 0 (by decide) hw0 (fun _ h9 => h9) rfl dX7_loads_89 ?_
          refine lv_iconst (v := (3 : Int32)) hx hb dX7_loads_92 (by decide) ?_
          refine lv_dup2_11 hx hb dX7_loads_93 rfl rfl ?_
          refine va_iald (D := E.1) (cl := vwCl) (tys := gT E) hx hb hK hP 1 0 rfl rfl (inB_in hg10) dX7_loads_94 ?_
          refine lv_iconst (v := (1 : Int32)) hx hb dX7_loads_95 (by decide) ?_
          refine lv_iadd hx hb dX7_loads_96 ?_
          refine va_iast (D := E.1) (cl := vwCl) (tys := gT E) hx hb hK hP hD hS 1 0 rfl rfl (inB_in hg10) dX7_loads_97 (fun H locs hP hD hS => ?_)
          obtain ⟨ss19, e_ss19⟩ : ∃ y : Nat → Int32, y = (upd ss18 ((3 : Int32)).toNatClampNeg ((ss18 ((3 : Int32)).toNatClampNeg) + (1 : Int32))) := ⟨_, rfl⟩
          replace h := jl_s e_ss19 h
          replace hP : va_P E.1 vwCl (wMo E a0 a1 a2 a3 a4 a5 a6 a7 ss19 bg kp ik pt st tx ln asd att dn td fo nb) H := (by rw [e_ss19]; exact hP)
          replace hD : va_D A (wMo E a0 a1 a2 a3 a4 a5 a6 a7 ss19 bg kp ik pt st tx ln asd att dn td fo nb) := gD_same hD rfl
          refine lv_aload_n hx hb dX7_loads_98 rfl (lv_at hl 1 rfl) ?_
          refine va_get (D := E.1) (cl := vwCl) (ci := 7) (v := .ref a1) (C := RX7) (T := TX7) (N := 14) hx hb hts hiX7 hown hK hP 0 rfl rfl 0 (by decide) hw0 (fun _ h9 => h9) rfl dX7_loads_99 ?_
          refine lv_iconst (v := (3 : Int32)) hx hb dX7_loads_102 (by decide) ?_
          refine va_iald (D := E.1) (cl := vwCl) (tys := gT E) hx hb hK hP 1 0 rfl rfl (inB_in hg10) dX7_loads_103 ?_
          exact hret ((ss19 ((3 : Int32)).toNatClampNeg), ss19) _ _ _ _ _ (Option.some.inj h) hP hS rfl dX7_loads_104
        · replace h := g_it hc11 h
          refine lv_bipush (v := (-3 : Int32)) hx hb dX7_loads_44 (by decide) ?_
          exact hret ((-3 : Int32), ss) _ _ _ _ _ (Option.some.inj h) hP hS rfl dX7_loads_46
      · replace h := g_it hc9 h
        refine lv_iconst (v := (-1 : Int32)) hx hb dX7_loads_31 (by decide) ?_
        exact hret ((-1 : Int32), ss) _ _ _ _ _ (Option.some.inj h) hP hS rfl dX7_loads_32
set_option maxHeartbeats 4000000 in
set_option maxRecDepth 100000 in
theorem kX7_stormsAhead (E : gE) (l : Launch) (a0 a1 a2 a3 a4 a5 a6 a7 : Nat) (ss : Nat → Int32) (bg : Nat → Int32) (kp : Nat → Int32) (ik : Int32) (pt : Nat → Int32) (st : Int32) (tx : Nat → Int32) (ln : Int32) (asd : Nat → Int32) (att : Int32) (dn : Int32) (td : Int32) (fo : Int32) (nb : Nat → Int32)  (res : Int32) (h : fX7_stormsAhead ss  = some res) : gMI E l yX7_stormsAhead wsX7_stormsAhead ({ frames := 0, cells := 0, slots := 0, locals := 0 } : Room) [.ref a0] (wMo E a0 a1 a2 a3 a4 a5 a6 a7 ss bg kp ik pt st tx ln asd att dn td fo nb) (fun res : Int32 => (wMo E a0 a1 a2 a3 a4 a5 a6 a7 ss bg kp ik pt st tx ln asd att dn td fo nb)) (fun res => res) res := by
  refine g_entI (cc := cX7_stormsAhead) (maxL := 3) (by decide) rfl (Nat.le_of_ble_eq_true rfl) ?_
  intro p e s m args below meth c A Q ls hx hb hml hown hts hK hP hD hS hA hG hret hl
  unfold fX7_stormsAhead at h
  replace hl : lv_has ls 3 [(0, .ref a0)] := hl
  have hiX7 : ∀ w ∈ wsX70, w ∈ wsX7_stormsAhead := by decide +kernel
  have hw0 := hts (.fieldLink RX7 7 "GlacierHutModel" "s" "[I") (by decide +kernel)
  refine lv_iconst (v := (0 : Int32)) hx hb dX7_stormsAhead_0 (by decide) ?_
  refine lv_istore_n (lv' := [(1, .int (0 : Int32)), (0, .ref a0)]) hx hb dX7_stormsAhead_1 rfl hl (by decide) rfl (fun ls hl => ?_)
  refine lv_aload_n hx hb dX7_stormsAhead_2 rfl (lv_at hl 1 rfl) ?_
  refine va_get (D := E.1) (cl := vwCl) (ci := 7) (v := .ref a1) (C := RX7) (T := TX7) (N := 14) hx hb hts hiX7 hown hK hP 0 rfl rfl 0 (by decide) hw0 (fun _ h9 => h9) rfl dX7_stormsAhead_3 ?_
  refine lv_iconst (v := (0 : Int32)) hx hb dX7_stormsAhead_6 (by decide) ?_
  obtain ⟨hg1, h⟩ := gd_s h
  refine va_iald (D := E.1) (cl := vwCl) (tys := gT E) hx hb hK hP 1 0 rfl rfl (inB_in hg1) dX7_stormsAhead_7 ?_
  refine lv_topi (fun v2 e_v2 => ?_)
  replace h := jl_s e_v2 h
  refine lv_istore_n (lv' := [(2, .int v2), (1, .int (0 : Int32)), (0, .ref a0)]) hx hb dX7_stormsAhead_8 rfl hl (by decide) rfl (fun ls hl => ?_)
  refine gl2_e h (fun S_rec3 hS_rec3 h => ?_)
  have hL_rec3 : ∀ (nF : Nat) (v4 : Int32) (v5 : Int32) (H : Heap) (locs : List Loc) (ls : Array Slot), va_P E.1 vwCl (wMo E a0 a1 a2 a3 a4 a5 a6 a7 ss bg kp ik pt st tx ln asd att dn td fo nb) H → va_S A s.heap H locs → lv_has ls 3 [(2, .int v4), (1, .int v5), (0, .ref a0)] → gl2 S_rec3 nF v4 v5 = some res → W p l e ({ frames := 0, cells := 0, slots := 0, locals := 0 } : Room) s m args below meth c H locs 0 0 Q (F0 m 9 ls []) := by
    intro nF
    induction nF with
    | zero => intro v4 v5 H locs ls hP hS hl h; exact gl2_z h
    | succ nF ih_rec3 =>
      intro v4 v5 H locs ls hP hS hl h
      replace hD : va_D A (wMo E a0 a1 a2 a3 a4 a5 a6 a7 ss bg kp ik pt st tx ln asd att dn td fo nb) := gD_same hD rfl
      replace h : S_rec3 (gl2 S_rec3 nF) v4 v5 = some res := h
      generalize gl2 S_rec3 nF = rec3 at h ih_rec3
      subst hS_rec3
      unfold sX7_stormsAhead_rec3 at h
      refine lv_iload_n hx hb dX7_stormsAhead_9 rfl (lv_at hl 0 rfl) ?_
      refine lv_sipush (v := (396 : Int32)) hx hb dX7_stormsAhead_10 (by decide) ?_
      refine lv_icmp_ge (tgt := 35) hx hb dX7_stormsAhead_13 (by decide) (fun hc6 => ?_) (fun hc6 => ?_)
      · replace h := g_it hc6 h
        refine lv_iload_n hx hb dX7_stormsAhead_35 rfl (lv_at hl 1 rfl) ?_
        exact hret v5 _ _ _ _ _ (Option.some.inj h) hP hS rfl dX7_stormsAhead_36
      · replace h := g_if hc6 h
        refine lv_iload_n hx hb dX7_stormsAhead_16 rfl (lv_at hl 1 rfl) ?_
        refine lv_aload_n hx hb dX7_stormsAhead_17 rfl (lv_at hl 2 rfl) ?_
        refine va_get (D := E.1) (cl := vwCl) (ci := 7) (v := .ref a1) (C := RX7) (T := TX7) (N := 14) hx hb hts hiX7 hown hK hP 0 rfl rfl 0 (by decide) hw0 (fun _ h9 => h9) rfl dX7_stormsAhead_18 ?_
        refine lv_sipush (v := (203 : Int32)) hx hb dX7_stormsAhead_21 (by decide) ?_
        refine lv_iload_n hx hb dX7_stormsAhead_24 rfl (lv_at hl 0 rfl) ?_
        refine lv_iadd hx hb dX7_stormsAhead_25 ?_
        obtain ⟨hg7, h⟩ := gd_s h
        refine va_iald (D := E.1) (cl := vwCl) (tys := gT E) hx hb hK hP 1 0 rfl rfl (inB_in hg7) dX7_stormsAhead_26 ?_
        refine lv_iadd hx hb dX7_stormsAhead_27 ?_
        refine lv_topi (fun v8 e_v8 => ?_)
        replace h := jl_s e_v8 h
        refine lv_istore_n (lv' := [(1, .int v8), (2, .int v4), (0, .ref a0)]) hx hb dX7_stormsAhead_28 rfl hl (by decide) rfl (fun ls hl => ?_)
        obtain ⟨v9, e_v9⟩ : ∃ y : Int32, y = (v4 + (1 : Int32)) := ⟨_, rfl⟩
        replace h := jl_s e_v9 h
        refine lv_iinc (v := v9) (lv' := [(2, .int v9), (1, .int v8), (0, .ref a0)]) hx hb dX7_stormsAhead_29 hl (k := 1) rfl (by rw [e_v9]; rfl) (by decide) rfl (fun ls hl => ?_)
        refine lv_goto (tgt := 9) hx hb dX7_stormsAhead_32 (by decide) ?_
        exact ih_rec3 v9 v8 _ _ _ hP hS (lv_sub hl [0, 1, 2] rfl) h
  exact hL_rec3 gFU v2 (0 : Int32) _ _ _ hP hS (lv_sub hl [0, 1, 2] rfl) h
set_option maxHeartbeats 4000000 in
set_option maxRecDepth 100000 in
theorem kX7_storms (E : gE) (l : Launch) (a0 a1 a2 a3 a4 a5 a6 a7 : Nat) (ss : Nat → Int32) (bg : Nat → Int32) (kp : Nat → Int32) (ik : Int32) (pt : Nat → Int32) (st : Int32) (tx : Nat → Int32) (ln : Int32) (asd : Nat → Int32) (att : Int32) (dn : Int32) (td : Int32) (fo : Int32) (nb : Nat → Int32) (p1 : Int32) (p2 : Int32) (res : Int32 × (Nat → Int32)) (h : fX7_storms ss p1 p2 = some res) : gMI E l yX7_storms wsX7_storms ({ frames := 1, cells := 0, slots := 0, locals := 22 } : Room) [.ref a0, .int p1, .int p2] (wMo E a0 a1 a2 a3 a4 a5 a6 a7 ss bg kp ik pt st tx ln asd att dn td fo nb) (fun res : Int32 × (Nat → Int32) => (wMo E a0 a1 a2 a3 a4 a5 a6 a7 res.2 bg kp ik pt st tx ln asd att dn td fo nb)) (fun res => res.1) res := by
  refine g_entI (cc := cX7_storms) (maxL := 4) (by decide) rfl (Nat.le_of_ble_eq_true rfl) ?_
  intro p e s m args below meth c A Q ls hx hb hml hown hts hK hP hD hS hA hG hret hl
  unfold fX7_storms at h
  replace hl : lv_has ls 4 [(0, .ref a0), (1, .int p1), (2, .int p2)] := hl
  have hiX7 : ∀ w ∈ wsX70, w ∈ wsX7_storms := by decide +kernel
  have hw0 := hts (.fieldLink RX7 7 "GlacierHutModel" "s" "[I") (by decide +kernel)
  refine lv_iload_n hx hb dX7_storms_0 rfl (lv_at hl 1 rfl) ?_
  refine lv_aload_n hx hb dX7_storms_1 rfl (lv_at hl 0 rfl) ?_
  refine va_get (D := E.1) (cl := vwCl) (ci := 7) (v := .ref a1) (C := RX7) (T := TX7) (N := 14) hx hb hts hiX7 hown hK hP 0 rfl rfl 0 (by decide) hw0 (fun _ h9 => h9) rfl dX7_storms_2 ?_
  refine lv_iconst (v := (0 : Int32)) hx hb dX7_storms_5 (by decide) ?_
  obtain ⟨hg1, h⟩ := gd_s h
  refine va_iald (D := E.1) (cl := vwCl) (tys := gT E) hx hb hK hP 1 0 rfl rfl (inB_in hg1) dX7_storms_6 ?_
  refine lv_sipush (v := (365 : Int32)) hx hb dX7_storms_7 (by decide) ?_
  obtain ⟨r2, hc3, h⟩ := bd1_s h
  refine g_callSi (As := [.int p1, .int (ss ((0 : Int32)).toNatClampNeg), .int (365 : Int32)]) (rest := []) (r := r2) ⟨hx, hb, hml, hown, hts⟩ (kX7_in E l p1 (ss ((0 : Int32)).toNatClampNeg) (365 : Int32) r2 hc3) (va_cwS 3 hts gX7_storms_X7_in rfl rfl rfl (by decide +kernel) ⟨Nat.le_of_ble_eq_true rfl, Nat.le_of_ble_eq_true rfl⟩) hK hP hD hS hA hG hl rfl rfl rfl (Nat.le_of_ble_eq_true rfl) dX7_storms_10 (Nat.zero_le _) (Nat.zero_le _) (fun H locs hP hD hS => ?_)
  refine lv_if_eq (tgt := 26) hx hb dX7_storms_13 (by decide) (fun hc4 => ?_) (fun hc4 => ?_)
  · replace h := g_it hc4 h
    refine lv_iconst (v := (-1 : Int32)) hx hb dX7_storms_26 (by decide) ?_
    exact hret ((-1 : Int32), ss) _ _ _ _ _ (Option.some.inj h) hP hS rfl dX7_storms_27
  · replace h := g_if hc4 h
    refine lv_iload_n hx hb dX7_storms_16 rfl (lv_at hl 2 rfl) ?_
    refine lv_iconst (v := (1 : Int32)) hx hb dX7_storms_17 (by decide) ?_
    refine lv_bipush (v := (30 : Int32)) hx hb dX7_storms_18 (by decide) ?_
    obtain ⟨r5, hc6, h⟩ := bd1_s h
    refine g_callSi (As := [.int p2, .int (1 : Int32), .int (30 : Int32)]) (rest := []) (r := r5) ⟨hx, hb, hml, hown, hts⟩ (kX7_in E l p2 (1 : Int32) (30 : Int32) r5 hc6) (va_cwS 3 hts gX7_storms_X7_in rfl rfl rfl (by decide +kernel) ⟨Nat.le_of_ble_eq_true rfl, Nat.le_of_ble_eq_true rfl⟩) hK hP hD hS hA hG hl rfl rfl rfl (Nat.le_of_ble_eq_true rfl) dX7_storms_20 (Nat.zero_le _) (Nat.zero_le _) (fun H locs hP hD hS => ?_)
    refine lv_if_ne (tgt := 28) hx hb dX7_storms_23 (by decide) (fun hc7 => ?_) (fun hc7 => ?_)
    · replace h := g_if hc7 h
      refine lv_iconst (v := (0 : Int32)) hx hb dX7_storms_28 (by decide) ?_
      refine lv_istore_n (lv' := [(3, .int (0 : Int32)), (0, .ref a0), (1, .int p1), (2, .int p2)]) hx hb dX7_storms_29 rfl hl (by decide) rfl (fun ls hl => ?_)
      refine gl2_e h (fun S_rec8 hS_rec8 h => ?_)
      have hL_rec8 : ∀ (nF : Nat) (v9 : Int32) (ss10 : Nat → Int32) (H : Heap) (locs : List Loc) (ls : Array Slot), va_P E.1 vwCl (wMo E a0 a1 a2 a3 a4 a5 a6 a7 ss10 bg kp ik pt st tx ln asd att dn td fo nb) H → va_S A s.heap H locs → lv_has ls 4 [(3, .int v9), (0, .ref a0), (1, .int p1), (2, .int p2)] → gl2 S_rec8 nF v9 ss10 = some res → W p l e ({ frames := 1, cells := 0, slots := 0, locals := 22 } : Room) s m args below meth c H locs 0 0 Q (F0 m 30 ls []) := by
        intro nF
        induction nF with
        | zero => intro v9 ss10 H locs ls hP hS hl h; exact gl2_z h
        | succ nF ih_rec8 =>
          intro v9 ss10 H locs ls hP hS hl h
          replace hD : va_D A (wMo E a0 a1 a2 a3 a4 a5 a6 a7 ss10 bg kp ik pt st tx ln asd att dn td fo nb) := gD_same hD rfl
          replace h : S_rec8 (gl2 S_rec8 nF) v9 ss10 = some res := h
          generalize gl2 S_rec8 nF = rec8 at h ih_rec8
          subst hS_rec8
          unfold sX7_storms_rec8 at h
          refine lv_iload_n hx hb dX7_storms_30 rfl (lv_at hl 0 rfl) ?_
          refine lv_iload_n hx hb dX7_storms_31 rfl (lv_at hl 3 rfl) ?_
          refine lv_icmp_ge (tgt := 54) hx hb dX7_storms_32 (by decide) (fun hc11 => ?_) (fun hc11 => ?_)
          · replace h := g_it hc11 h
            refine lv_aload_n hx hb dX7_storms_54 rfl (lv_at hl 1 rfl) ?_
            obtain ⟨r12, hc13, h⟩ := bd1_s h
            refine g_callRi (As := []) (rest := []) (r := r12) ⟨hx, hb, hml, hown, hts⟩ (kX7_stormsAhead E l a0 a1 a2 a3 a4 a5 a6 a7 ss10 bg kp ik pt st tx ln asd att dn td fo nb r12 hc13) (cwV 0 hts gX7_storms_X7_stormsAhead rfl rfl rfl (by decide +kernel) ⟨Nat.le_of_ble_eq_true rfl, Nat.le_of_ble_eq_true rfl⟩) hK hP hD hS hA hG hl [0, 1, 2, 3, 4, 5, 6, 7] 0 (by decide) rfl (ci := 7) rfl rfl rfl rfl rfl rfl rfl (Nat.le_of_ble_eq_true rfl) dX7_storms_55 (Nat.zero_le _) (Nat.zero_le _) (fun H locs hP hD hS => ?_)
            refine lv_istore_n (lv' := [(3, .int r12), (0, .ref a0), (1, .int p1), (2, .int p2)]) hx hb dX7_storms_58 rfl hl (by decide) rfl (fun ls hl => ?_)
            refine lv_iload_n hx hb dX7_storms_59 rfl (lv_at hl 0 rfl) ?_
            refine lv_bipush (v := (40 : Int32)) hx hb dX7_storms_60 (by decide) ?_
            refine lv_icmp_le (tgt := 70) hx hb dX7_storms_62 (by decide) (fun hc14 => ?_) (fun hc14 => ?_)
            · replace h := g_it hc14 h
              refine lv_iload_n hx hb dX7_storms_70 rfl (lv_at hl 0 rfl) ?_
              exact hret (r12, ss10) _ _ _ _ _ (Option.some.inj h) hP hS rfl dX7_storms_71
            · replace h := g_if hc14 h
              refine lv_bipush (v := (-3 : Int32)) hx hb dX7_storms_65 (by decide) ?_
              refine lv_goto (tgt := 71) hx hb dX7_storms_67 (by decide) ?_
              exact hret ((-3 : Int32), ss10) _ _ _ _ _ (Option.some.inj h) hP hS rfl dX7_storms_71
          · replace h := g_if hc11 h
            refine lv_aload_n hx hb dX7_storms_35 rfl (lv_at hl 1 rfl) ?_
            refine va_get (D := E.1) (cl := vwCl) (ci := 7) (v := .ref a1) (C := RX7) (T := TX7) (N := 14) hx hb hts hiX7 hown hK hP 0 rfl rfl 0 (by decide) hw0 (fun _ h9 => h9) rfl dX7_storms_36 ?_
            refine lv_sipush (v := (203 : Int32)) hx hb dX7_storms_39 (by decide) ?_
            refine lv_iload_n hx hb dX7_storms_42 rfl (lv_at hl 2 rfl) ?_
            refine lv_iadd hx hb dX7_storms_43 ?_
            refine lv_iload_n hx hb dX7_storms_44 rfl (lv_at hl 0 rfl) ?_
            refine lv_iadd hx hb dX7_storms_45 ?_
            refine lv_iconst (v := (1 : Int32)) hx hb dX7_storms_46 (by decide) ?_
            obtain ⟨hg15, h⟩ := gd_s h
            refine va_iast (D := E.1) (cl := vwCl) (tys := gT E) hx hb hK hP hD hS 1 0 rfl rfl (inB_in hg15) dX7_storms_47 (fun H locs hP hD hS => ?_)
            obtain ⟨ss16, e_ss16⟩ : ∃ y : Nat → Int32, y = (upd ss10 ((((203 : Int32) + p1) + v9)).toNatClampNeg (1 : Int32)) := ⟨_, rfl⟩
            replace h := jl_s e_ss16 h
            replace hP : va_P E.1 vwCl (wMo E a0 a1 a2 a3 a4 a5 a6 a7 ss16 bg kp ik pt st tx ln asd att dn td fo nb) H := (by rw [e_ss16]; exact hP)
            replace hD : va_D A (wMo E a0 a1 a2 a3 a4 a5 a6 a7 ss16 bg kp ik pt st tx ln asd att dn td fo nb) := gD_same hD rfl
            obtain ⟨v17, e_v17⟩ : ∃ y : Int32, y = (v9 + (1 : Int32)) := ⟨_, rfl⟩
            replace h := jl_s e_v17 h
            refine lv_iinc (v := v17) (lv' := [(3, .int v17), (0, .ref a0), (1, .int p1), (2, .int p2)]) hx hb dX7_storms_48 hl (k := 0) rfl (by rw [e_v17]; rfl) (by decide) rfl (fun ls hl => ?_)
            refine lv_goto (tgt := 30) hx hb dX7_storms_51 (by decide) ?_
            exact ih_rec8 v17 ss16 _ _ _ hP hS (lv_sub hl [0, 1, 2, 3] rfl) h
      exact hL_rec8 gFU (0 : Int32) ss _ _ _ hP hS (lv_sub hl [0, 1, 2, 3] rfl) h
    · replace h := g_it hc7 h
      refine lv_iconst (v := (-1 : Int32)) hx hb dX7_storms_26 (by decide) ?_
      exact hret ((-1 : Int32), ss) _ _ _ _ _ (Option.some.inj h) hP hS rfl dX7_storms_27
set_option maxHeartbeats 4000000 in
set_option maxRecDepth 100000 in
theorem kX7_isParty (E : gE) (l : Launch) (a0 a1 a2 a3 a4 a5 a6 a7 : Nat) (ss : Nat → Int32) (bg : Nat → Int32) (kp : Nat → Int32) (ik : Int32) (pt : Nat → Int32) (st : Int32) (tx : Nat → Int32) (ln : Int32) (asd : Nat → Int32) (att : Int32) (dn : Int32) (td : Int32) (fo : Int32) (nb : Nat → Int32) (p1 : Int32) (res : Int32) (h : fX7_isParty ss p1 = some res) : gMI E l yX7_isParty wsX7_isParty ({ frames := 1, cells := 0, slots := 0, locals := 22 } : Room) [.ref a0, .int p1] (wMo E a0 a1 a2 a3 a4 a5 a6 a7 ss bg kp ik pt st tx ln asd att dn td fo nb) (fun res : Int32 => (wMo E a0 a1 a2 a3 a4 a5 a6 a7 ss bg kp ik pt st tx ln asd att dn td fo nb)) (fun res => res) res := by
  refine g_entZ (cc := cX7_isParty) (maxL := 2) (by decide) rfl (Nat.le_of_ble_eq_true rfl) ?_
  intro p e s m args below meth c A Q ls hx hb hml hown hts hK hP hD hS hA hG hret hl
  unfold fX7_isParty at h
  replace hl : lv_has ls 2 [(0, .ref a0), (1, .int p1)] := hl
  have hiX7 : ∀ w ∈ wsX70, w ∈ wsX7_isParty := by decide +kernel
  have hw0 := hts (.fieldLink RX7 7 "GlacierHutModel" "s" "[I") (by decide +kernel)
  refine lv_iload_n hx hb dX7_isParty_0 rfl (lv_at hl 1 rfl) ?_
  refine lv_iconst (v := (0 : Int32)) hx hb dX7_isParty_1 (by decide) ?_
  refine lv_aload_n hx hb dX7_isParty_2 rfl (lv_at hl 0 rfl) ?_
  refine va_get (D := E.1) (cl := vwCl) (ci := 7) (v := .ref a1) (C := RX7) (T := TX7) (N := 14) hx hb hts hiX7 hown hK hP 0 rfl rfl 0 (by decide) hw0 (fun _ h9 => h9) rfl dX7_isParty_3 ?_
  refine lv_iconst (v := (4 : Int32)) hx hb dX7_isParty_6 (by decide) ?_
  obtain ⟨hg1, h⟩ := gd_s h
  refine va_iald (D := E.1) (cl := vwCl) (tys := gT E) hx hb hK hP 1 0 rfl rfl (inB_in hg1) dX7_isParty_7 ?_
  refine lv_iconst (v := (1 : Int32)) hx hb dX7_isParty_8 (by decide) ?_
  refine lv_isub hx hb dX7_isParty_9 ?_
  obtain ⟨r2, hc3, h⟩ := bd1_s h
  refine g_callSi (As := [.int p1, .int (0 : Int32), .int ((ss ((4 : Int32)).toNatClampNeg) - (1 : Int32))]) (rest := []) (r := r2) ⟨hx, hb, hml, hown, hts⟩ (kX7_in E l p1 (0 : Int32) ((ss ((4 : Int32)).toNatClampNeg) - (1 : Int32)) r2 hc3) (va_cwS 3 hts gX7_isParty_X7_in rfl rfl rfl (by decide +kernel) ⟨Nat.le_of_ble_eq_true rfl, Nat.le_of_ble_eq_true rfl⟩) hK hP hD hS hA hG hl rfl rfl rfl (Nat.le_of_ble_eq_true rfl) dX7_isParty_10 (Nat.zero_le _) (Nat.zero_le _) (fun H locs hP hD hS => ?_)
  obtain ⟨hg4, h⟩ := gd_s h
  exact hret r2 _ _ _ _ _ (Option.some.inj h) hP hS rfl (nzB_nar hg4) dX7_isParty_13
set_option maxHeartbeats 4000000 in
set_option maxRecDepth 100000 in
theorem kX7_cancels (E : gE) (l : Launch) (a0 a1 a2 a3 a4 a5 a6 a7 : Nat) (ss : Nat → Int32) (bg : Nat → Int32) (kp : Nat → Int32) (ik : Int32) (pt : Nat → Int32) (st : Int32) (tx : Nat → Int32) (ln : Int32) (asd : Nat → Int32) (att : Int32) (dn : Int32) (td : Int32) (fo : Int32) (nb : Nat → Int32) (p1 : Int32) (res : Int32 × (Nat → Int32)) (h : fX7_cancels ss p1 = some res) : gMI E l yX7_cancels wsX7_cancels ({ frames := 2, cells := 0, slots := 0, locals := 45 } : Room) [.ref a0, .int p1] (wMo E a0 a1 a2 a3 a4 a5 a6 a7 ss bg kp ik pt st tx ln asd att dn td fo nb) (fun res : Int32 × (Nat → Int32) => (wMo E a0 a1 a2 a3 a4 a5 a6 a7 res.2 bg kp ik pt st tx ln asd att dn td fo nb)) (fun res => res.1) res := by
  refine g_entI (cc := cX7_cancels) (maxL := 2) (by decide) rfl (Nat.le_of_ble_eq_true rfl) ?_
  intro p e s m args below meth c A Q ls hx hb hml hown hts hK hP hD hS hA hG hret hl
  unfold fX7_cancels at h
  replace hl : lv_has ls 2 [(0, .ref a0), (1, .int p1)] := hl
  refine lv_aload_n hx hb dX7_cancels_0 rfl (lv_at hl 0 rfl) ?_
  refine lv_iload_n hx hb dX7_cancels_1 rfl (lv_at hl 1 rfl) ?_
  obtain ⟨r1, hc2, h⟩ := bd1_s h
  refine g_callRi (As := [.int p1]) (rest := []) (r := r1) ⟨hx, hb, hml, hown, hts⟩ (kX7_isParty E l a0 a1 a2 a3 a4 a5 a6 a7 ss bg kp ik pt st tx ln asd att dn td fo nb p1 r1 hc2) (cwV 1 hts gX7_cancels_X7_isParty rfl rfl rfl (by decide +kernel) ⟨Nat.le_of_ble_eq_true rfl, Nat.le_of_ble_eq_true rfl⟩) hK hP hD hS hA hG hl [0, 1, 2, 3, 4, 5, 6, 7] 0 (by decide) rfl (ci := 7) rfl rfl rfl rfl rfl rfl rfl (Nat.le_of_ble_eq_true rfl) dX7_cancels_2 (Nat.zero_le _) (Nat.zero_le _) (fun H locs hP hD hS => ?_)
  refine lv_if_ne (tgt := 10) hx hb dX7_cancels_5 (by decide) (fun hc3 => ?_) (fun hc3 => ?_)
  · replace h := g_if hc3 h
    refine lv_aload_n hx hb dX7_cancels_10 rfl (lv_at hl 0 rfl) ?_
    refine lv_iload_n hx hb dX7_cancels_11 rfl (lv_at hl 1 rfl) ?_
    refine lv_iconst (v := (3 : Int32)) hx hb dX7_cancels_12 (by decide) ?_
    obtain ⟨r4, hc5, h⟩ := bd1_s h
    refine g_callRi (As := [.int p1, .int (3 : Int32)]) (rest := []) (r := r4) ⟨hx, hb, hml, hown, hts⟩ (kX7_ofParty E l a0 a1 a2 a3 a4 a5 a6 a7 ss bg kp ik pt st tx ln asd att dn td fo nb p1 (3 : Int32) r4 hc5) (cwV 2 hts gX7_cancels_X7_ofParty rfl rfl rfl (by decide +kernel) ⟨Nat.le_of_ble_eq_true rfl, Nat.le_of_ble_eq_true rfl⟩) hK hP hD hS hA hG hl [0, 1, 2, 3, 4, 5, 6, 7] 0 (by decide) rfl (ci := 7) rfl rfl rfl rfl rfl rfl rfl (Nat.le_of_ble_eq_true rfl) dX7_cancels_13 (Nat.zero_le _) (Nat.zero_le _) (fun H locs hP hD hS => ?_)
    refine lv_if_eq (tgt := 22) hx hb dX7_cancels_16 (by decide) (fun hc6 => ?_) (fun hc6 => ?_)
    · replace h := g_it hc6 h
      refine lv_aload_n hx hb dX7_cancels_22 rfl (lv_at hl 0 rfl) ?_
      refine lv_iload_n hx hb dX7_cancels_23 rfl (lv_at hl 1 rfl) ?_
      refine lv_iconst (v := (3 : Int32)) hx hb dX7_cancels_24 (by decide) ?_
      refine lv_iconst (v := (3 : Int32)) hx hb dX7_cancels_25 (by decide) ?_
      obtain ⟨ss7, hc8, h⟩ := bd1_s h
      refine g_callVv (As := [.int p1, .int (3 : Int32), .int (3 : Int32)]) (rest := []) (ws1 := (wMo E a0 a1 a2 a3 a4 a5 a6 a7 ss7 bg kp ik pt st tx ln asd att dn td fo nb)) ⟨hx, hb, hml, hown, hts⟩ (kX7_setParty E l a0 a1 a2 a3 a4 a5 a6 a7 ss bg kp ik pt st tx ln asd att dn td fo nb p1 (3 : Int32) (3 : Int32) ss7 hc8) (cwV 3 hts gX7_cancels_X7_setParty rfl rfl rfl (by decide +kernel) ⟨Nat.le_of_ble_eq_true rfl, Nat.le_of_ble_eq_true rfl⟩) hK hP hD hS hA hG hl [0, 1, 2, 3, 4, 5, 6, 7] 0 (by decide) rfl (ci := 7) rfl rfl rfl rfl rfl rfl rfl rfl (Nat.le_of_ble_eq_true rfl) dX7_cancels_26 (Nat.zero_le _) (Nat.zero_le _) (fun H locs hP hD hS => ?_)
      refine lv_aload_n hx hb dX7_cancels_29 rfl (lv_at hl 0 rfl) ?_
      refine lv_iconst (v := (0 : Int32)) hx hb dX7_cancels_30 (by decide) ?_
      obtain ⟨r9, hc10, h⟩ := bd1_s h
      refine g_callRi (As := [.int (0 : Int32)]) (rest := []) (r := r9) ⟨hx, hb, hml, hown, hts⟩ (kX7_partiesOf E l a0 a1 a2 a3 a4 a5 a6 a7 ss7 bg kp ik pt st tx ln asd att dn td fo nb (0 : Int32) r9 hc10) (cwV 1 hts gX7_cancels_X7_partiesOf rfl rfl rfl (by decide +kernel) ⟨Nat.le_of_ble_eq_true rfl, Nat.le_of_ble_eq_true rfl⟩) hK hP hD hS hA hG hl [0, 1, 2, 3, 4, 5, 6, 7] 0 (by decide) rfl (ci := 7) rfl rfl rfl rfl rfl rfl rfl (Nat.le_of_ble_eq_true rfl) dX7_cancels_31 (Nat.zero_le _) (Nat.zero_le _) (fun H locs hP hD hS => ?_)
      exact hret (r9, ss7) _ _ _ _ _ (Option.some.inj h) hP hS rfl dX7_cancels_34
    · replace h := g_if hc6 h
      refine lv_bipush (v := (-2 : Int32)) hx hb dX7_cancels_19 (by decide) ?_
      exact hret ((-2 : Int32), ss) _ _ _ _ _ (Option.some.inj h) hP hS rfl dX7_cancels_21
  · replace h := g_it hc3 h
    refine lv_iconst (v := (-1 : Int32)) hx hb dX7_cancels_8 (by decide) ?_
    exact hret ((-1 : Int32), ss) _ _ _ _ _ (Option.some.inj h) hP hS rfl dX7_cancels_9
