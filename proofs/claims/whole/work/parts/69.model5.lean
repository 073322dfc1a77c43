set_option maxHeartbeats 4000000 in
set_option maxRecDepth 100000 in
theorem kX7_wants (E : gE) (l : Launch)   (p1 : Int32) (res : Int32) (h : fX7_wants  p1 = some res) : gMI E l yX7_wants wsX7_wants ({ frames := 0, cells := 0, slots := 0, locals := 0 } : Room) [.int p1] ([] : va_W) (fun res : Int32 => ([] : va_W)) (fun res => res) res := by
  refine g_entI (cc := cX7_wants) (maxL := 1) (by decide) rfl (Nat.le_of_ble_eq_true rfl) ?_
  intro p e s m args below meth c A Q ls hx hb hml hown hts hK hP hD hS hA hG hret hl
  unfold fX7_wants at h
  replace hl : lv_has ls 1 [(0, .int p1)] := hl
  refine lv_iload_n hx hb dX7_wants_0 rfl (lv_at hl 0 rfl) ?_
  by_cases hk1 : p1 = (98 : Int32)
  · replace h := g_it hk1 h
    refine lv_lookup (tgt := 52) (off := 51) hx hb dX7_wants_1 (by decide) (by rw [hk1]; rfl) (by decide) ?_
    refine lv_iconst (v := (3 : Int32)) hx hb dX7_wants_52 (by decide) ?_
    exact hret (3 : Int32) _ _ _ _ _ (Option.some.inj h) hP hS rfl dX7_wants_53
  replace h := g_if hk1 h
  by_cases hk2 : p1 = (108 : Int32)
  · replace h := g_it hk2 h
    refine lv_lookup (tgt := 52) (off := 51) hx hb dX7_wants_1 (by decide) (by rw [hk2]; rfl) (by decide) ?_
    refine lv_iconst (v := (3 : Int32)) hx hb dX7_wants_52 (by decide) ?_
    exact hret (3 : Int32) _ _ _ _ _ (Option.some.inj h) hP hS rfl dX7_wants_53
  replace h := g_if hk2 h
  by_cases hk3 : p1 = (110 : Int32)
  · replace h := g_it hk3 h
    refine lv_lookup (tgt := 56) (off := 55) hx hb dX7_wants_1 (by decide) (by rw [hk3]; rfl) (by decide) ?_
    refine lv_iconst (v := (1 : Int32)) hx hb dX7_wants_56 (by decide) ?_
    exact hret (1 : Int32) _ _ _ _ _ (Option.some.inj h) hP hS rfl dX7_wants_57
  replace h := g_if hk3 h
  by_cases hk4 : p1 = (115 : Int32)
  · replace h := g_it hk4 h
    refine lv_lookup (tgt := 54) (off := 53) hx hb dX7_wants_1 (by decide) (by rw [hk4]; rfl) (by decide) ?_
    refine lv_iconst (v := (2 : Int32)) hx hb dX7_wants_54 (by decide) ?_
    exact hret (2 : Int32) _ _ _ _ _ (Option.some.inj h) hP hS rfl dX7_wants_55
  replace h := g_if hk4 h
  by_cases hk5 : p1 = (120 : Int32)
  · replace h := g_it hk5 h
    refine lv_lookup (tgt := 56) (off := 55) hx hb dX7_wants_1 (by decide) (by rw [hk5]; rfl) (by decide) ?_
    refine lv_iconst (v := (1 : Int32)) hx hb dX7_wants_56 (by decide) ?_
    exact hret (1 : Int32) _ _ _ _ _ (Option.some.inj h) hP hS rfl dX7_wants_57
  replace h := g_if hk5 h
  refine lv_lookup (tgt := 58) (off := 57) hx hb dX7_wants_1 (by decide) (by show Op.lookupswitch.offset [(98, 51), (108, 51), (110, 55), (115, 53), (120, 55)] 57 _ = _; rw [lv_osw hk1 (by decide), lv_osw hk2 (by decide), lv_osw hk3 (by decide), lv_osw hk4 (by decide), lv_osw hk5 (by decide)]; rfl) (by decide) ?_
  refine lv_iload_n hx hb dX7_wants_58 rfl (lv_at hl 0 rfl) ?_
  refine lv_bipush (v := (102 : Int32)) hx hb dX7_wants_59 (by decide) ?_
  refine lv_icmp_ne (tgt := 68) hx hb dX7_wants_61 (by decide) (fun hc6 => ?_) (fun hc6 => ?_)
  · replace h := g_if hc6 h
    refine lv_iconst (v := (-1 : Int32)) hx hb dX7_wants_68 (by decide) ?_
    exact hret (-1 : Int32) _ _ _ _ _ (Option.some.inj h) hP hS rfl dX7_wants_69
  · replace h := g_it hc6 h
    refine lv_iconst (v := (0 : Int32)) hx hb dX7_wants_64 (by decide) ?_
    refine lv_goto (tgt := 69) hx hb dX7_wants_65 (by decide) ?_
    exact hret (0 : Int32) _ _ _ _ _ (Option.some.inj h) hP hS rfl dX7_wants_69
set_option maxHeartbeats 4000000 in
set_option maxRecDepth 100000 in
theorem kX7_takesSign (E : gE) (l : Launch) (a0 a1 a2 a3 a4 a5 a6 a7 : Nat) (ss : Nat → Int32) (bg : Nat → Int32) (kp : Nat → Int32) (ik : Int32) (pt : Nat → Int32) (st : Int32) (tx : Nat → Int32) (ln : Int32) (asd : Nat → Int32) (att : Int32) (dn : Int32) (td : Int32) (fo : Int32) (nb : Nat → Int32) (p1 : Int32) (res : Int32 × Int32) (h : fX7_takesSign tx ln att fo p1 = some res) : gMV E l yX7_takesSign wsX7_takesSign ({ frames := 1, cells := 0, slots := 0, locals := 20 } : Room) [.ref a0, .int p1] (wMo E a0 a1 a2 a3 a4 a5 a6 a7 ss bg kp ik pt st tx ln asd att dn td fo nb) (fun res : Int32 × Int32 => (wMo E a0 a1 a2 a3 a4 a5 a6 a7 ss bg kp ik pt st tx ln asd res.1 dn td res.2 nb)) res := by
  refine g_entV (cc := cX7_takesSign) (maxL := 2) (by decide) rfl (Nat.le_of_ble_eq_true rfl) ?_
  intro p e s m args below meth c A Q ls hx hb hml hown hts hK hP hD hS hA hG hret hl
  unfold fX7_takesSign at h
  replace hl : lv_has ls 2 [(0, .ref a0), (1, .int p1)] := hl
  have hiX7 : ∀ w ∈ wsX70, w ∈ wsX7_takesSign := by decide +kernel
  have hw0 := hts (.fieldLink RX7 166 "GlacierHutModel" "isForm" "Z") (by decide +kernel)
  have hw1 := hts (.fieldLink RX7 160 "GlacierHutModel" "at" "I") (by decide +kernel)
  refine lv_aload_n hx hb dX7_takesSign_0 rfl (lv_at hl 0 rfl) ?_
  refine lv_aload_n hx hb dX7_takesSign_1 rfl (lv_at hl 0 rfl) ?_
  refine va_get (D := E.1) (cl := vwCl) (ci := 7) (v := .int fo) (C := RX7) (T := TX7) (N := 14) hx hb hts hiX7 hown hK hP 0 rfl rfl 12 (by decide) hw0 (fun _ h9 => h9) rfl dX7_takesSign_2 ?_
  refine mrg_e h (fun J2 hK_J2 h => ?_)
  have hJ_J2 : ∀ (v6 : Int32) (H : Heap) (locs : List Loc) (ls : Array Slot), va_P E.1 vwCl (wMo E a0 a1 a2 a3 a4 a5 a6 a7 ss bg kp ik pt st tx ln asd att dn td fo nb) H → va_S A s.heap H locs → lv_has ls 2 [(0, .ref a0)] → J2 v6 = some res → W p l e ({ frames := 1, cells := 0, slots := 0, locals := 20 } : Room) s m args below meth c H locs 0 0 Q (F0 m 21 ls [.int v6, .ref a0]) := by
    intro v6 H locs ls hP hS hl h
    replace hD : va_D A (wMo E a0 a1 a2 a3 a4 a5 a6 a7 ss bg kp ik pt st tx ln asd att dn td fo nb) := gD_same hD rfl
    subst hK_J2
    obtain ⟨hg7, h⟩ := gd_s h
    refine va_put (D := E.1) (cl := vwCl) (ci := 7) (v := .int v6) (ty := .boolean) (C := RX7) (T := TX7) (N := 14) hx hb hts hiX7 tyX7 tyX7_ok nmX7 hown hK hP hD hS 0 rfl rfl 12 (by decide) hw0 (fun _ h9 => h9) rfl (by decide +kernel) (nzB_nar hg7) (nzB_fit hg7) (Nat.le_of_ble_eq_true rfl) dX7_takesSign_21 (fun H locs hP hD hS => ?_)
    replace hP : va_P E.1 vwCl (wMo E a0 a1 a2 a3 a4 a5 a6 a7 ss bg kp ik pt st tx ln asd att dn td v6 nb) H := hP
    replace hD : va_D A (wMo E a0 a1 a2 a3 a4 a5 a6 a7 ss bg kp ik pt st tx ln asd att dn td v6 nb) := hD
    refine lv_aload_n hx hb dX7_takesSign_24 rfl (lv_at hl 0 rfl) ?_
    refine lv_dup hx hb dX7_takesSign_25 rfl ?_
    refine va_get (D := E.1) (cl := vwCl) (ci := 7) (v := .int att) (C := RX7) (T := TX7) (N := 14) hx hb hts hiX7 hown hK hP 0 rfl rfl 9 (by decide) hw1 (fun _ h9 => h9) rfl dX7_takesSign_26 ?_
    refine lv_aload_n hx hb dX7_takesSign_29 rfl (lv_at hl 0 rfl) ?_
    refine va_get (D := E.1) (cl := vwCl) (ci := 7) (v := .int v6) (C := RX7) (T := TX7) (N := 14) hx hb hts hiX7 hown hK hP 0 rfl rfl 12 (by decide) hw0 (fun _ h9 => h9) rfl dX7_takesSign_30 ?_
    refine lv_if_eq (tgt := 40) hx hb dX7_takesSign_33 (by decide) (fun hc8 => ?_) (fun hc8 => ?_)
    · replace h := g_it hc8 h
      refine lv_iconst (v := (0 : Int32)) hx hb dX7_takesSign_40 (by decide) ?_
      refine lv_iadd hx hb dX7_takesSign_41 ?_
      refine lv_topi (fun v9 e_v9 => ?_)
      replace h := jl_s e_v9 h
      refine va_put (D := E.1) (cl := vwCl) (ci := 7) (v := .int v9) (ty := .int) (C := RX7) (T := TX7) (N := 14) hx hb hts hiX7 tyX7 tyX7_ok nmX7 hown hK hP hD hS 0 rfl rfl 9 (by decide) hw1 (fun _ h9 => h9) rfl (by decide +kernel) rfl rfl (Nat.le_of_ble_eq_true rfl) dX7_takesSign_42 (fun H locs hP hD hS => ?_)
      replace hP : va_P E.1 vwCl (wMo E a0 a1 a2 a3 a4 a5 a6 a7 ss bg kp ik pt st tx ln asd v9 dn td v6 nb) H := hP
      replace hD : va_D A (wMo E a0 a1 a2 a3 a4 a5 a6 a7 ss bg kp ik pt st tx ln asd v9 dn td v6 nb) := hD
      exact hret (v9, v6) _ _ _ _ (Option.some.inj h) hP hS dX7_takesSign_45
    · replace h := g_if hc8 h
      refine lv_iconst (v := (1 : Int32)) hx hb dX7_takesSign_36 (by decide) ?_
      refine lv_goto (tgt := 41) hx hb dX7_takesSign_37 (by decide) ?_
      refine lv_iadd hx hb dX7_takesSign_41 ?_
      refine lv_topi (fun v10 e_v10 => ?_)
      replace h := jl_s e_v10 h
      refine va_put (D := E.1) (cl := vwCl) (ci := 7) (v := .int v10) (ty := .int) (C := RX7) (T := TX7) (N := 14) hx hb hts hiX7 tyX7 tyX7_ok nmX7 hown hK hP hD hS 0 rfl rfl 9 (by decide) hw1 (fun _ h9 => h9) rfl (by decide +kernel) rfl rfl (Nat.le_of_ble_eq_true rfl) dX7_takesSign_42 (fun H locs hP hD hS => ?_)
      replace hP : va_P E.1 vwCl (wMo E a0 a1 a2 a3 a4 a5 a6 a7 ss bg kp ik pt st tx ln asd v10 dn td v6 nb) H := hP
      replace hD : va_D A (wMo E a0 a1 a2 a3 a4 a5 a6 a7 ss bg kp ik pt st tx ln asd v10 dn td v6 nb) := hD
      exact hret (v10, v6) _ _ _ _ (Option.some.inj h) hP hS dX7_takesSign_45
  refine lv_if_eq (tgt := 20) hx hb dX7_takesSign_5 (by decide) (fun hc1 => ?_) (fun hc1 => ?_)
  · replace h := g_it hc1 h
    refine lv_iconst (v := (0 : Int32)) hx hb dX7_takesSign_20 (by decide) ?_
    exact hJ_J2 (0 : Int32) _ _ _ hP hS (lv_sub hl [0] rfl) h
  · replace h := g_if hc1 h
    refine lv_aload_n hx hb dX7_takesSign_8 rfl (lv_at hl 0 rfl) ?_
    obtain ⟨r3, hc4, h⟩ := bd1_s h
    refine g_callRi (As := []) (rest := [.ref a0]) (r := r3) ⟨hx, hb, hml, hown, hts⟩ (kX7_here E l a0 a1 a2 a3 a4 a5 a6 a7 ss bg kp ik pt st tx ln asd att dn td fo nb r3 hc4) (cwV 0 hts gX7_takesSign_X7_here rfl rfl rfl (by decide +kernel) ⟨Nat.le_of_ble_eq_true rfl, Nat.le_of_ble_eq_true rfl⟩) hK hP hD hS hA hG hl [0, 1, 2, 3, 4, 5, 6, 7] 0 (by decide) rfl (ci := 7) rfl rfl rfl rfl rfl rfl rfl (Nat.le_of_ble_eq_true rfl) dX7_takesSign_9 (Nat.zero_le _) (Nat.zero_le _) (fun H locs hP hD hS => ?_)
    refine lv_iload_n hx hb dX7_takesSign_12 rfl (lv_at hl 1 rfl) ?_
    refine lv_icmp_ne (tgt := 20) hx hb dX7_takesSign_13 (by decide) (fun hc5 => ?_) (fun hc5 => ?_)
    · replace h := g_if hc5 h
      refine lv_iconst (v := (0 : Int32)) hx hb dX7_takesSign_20 (by decide) ?_
      exact hJ_J2 (0 : Int32) _ _ _ hP hS (lv_sub hl [0] rfl) h
    · replace h := g_it hc5 h
      refine lv_iconst (v := (1 : Int32)) hx hb dX7_takesSign_16 (by decide) ?_
      refine lv_goto (tgt := 21) hx hb dX7_takesSign_17 (by decide) ?_
      exact hJ_J2 (1 : Int32) _ _ _ hP hS (lv_sub hl [0] rfl) h
set_option maxHeartbeats 4000000 in
set_option maxRecDepth 100000 in
theorem kX7_isDigit (E : gE) (l : Launch) (a0 a1 a2 a3 a4 a5 a6 a7 : Nat) (ss : Nat → Int32) (bg : Nat → Int32) (kp : Nat → Int32) (ik : Int32) (pt : Nat → Int32) (st : Int32) (tx : Nat → Int32) (ln : Int32) (asd : Nat → Int32) (att : Int32) (dn : Int32) (td : Int32) (fo : Int32) (nb : Nat → Int32)  (res : Int32) (h : fX7_isDigit tx ln att  = some res) : gMI E l yX7_isDigit wsX7_isDigit ({ frames := 1, cells := 0, slots := 0, locals := 22 } : Room) [.ref a0] (wMo E a0 a1 a2 a3 a4 a5 a6 a7 ss bg kp ik pt st tx ln asd att dn td fo nb) (fun res : Int32 => (wMo E a0 a1 a2 a3 a4 a5 a6 a7 ss bg kp ik pt st tx ln asd att dn td fo nb)) (fun res => res) res := by
  refine g_entZ (cc := cX7_isDigit) (maxL := 1) (by decide) rfl (Nat.le_of_ble_eq_true rfl) ?_
  intro p e s m args below meth c A Q ls hx hb hml hown hts hK hP hD hS hA hG hret hl
  unfold fX7_isDigit at h
  replace hl : lv_has ls 1 [(0, .ref a0)] := hl
  refine lv_aload_n hx hb dX7_isDigit_0 rfl (lv_at hl 0 rfl) ?_
  obtain ⟨r1, hc2, h⟩ := bd1_s h
  refine g_callRi (As := []) (rest := []) (r := r1) ⟨hx, hb, hml, hown, hts⟩ (kX7_here E l a0 a1 a2 a3 a4 a5 a6 a7 ss bg kp ik pt st tx ln asd att dn td fo nb r1 hc2) (cwV 0 hts gX7_isDigit_X7_here rfl rfl rfl (by decide +kernel) ⟨Nat.le_of_ble_eq_true rfl, Nat.le_of_ble_eq_true rfl⟩) hK hP hD hS hA hG hl [0, 1, 2, 3, 4, 5, 6, 7] 0 (by decide) rfl (ci := 7) rfl rfl rfl rfl rfl rfl rfl (Nat.le_of_ble_eq_true rfl) dX7_isDigit_1 (Nat.zero_le _) (Nat.zero_le _) (fun H locs hP hD hS => ?_)
  refine lv_bipush (v := (48 : Int32)) hx hb dX7_isDigit_4 (by decide) ?_
  refine lv_bipush (v := (57 : Int32)) hx hb dX7_isDigit_6 (by decide) ?_
  obtain ⟨r3, hc4, h⟩ := bd1_s h
  refine g_callSi (As := [.int r1, .int (48 : Int32), .int (57 : Int32)]) (rest := []) (r := r3) ⟨hx, hb, hml, hown, hts⟩ (kX7_in E l r1 (48 : Int32) (57 : Int32) r3 hc4) (va_cwS 3 hts gX7_isDigit_X7_in rfl rfl rfl (by decide +kernel) ⟨Nat.le_of_ble_eq_true rfl, Nat.le_of_ble_eq_true rfl⟩) hK hP hD hS hA hG hl rfl rfl rfl (Nat.le_of_ble_eq_true rfl) dX7_isDigit_8 (Nat.zero_le _) (Nat.zero_le _) (fun H locs hP hD hS => ?_)
  obtain ⟨hg5, h⟩ := gd_s h
  exact hret r3 _ _ _ _ _ (Option.some.inj h) hP hS rfl (nzB_nar hg5) dX7_isDigit_11
set_option maxHeartbeats 4000000 in
set_option maxRecDepth 100000 in
theorem kX7_number (E : gE) (l : Launch) (a0 a1 a2 a3 a4 a5 a6 a7 : Nat) (ss : Nat → Int32) (bg : Nat → Int32) (kp : Nat → Int32) (ik : Int32) (pt : Nat → Int32) (st : Int32) (tx : Nat → Int32) (ln : Int32) (asd : Nat → Int32) (att : Int32) (dn : Int32) (td : Int32) (fo : Int32) (nb : Nat → Int32)  (res : Int32 × Int32 × Int32) (h : fX7_number tx ln att fo  = some res) : gMI E l yX7_number wsX7_number ({ frames := 2, cells := 0, slots := 0, locals := 42 } : Room) [.ref a0] (wMo E a0 a1 a2 a3 a4 a5 a6 a7 ss bg kp ik pt st tx ln asd att dn td fo nb) (fun res : Int32 × Int32 × Int32 => (wMo E a0 a1 a2 a3 a4 a5 a6 a7 ss bg kp ik pt st tx ln asd res.2.1 dn td res.2.2 nb)) (fun res => res.1) res := by
  refine g_entI (cc := cX7_number) (maxL := 3) (by decide) rfl (Nat.le_of_ble_eq_true rfl) ?_
  intro p e s m args below meth c A Q ls hx hb hml hown hts hK hP hD hS hA hG hret hl
  unfold fX7_number at h
  replace hl : lv_has ls 3 [(0, .ref a0)] := hl
  have hiX7 : ∀ w ∈ wsX70, w ∈ wsX7_number := by decide +kernel
  have hw0 := hts (.fieldLink RX7 166 "GlacierHutModel" "isForm" "Z") (by decide +kernel)
  have hw1 := hts (.fieldLink RX7 160 "GlacierHutModel" "at" "I") (by decide +kernel)
  refine lv_aload_n hx hb dX7_number_0 rfl (lv_at hl 0 rfl) ?_
  refine lv_aload_n hx hb dX7_number_1 rfl (lv_at hl 0 rfl) ?_
  refine va_get (D := E.1) (cl := vwCl) (ci := 7) (v := .int fo) (C := RX7) (T := TX7) (N := 14) hx hb hts hiX7 hown hK hP 0 rfl rfl 12 (by decide) hw0 (fun _ h9 => h9) rfl dX7_number_2 ?_
  refine mrg_e h (fun J2 hK_J2 h => ?_)
  have hJ_J2 : ∀ (v6 : Int32) (H : Heap) (locs : List Loc) (ls : Array Slot), va_P E.1 vwCl (wMo E a0 a1 a2 a3 a4 a5 a6 a7 ss bg kp ik pt st tx ln asd att dn td fo nb) H → va_S A s.heap H locs → lv_has ls 3 [(0, .ref a0)] → J2 v6 = some res → W p l e ({ frames := 2, cells := 0, slots := 0, locals := 42 } : Room) s m args below meth c H locs 0 0 Q (F0 m 20 ls [.int v6, .ref a0]) := by
    intro v6 H locs ls hP hS hl h
    replace hD : va_D A (wMo E a0 a1 a2 a3 a4 a5 a6 a7 ss bg kp ik pt st tx ln asd att dn td fo nb) := gD_same hD rfl
    subst hK_J2
    obtain ⟨hg7, h⟩ := gd_s h
    refine va_put (D := E.1) (cl := vwCl) (ci := 7) (v := .int v6) (ty := .boolean) (C := RX7) (T := TX7) (N := 14) hx hb hts hiX7 tyX7 tyX7_ok nmX7 hown hK hP hD hS 0 rfl rfl 12 (by decide) hw0 (fun _ h9 => h9) rfl (by decide +kernel) (nzB_nar hg7) (nzB_fit hg7) (Nat.le_of_ble_eq_true rfl) dX7_number_20 (fun H locs hP hD hS => ?_)
    replace hP : va_P E.1 vwCl (wMo E a0 a1 a2 a3 a4 a5 a6 a7 ss bg kp ik pt st tx ln asd att dn td v6 nb) H := hP
    replace hD : va_D A (wMo E a0 a1 a2 a3 a4 a5 a6 a7 ss bg kp ik pt st tx ln asd att dn td v6 nb) := hD
    refine lv_iconst (v := (0 : Int32)) hx hb dX7_number_23 (by decide) ?_
    refine lv_istore_n (lv' := [(1, .int (0 : Int32)), (0, .ref a0)]) hx hb dX7_number_24 rfl hl (by decide) rfl (fun ls hl => ?_)
    refine lv_iconst (v := (0 : Int32)) hx hb dX7_number_25 (by decide) ?_
    refine lv_istore_n (lv' := [(2, .int (0 : Int32)), (1, .int (0 : Int32)), (0, .ref a0)]) hx hb dX7_number_26 rfl hl (by decide) rfl (fun ls hl => ?_)
    refine gl3_e h (fun S_rec8 hS_rec8 h => ?_)
    have hL_rec8 : ∀ (nF : Nat) (v9 : Int32) (v10 : Int32) (att11 : Int32) (H : Heap) (locs : List Loc) (ls : Array Slot), va_P E.1 vwCl (wMo E a0 a1 a2 a3 a4 a5 a6 a7 ss bg kp ik pt st tx ln asd att11 dn td v6 nb) H → va_S A s.heap H locs → lv_has ls 3 [(2, .int v9), (1, .int v10), (0, .ref a0)] → gl3 S_rec8 nF v9 v10 att11 = some res → W p l e ({ frames := 2, cells := 0, slots := 0, locals := 42 } : Room) s m args below meth c H locs 0 0 Q (F0 m 27 ls []) := by
      intro nF
      induction nF with
      | zero => intro v9 v10 att11 H locs ls hP hS hl h; exact gl3_z h
      | succ nF ih_rec8 =>
        intro v9 v10 att11 H locs ls hP hS hl h
        replace hD : va_D A (wMo E a0 a1 a2 a3 a4 a5 a6 a7 ss bg kp ik pt st tx ln asd att11 dn td v6 nb) := gD_same hD rfl
        replace h : S_rec8 (gl3 S_rec8 nF) v9 v10 att11 = some res := h
        generalize gl3 S_rec8 nF = rec8 at h ih_rec8
        subst hS_rec8
        unfold sX7_number_rec8 at h
        refine lv_iload_n hx hb dX7_number_27 rfl (lv_at hl 0 rfl) ?_
        refine lv_iconst (v := (3 : Int32)) hx hb dX7_number_28 (by decide) ?_
        refine lv_icmp_ge (tgt := 75) hx hb dX7_number_29 (by decide) (fun hc12 => ?_) (fun hc12 => ?_)
        · replace h := g_it hc12 h
          refine lv_iload_n hx hb dX7_number_75 rfl (lv_at hl 1 rfl) ?_
          exact hret (v10, att11, v6) _ _ _ _ _ (Option.some.inj h) hP hS rfl dX7_number_76
        · replace h := g_if hc12 h
          refine lv_aload_n hx hb dX7_number_32 rfl (lv_at hl 2 rfl) ?_
          refine va_get (D := E.1) (cl := vwCl) (ci := 7) (v := .int v6) (C := RX7) (T := TX7) (N := 14) hx hb hts hiX7 hown hK hP 0 rfl rfl 12 (by decide) hw0 (fun _ h9 => h9) rfl dX7_number_33 ?_
          refine lv_if_eq (tgt := 75) hx hb dX7_number_36 (by decide) (fun hc13 => ?_) (fun hc13 => ?_)
          · replace h := g_it hc13 h
            refine lv_iload_n hx hb dX7_number_75 rfl (lv_at hl 1 rfl) ?_
            exact hret (v10, att11, v6) _ _ _ _ _ (Option.some.inj h) hP hS rfl dX7_number_76
          · replace h := g_if hc13 h
            refine lv_aload_n hx hb dX7_number_39 rfl (lv_at hl 2 rfl) ?_
            obtain ⟨r14, hc15, h⟩ := bd1_s h
            refine g_callRi (As := []) (rest := []) (r := r14) ⟨hx, hb, hml, hown, hts⟩ (kX7_isDigit E l a0 a1 a2 a3 a4 a5 a6 a7 ss bg kp ik pt st tx ln asd att11 dn td v6 nb r14 hc15) (cwV 0 hts gX7_number_X7_isDigit rfl rfl rfl (by decide +kernel) ⟨Nat.le_of_ble_eq_true rfl, Nat.le_of_ble_eq_true rfl⟩) hK hP hD hS hA hG hl [0, 1, 2, 3, 4, 5, 6, 7] 0 (by decide) rfl (ci := 7) rfl rfl rfl rfl rfl rfl rfl (Nat.le_of_ble_eq_true rfl) dX7_number_40 (Nat.zero_le _) (Nat.zero_le _) (fun H locs hP hD hS => ?_)
            refine lv_if_eq (tgt := 75) hx hb dX7_number_43 (by decide) (fun hc16 => ?_) (fun hc16 => ?_)
            · replace h := g_it hc16 h
              refine lv_iload_n hx hb dX7_number_75 rfl (lv_at hl 1 rfl) ?_
              exact hret (v10, att11, v6) _ _ _ _ _ (Option.some.inj h) hP hS rfl dX7_number_76
            · replace h := g_if hc16 h
              refine lv_bipush (v := (10 : Int32)) hx hb dX7_number_46 (by decide) ?_
              refine lv_iload_n hx hb dX7_number_48 rfl (lv_at hl 1 rfl) ?_
              refine lv_imul hx hb dX7_number_49 ?_
              refine lv_aload_n hx hb dX7_number_50 rfl (lv_at hl 2 rfl) ?_
              obtain ⟨r17, hc18, h⟩ := bd1_s h
              refine g_callRi (As := []) (rest := [.int ((10 : Int32) * v10)]) (r := r17) ⟨hx, hb, hml, hown, hts⟩ (kX7_here E l a0 a1 a2 a3 a4 a5 a6 a7 ss bg kp ik pt st tx ln asd att11 dn td v6 nb r17 hc18) (cwV 0 hts gX7_number_X7_here rfl rfl rfl (by decide +kernel) ⟨Nat.le_of_ble_eq_true rfl, Nat.le_of_ble_eq_true rfl⟩) hK hP hD hS hA hG hl [0, 1, 2, 3, 4, 5, 6, 7] 0 (by decide) rfl (ci := 7) rfl rfl rfl rfl rfl rfl rfl (Nat.le_of_ble_eq_true rfl) dX7_number_51 (Nat.zero_le _) (Nat.zero_le _) (fun H locs hP hD hS => ?_)
              refine lv_iadd hx hb dX7_number_54 ?_
              refine lv_bipush (v := (48 : Int32)) hx hb dX7_number_55 (by decide) ?_
              refine lv_isub hx hb dX7_number_57 ?_
              refine lv_topi (fun v19 e_v19 => ?_)
              replace h := jl_s e_v19 h
              refine lv_istore_n (lv' := [(1, .int v19), (2, .int v9), (0, .ref a0)]) hx hb dX7_number_58 rfl hl (by decide) rfl (fun ls hl => ?_)
              refine lv_aload_n hx hb dX7_number_59 rfl (lv_at hl 2 rfl) ?_
              refine lv_dup hx hb dX7_number_60 rfl ?_
              refine va_get (D := E.1) (cl := vwCl) (ci := 7) (v := .int att11) (C := RX7) (T := TX7) (N := 14) hx hb hts hiX7 hown hK hP 0 rfl rfl 9 (by decide) hw1 (fun _ h9 => h9) rfl dX7_number_61 ?_
              refine lv_iconst (v := (1 : Int32)) hx hb dX7_number_64 (by decide) ?_
              refine lv_iadd hx hb dX7_number_65 ?_
              refine lv_topi (fun v20 e_v20 => ?_)
              replace h := jl_s e_v20 h
              refine va_put (D := E.1) (cl := vwCl) (ci := 7) (v := .int v20) (ty := .int) (C := RX7) (T := TX7) (N := 14) hx hb hts hiX7 tyX7 tyX7_ok nmX7 hown hK hP hD hS 0 rfl rfl 9 (by decide) hw1 (fun _ h9 => h9) rfl (by decide +kernel) rfl rfl (Nat.le_of_ble_eq_true rfl) dX7_number_66 (fun H locs hP hD hS => ?_)
              replace hP : va_P E.1 vwCl (wMo E a0 a1 a2 a3 a4 a5 a6 a7 ss bg kp ik pt st tx ln asd v20 dn td v6 nb) H := hP
              replace hD : va_D A (wMo E a0 a1 a2 a3 a4 a5 a6 a7 ss bg kp ik pt st tx ln asd v20 dn td v6 nb) := hD
              obtain ⟨v21, e_v21⟩ : ∃ y : Int32, y = (v9 + (1 : Int32)) := ⟨_, rfl⟩
              replace h := jl_s e_v21 h
              refine lv_iinc (v := v21) (lv' := [(2, .int v21), (1, .int v19), (0, .ref a0)]) hx hb dX7_number_69 hl (k := 1) rfl (by rw [e_v21]; rfl) (by decide) rfl (fun ls hl => ?_)
              refine lv_goto (tgt := 27) hx hb dX7_number_72 (by decide) ?_
              exact ih_rec8 v21 v19 v20 _ _ _ hP hS (lv_sub hl [0, 1, 2] rfl) h
    exact hL_rec8 gFU (0 : Int32) (0 : Int32) att _ _ _ hP hS (lv_sub hl [0, 1, 2] rfl) h
  refine lv_if_eq (tgt := 19) hx hb dX7_number_5 (by decide) (fun hc1 => ?_) (fun hc1 => ?_)
  · replace h := g_it hc1 h
    refine lv_iconst (v := (0 : Int32)) hx hb dX7_number_19 (by decide) ?_
    exact hJ_J2 (0 : Int32) _ _ _ hP hS (lv_sub hl [0] rfl) h
  · replace h := g_if hc1 h
    refine lv_aload_n hx hb dX7_number_8 rfl (lv_at hl 0 rfl) ?_
    obtain ⟨r3, hc4, h⟩ := bd1_s h
    refine g_callRi (As := []) (rest := [.ref a0]) (r := r3) ⟨hx, hb, hml, hown, hts⟩ (kX7_isDigit E l a0 a1 a2 a3 a4 a5 a6 a7 ss bg kp ik pt st tx ln asd att dn td fo nb r3 hc4) (cwV 0 hts gX7_number_X7_isDigit rfl rfl rfl (by decide +kernel) ⟨Nat.le_of_ble_eq_true rfl, Nat.le_of_ble_eq_true rfl⟩) hK hP hD hS hA hG hl [0, 1, 2, 3, 4, 5, 6, 7] 0 (by decide) rfl (ci := 7) rfl rfl rfl rfl rfl rfl rfl (Nat.le_of_ble_eq_true rfl) dX7_number_9 (Nat.zero_le _) (Nat.zero_le _) (fun H locs hP hD hS => ?_)
    refine lv_if_eq (tgt := 19) hx hb dX7_number_12 (by decide) (fun hc5 => ?_) (fun hc5 => ?_)
    · replace h := g_it hc5 h
      refine lv_iconst (v := (0 : Int32)) hx hb dX7_number_19 (by decide) ?_
      exact hJ_J2 (0 : Int32) _ _ _ hP hS (lv_sub hl [0] rfl) h
    · replace h := g_if hc5 h
      refine lv_iconst (v := (1 : Int32)) hx hb dX7_number_15 (by decide) ?_
      refine lv_goto (tgt := 20) hx hb dX7_number_16 (by decide) ?_
      exact hJ_J2 (1 : Int32) _ _ _ hP hS (lv_sub hl [0] rfl) h
set_option maxHeartbeats 4000000 in
set_option maxRecDepth 100000 in
theorem kX7_does (E : gE) (l : Launch) (a0 a1 a2 a3 a4 a5 a6 a7 : Nat) (ss : Nat → Int32) (bg : Nat → Int32) (kp : Nat → Int32) (ik : Int32) (pt : Nat → Int32) (st : Int32) (tx : Nat → Int32) (ln : Int32) (asd : Nat → Int32) (att : Int32) (dn : Int32) (td : Int32) (fo : Int32) (nb : Nat → Int32)  (res : Int32 × (Nat → Int32) × (Nat → Int32) × Int32 × Int32 × Int32 × Int32 × (Nat → Int32)) (h : fX7_does ss tx ln asd td fo nb  = some res) : gMI E l yX7_does wsX7_does ({ frames := 8, cells := 0, slots := 0, locals := 185 } : Room) [.ref a0] (wMo E a0 a1 a2 a3 a4 a5 a6 a7 ss bg kp ik pt st tx ln asd att dn td fo nb) (fun res : Int32 × (Nat → Int32) × (Nat → Int32) × Int32 × Int32 × Int32 × Int32 × (Nat → Int32) => (wMo E a0 a1 a2 a3 a4 a5 a6 a7 res.2.1 bg kp ik pt st tx ln res.2.2.1 res.2.2.2.1 res.2.2.2.2.1 res.2.2.2.2.2.1 res.2.2.2.2.2.2.1 res.2.2.2.2.2.2.2)) (fun res => res.1) res := by
  refine g_entI (cc := cX7_does) (maxL := 4) (by decide) rfl (Nat.le_of_ble_eq_true rfl) ?_
  intro p e s m args below meth c A Q ls hx hb hml hown hts hK hP hD hS hA hG hret hl
  unfold fX7_does at h
  replace hl : lv_has ls 4 [(0, .ref a0)] := hl
  have hiX7 : ∀ w ∈ wsX70, w ∈ wsX7_does := by decide +kernel
  have hw0 := hts (.fieldLink RX7 160 "GlacierHutModel" "at" "I") (by decide +kernel)
  have hw1 := hts (.fieldLink RX7 172 "GlacierHutModel" "done" "I") (by decide +kernel)
  have hw2 := hts (.fieldLink RX7 153 "GlacierHutModel" "length" "I") (by decide +kernel)
  have hw3 := hts (.fieldLink RX7 166 "GlacierHutModel" "isForm" "Z") (by decide +kernel)
  have hw4 := hts (.fieldLink RX7 187 "GlacierHutModel" "told" "I") (by decide +kernel)
  have hw5 := hts (.fieldLink RX7 28 "GlacierHutModel" "numbers" "[I") (by decide +kernel)
  refine lv_aload_n hx hb dX7_does_0 rfl (lv_at hl 0 rfl) ?_
  refine lv_iconst (v := (0 : Int32)) hx hb dX7_does_1 (by decide) ?_
  refine va_put (D := E.1) (cl := vwCl) (ci := 7) (v := .int (0 : Int32)) (ty := .int) (C := RX7) (T := TX7) (N := 14) hx hb hts hiX7 tyX7 tyX7_ok nmX7 hown hK hP hD hS 0 rfl rfl 9 (by decide) hw0 (fun _ h9 => h9) rfl (by decide +kernel) rfl rfl (Nat.le_of_ble_eq_true rfl) dX7_does_2 (fun H locs hP hD hS => ?_)
  replace hP : va_P E.1 vwCl (wMo E a0 a1 a2 a3 a4 a5 a6 a7 ss bg kp ik pt st tx ln asd (0 : Int32) dn td fo nb) H := hP
  replace hD : va_D A (wMo E a0 a1 a2 a3 a4 a5 a6 a7 ss bg kp ik pt st tx ln asd (0 : Int32) dn td fo nb) := hD
  refine lv_aload_n hx hb dX7_does_5 rfl (lv_at hl 0 rfl) ?_
  refine lv_iconst (v := (0 : Int32)) hx hb dX7_does_6 (by decide) ?_
  refine va_put (D := E.1) (cl := vwCl) (ci := 7) (v := .int (0 : Int32)) (ty := .int) (C := RX7) (T := TX7) (N := 14) hx hb hts hiX7 tyX7 tyX7_ok nmX7 hown hK hP hD hS 0 rfl rfl 10 (by decide) hw1 (fun _ h9 => h9) rfl (by decide +kernel) rfl rfl (Nat.le_of_ble_eq_true rfl) dX7_does_7 (fun H locs hP hD hS => ?_)
  replace hP : va_P E.1 vwCl (wMo E a0 a1 a2 a3 a4 a5 a6 a7 ss bg kp ik pt st tx ln asd (0 : Int32) (0 : Int32) td fo nb) H := hP
  replace hD : va_D A (wMo E a0 a1 a2 a3 a4 a5 a6 a7 ss bg kp ik pt st tx ln asd (0 : Int32) (0 : Int32) td fo nb) := hD
  refine gl7_e h (fun S_rec1 hS_rec1 h => ?_)
  have hL_rec1 : ∀ (nF : Nat) (ss2 : Nat → Int32) (asd3 : Nat → Int32) (att4 : Int32) (dn5 : Int32) (td6 : Int32) (fo7 : Int32) (nb8 : Nat → Int32) (H : Heap) (locs : List Loc) (ls : Array Slot), va_P E.1 vwCl (wMo E a0 a1 a2 a3 a4 a5 a6 a7 ss2 bg kp ik pt st tx ln asd3 att4 dn5 td6 fo7 nb8) H → va_S A s.heap H locs → lv_has ls 4 [(0, .ref a0)] → gl7 S_rec1 nF ss2 asd3 att4 dn5 td6 fo7 nb8 = some res → W p l e ({ frames := 8, cells := 0, slots := 0, locals := 185 } : Room) s m args below meth c H locs 0 0 Q (F0 m 10 ls []) := by
    intro nF
    induction nF with
    | zero => intro ss2 asd3 att4 dn5 td6 fo7 nb8 H locs ls hP hS hl h; exact gl7_z h
    | succ nF ih_rec1 =>
      intro ss2 asd3 att4 dn5 td6 fo7 nb8 H locs ls hP hS hl h
      replace hD : va_D A (wMo E a0 a1 a2 a3 a4 a5 a6 a7 ss2 bg kp ik pt st tx ln asd3 att4 dn5 td6 fo7 nb8) := gD_same hD rfl
      replace h : S_rec1 (gl7 S_rec1 nF) ss2 asd3 att4 dn5 td6 fo7 nb8 = some res := h
      generalize gl7 S_rec1 nF = rec1 at h ih_rec1
      subst hS_rec1
      unfold sX7_does_rec1 at h
      refine lv_aload_n hx hb dX7_does_10 rfl (lv_at hl 0 rfl) ?_
      refine va_get (D := E.1) (cl := vwCl) (ci := 7) (v := .int att4) (C := RX7) (T := TX7) (N := 14) hx hb hts hiX7 hown hK hP 0 rfl rfl 9 (by decide) hw0 (fun _ h9 => h9) rfl dX7_does_11 ?_
      refine lv_aload_n hx hb dX7_does_14 rfl (lv_at hl 0 rfl) ?_
      refine va_get (D := E.1) (cl := vwCl) (ci := 7) (v := .int ln) (C := RX7) (T := TX7) (N := 14) hx hb hts hiX7 hown hK hP 0 rfl rfl 7 (by decide) hw2 (fun _ h9 => h9) rfl dX7_does_15 ?_
      refine lv_icmp_ge (tgt := 159) hx hb dX7_does_18 (by decide) (fun hc9 => ?_) (fun hc9 => ?_)
      · replace h := g_it hc9 h
        refine lv_iconst (v := (-1 : Int32)) hx hb dX7_does_159 (by decide) ?_
        exact hret ((-1 : Int32), ss2, asd3, att4, dn5, td6, fo7, nb8) _ _ _ _ _ (Option.some.inj h) hP hS rfl dX7_does_160
      · replace h := g_if hc9 h
        refine lv_aload_n hx hb dX7_does_21 rfl (lv_at hl 0 rfl) ?_
        refine va_get (D := E.1) (cl := vwCl) (ci := 7) (v := .int att4) (C := RX7) (T := TX7) (N := 14) hx hb hts hiX7 hown hK hP 0 rfl rfl 9 (by decide) hw0 (fun _ h9 => h9) rfl dX7_does_22 ?_
        refine lv_istore_n (lv' := [(1, .int att4), (0, .ref a0)]) hx hb dX7_does_25 rfl hl (by decide) rfl (fun ls hl => ?_)
        refine lv_aload_n hx hb dX7_does_26 rfl (lv_at hl 1 rfl) ?_
        obtain ⟨r10, hc11, h⟩ := bd1_s h
        refine g_callRi (As := []) (rest := []) (r := r10) ⟨hx, hb, hml, hown, hts⟩ (kX7_here E l a0 a1 a2 a3 a4 a5 a6 a7 ss2 bg kp ik pt st tx ln asd3 att4 dn5 td6 fo7 nb8 r10 hc11) (cwV 0 hts gX7_does_X7_here rfl rfl rfl (by decide +kernel) ⟨Nat.le_of_ble_eq_true rfl, Nat.le_of_ble_eq_true rfl⟩) hK hP hD hS hA hG hl [0, 1, 2, 3, 4, 5, 6, 7] 0 (by decide) rfl (ci := 7) rfl rfl rfl rfl rfl rfl rfl (Nat.le_of_ble_eq_true rfl) dX7_does_27 (Nat.zero_le _) (Nat.zero_le _) (fun H locs hP hD hS => ?_)
        refine lv_istore_n (lv' := [(2, .int r10), (1, .int att4), (0, .ref a0)]) hx hb dX7_does_30 rfl hl (by decide) rfl (fun ls hl => ?_)
        refine lv_aload_n hx hb dX7_does_31 rfl (lv_at hl 2 rfl) ?_
        refine lv_iload_n hx hb dX7_does_32 rfl (lv_at hl 0 rfl) ?_
        obtain ⟨r12, hc13, h⟩ := bd1_s h
        refine g_callSi (As := [.int r10]) (rest := [.ref a0]) (r := r12) ⟨hx, hb, hml, hown, hts⟩ (kX7_wants E l r10 r12 hc13) (va_cwS 1 hts gX7_does_X7_wants rfl rfl rfl (by decide +kernel) ⟨Nat.le_of_ble_eq_true rfl, Nat.le_of_ble_eq_true rfl⟩) hK hP hD hS hA hG hl rfl rfl rfl (Nat.le_of_ble_eq_true rfl) dX7_does_33 (Nat.zero_le _) (Nat.zero_le _) (fun H locs hP hD hS => ?_)
        refine mrg_e h (fun J15 hK_J15 h => ?_)
        have hJ_J15 : ∀ (v16 : Int32) (H : Heap) (locs : List Loc) (ls : Array Slot), va_P E.1 vwCl (wMo E a0 a1 a2 a3 a4 a5 a6 a7 ss2 bg kp ik pt st tx ln asd3 att4 dn5 td6 fo7 nb8) H → va_S A s.heap H locs → lv_has ls 4 [(2, .int r10), (1, .int att4), (0, .ref a0)] → J15 v16 = some res → W p l e ({ frames := 8, cells := 0, slots := 0, locals := 185 } : Room) s m args below meth c H locs 0 0 Q (F0 m 44 ls [.int v16, .ref a0]) := by
          intro v16 H locs ls hP hS hl h
          replace hD : va_D A (wMo E a0 a1 a2 a3 a4 a5 a6 a7 ss2 bg kp ik pt st tx ln asd3 att4 dn5 td6 fo7 nb8) := gD_same hD rfl
          subst hK_J15
          obtain ⟨hg17, h⟩ := gd_s h
          refine va_put (D := E.1) (cl := vwCl) (ci := 7) (v := .int v16) (ty := .boolean) (C := RX7) (T := TX7) (N := 14) hx hb hts hiX7 tyX7 tyX7_ok nmX7 hown hK hP hD hS 0 rfl rfl 12 (by decide) hw3 (fun _ h9 => h9) rfl (by decide +kernel) (nzB_nar hg17) (nzB_fit hg17) (Nat.le_of_ble_eq_true rfl) dX7_does_44 (fun H locs hP hD hS => ?_)
          replace hP : va_P E.1 vwCl (wMo E a0 a1 a2 a3 a4 a5 a6 a7 ss2 bg kp ik pt st tx ln asd3 att4 dn5 td6 v16 nb8) H := hP
          replace hD : va_D A (wMo E a0 a1 a2 a3 a4 a5 a6 a7 ss2 bg kp ik pt st tx ln asd3 att4 dn5 td6 v16 nb8) := hD
          refine lv_aload_n hx hb dX7_does_47 rfl (lv_at hl 2 rfl) ?_
          refine lv_dup hx hb dX7_does_48 rfl ?_
          refine va_get (D := E.1) (cl := vwCl) (ci := 7) (v := .int att4) (C := RX7) (T := TX7) (N := 14) hx hb hts hiX7 hown hK hP 0 rfl rfl 9 (by decide) hw0 (fun _ h9 => h9) rfl dX7_does_49 ?_
          refine lv_aload_n hx hb dX7_does_52 rfl (lv_at hl 2 rfl) ?_
          refine va_get (D := E.1) (cl := vwCl) (ci := 7) (v := .int v16) (C := RX7) (T := TX7) (N := 14) hx hb hts hiX7 hown hK hP 0 rfl rfl 12 (by decide) hw3 (fun _ h9 => h9) rfl dX7_does_53 ?_
          refine mrg_e h (fun J19 hK_J19 h => ?_)
          have hJ_J19 : ∀ (v20 : Int32) (H : Heap) (locs : List Loc) (ls : Array Slot), va_P E.1 vwCl (wMo E a0 a1 a2 a3 a4 a5 a6 a7 ss2 bg kp ik pt st tx ln asd3 att4 dn5 td6 v16 nb8) H → va_S A s.heap H locs → lv_has ls 4 [(2, .int r10), (1, .int att4), (0, .ref a0)] → J19 v20 = some res → W p l e ({ frames := 8, cells := 0, slots := 0, locals := 185 } : Room) s m args below meth c H locs 0 0 Q (F0 m 64 ls [.int v20, .int att4, .ref a0]) := by
            intro v20 H locs ls hP hS hl h
            replace hD : va_D A (wMo E a0 a1 a2 a3 a4 a5 a6 a7 ss2 bg kp ik pt st tx ln asd3 att4 dn5 td6 v16 nb8) := gD_same hD rfl
            subst hK_J19
            refine lv_iadd hx hb dX7_does_64 ?_
            refine lv_topi (fun v21 e_v21 => ?_)
            replace h := jl_s e_v21 h
            refine va_put (D := E.1) (cl := vwCl) (ci := 7) (v := .int v21) (ty := .int) (C := RX7) (T := TX7) (N := 14) hx hb hts hiX7 tyX7 tyX7_ok nmX7 hown hK hP hD hS 0 rfl rfl 9 (by decide) hw0 (fun _ h9 => h9) rfl (by decide +kernel) rfl rfl (Nat.le_of_ble_eq_true rfl) dX7_does_65 (fun H locs hP hD hS => ?_)
            replace hP : va_P E.1 vwCl (wMo E a0 a1 a2 a3 a4 a5 a6 a7 ss2 bg kp ik pt st tx ln asd3 v21 dn5 td6 v16 nb8) H := hP
            replace hD : va_D A (wMo E a0 a1 a2 a3 a4 a5 a6 a7 ss2 bg kp ik pt st tx ln asd3 v21 dn5 td6 v16 nb8) := hD
            refine lv_iconst (v := (0 : Int32)) hx hb dX7_does_68 (by decide) ?_
            refine lv_istore_n (lv' := [(3, .int (0 : Int32)), (2, .int r10), (1, .int att4), (0, .ref a0)]) hx hb dX7_does_69 rfl hl (by decide) rfl (fun ls hl => ?_)
            refine gl4_e h (fun S_rec22 hS_rec22 h => ?_)
            have hL_rec22 : ∀ (nF : Nat) (v23 : Int32) (att24 : Int32) (fo25 : Int32) (nb26 : Nat → Int32) (H : Heap) (locs : List Loc) (ls : Array Slot), va_P E.1 vwCl (wMo E a0 a1 a2 a3 a4 a5 a6 a7 ss2 bg kp ik pt st tx ln asd3 att24 dn5 td6 fo25 nb26) H → va_S A s.heap H locs → lv_has ls 4 [(3, .int v23), (2, .int r10), (1, .int att4), (0, .ref a0)] → gl4 S_rec22 nF v23 att24 fo25 nb26 = some res → W p l e ({ frames := 8, cells := 0, slots := 0, locals := 185 } : Room) s m args below meth c H locs 0 0 Q (F0 m 70 ls []) := by
              intro nF
              induction nF with
              | zero => intro v23 att24 fo25 nb26 H locs ls hP hS hl h; exact gl4_z h
              | succ nF ih_rec22 =>
                intro v23 att24 fo25 nb26 H locs ls hP hS hl h
                replace hD : va_D A (wMo E a0 a1 a2 a3 a4 a5 a6 a7 ss2 bg kp ik pt st tx ln asd3 att24 dn5 td6 fo25 nb26) := gD_same hD rfl
                replace h : S_rec22 (gl4 S_rec22 nF) v23 att24 fo25 nb26 = some res := h
                generalize gl4 S_rec22 nF = rec22 at h ih_rec22
                subst hS_rec22
                unfold sX7_does_rec22 at h
                refine lv_iload_n hx hb dX7_does_70 rfl (lv_at hl 0 rfl) ?_
                refine lv_iload_n hx hb dX7_does_71 rfl (lv_at hl 1 rfl) ?_
                obtain ⟨r27, hc28, h⟩ := bd1_s h
                refine g_callSi (As := [.int r10]) (rest := [.int v23]) (r := r27) ⟨hx, hb, hml, hown, hts⟩ (kX7_wants E l r10 r27 hc28) (va_cwS 1 hts gX7_does_X7_wants rfl rfl rfl (by decide +kernel) ⟨Nat.le_of_ble_eq_true rfl, Nat.le_of_ble_eq_true rfl⟩) hK hP hD hS hA hG hl rfl rfl rfl (Nat.le_of_ble_eq_true rfl) dX7_does_72 (Nat.zero_le _) (Nat.zero_le _) (fun H locs hP hD hS => ?_)
                refine lv_icmp_ge (tgt := 104) hx hb dX7_does_75 (by decide) (fun hc29 => ?_) (fun hc29 => ?_)
                · replace h := g_it hc29 h
                  refine lv_aload_n hx hb dX7_does_104 rfl (lv_at hl 3 rfl) ?_
                  refine lv_bipush (v := (59 : Int32)) hx hb dX7_does_105 (by decide) ?_
                  obtain ⟨att30, fo31, hc32, h⟩ := bd2_s h
                  refine g_callVv (As := [.int (59 : Int32)]) (rest := []) (ws1 := (wMo E a0 a1 a2 a3 a4 a5 a6 a7 ss2 bg kp ik pt st tx ln asd3 att30 dn5 td6 fo31 nb26)) ⟨hx, hb, hml, hown, hts⟩ (kX7_takesSign E l a0 a1 a2 a3 a4 a5 a6 a7 ss2 bg kp ik pt st tx ln asd3 att24 dn5 td6 fo25 nb26 (59 : Int32) (att30, fo31) hc32) (cwV 1 hts gX7_does_X7_takesSign rfl rfl rfl (by decide +kernel) ⟨Nat.le_of_ble_eq_true rfl, Nat.le_of_ble_eq_true rfl⟩) hK hP hD hS hA hG hl [0, 1, 2, 3, 4, 5, 6, 7] 0 (by decide) rfl (ci := 7) rfl rfl rfl rfl rfl rfl rfl rfl (Nat.le_of_ble_eq_true rfl) dX7_does_107 (Nat.zero_le _) (Nat.zero_le _) (fun H locs hP hD hS => ?_)
                  refine lv_aload_n hx hb dX7_does_110 rfl (lv_at hl 3 rfl) ?_
                  refine lv_aload_n hx hb dX7_does_111 rfl (lv_at hl 3 rfl) ?_
                  refine va_get (D := E.1) (cl := vwCl) (ci := 7) (v := .int fo31) (C := RX7) (T := TX7) (N := 14) hx hb hts hiX7 hown hK hP 0 rfl rfl 12 (by decide) hw3 (fun _ h9 => h9) rfl dX7_does_112 ?_
                  refine mrg_e h (fun J34 hK_J34 h => ?_)
                  have hJ_J34 : ∀ (ss39 : Nat → Int32) (asd40 : Nat → Int32) (v41 : Int32) (H : Heap) (locs : List Loc) (ls : Array Slot), va_P E.1 vwCl (wMo E a0 a1 a2 a3 a4 a5 a6 a7 ss39 bg kp ik pt st tx ln asd40 att30 dn5 td6 fo31 nb26) H → va_S A s.heap H locs → lv_has ls 4 [(1, .int att4), (0, .ref a0)] → J34 ss39 asd40 v41 = some res → W p l e ({ frames := 8, cells := 0, slots := 0, locals := 185 } : Room) s m args below meth c H locs 0 0 Q (F0 m 127 ls [.int v41, .ref a0]) := by
                    intro ss39 asd40 v41 H locs ls hP hS hl h
                    replace hD : va_D A (wMo E a0 a1 a2 a3 a4 a5 a6 a7 ss39 bg kp ik pt st tx ln asd40 att30 dn5 td6 fo31 nb26) := gD_same hD rfl
                    subst hK_J34
                    refine va_put (D := E.1) (cl := vwCl) (ci := 7) (v := .int v41) (ty := .int) (C := RX7) (T := TX7) (N := 14) hx hb hts hiX7 tyX7 tyX7_ok nmX7 hown hK hP hD hS 0 rfl rfl 11 (by decide) hw4 (fun _ h9 => h9) rfl (by decide +kernel) rfl rfl (Nat.le_of_ble_eq_true rfl) dX7_does_127 (fun H locs hP hD hS => ?_)
                    replace hP : va_P E.1 vwCl (wMo E a0 a1 a2 a3 a4 a5 a6 a7 ss39 bg kp ik pt st tx ln asd40 att30 dn5 v41 fo31 nb26) H := hP
                    replace hD : va_D A (wMo E a0 a1 a2 a3 a4 a5 a6 a7 ss39 bg kp ik pt st tx ln asd40 att30 dn5 v41 fo31 nb26) := hD
                    refine lv_aload_n hx hb dX7_does_130 rfl (lv_at hl 1 rfl) ?_
                    refine va_get (D := E.1) (cl := vwCl) (ci := 7) (v := .int fo31) (C := RX7) (T := TX7) (N := 14) hx hb hts hiX7 hown hK hP 0 rfl rfl 12 (by decide) hw3 (fun _ h9 => h9) rfl dX7_does_131 ?_
                    refine lv_if_eq (tgt := 144) hx hb dX7_does_134 (by decide) (fun hc42 => ?_) (fun hc42 => ?_)
                    · replace h := g_it hc42 h
                      refine lv_iload_n hx hb dX7_does_144 rfl (lv_at hl 0 rfl) ?_
                      exact hret (att4, ss39, asd40, att30, dn5, v41, fo31, nb26) _ _ _ _ _ (Option.some.inj h) hP hS rfl dX7_does_145
                    · replace h := g_if hc42 h
                      refine lv_aload_n hx hb dX7_does_137 rfl (lv_at hl 1 rfl) ?_
                      refine va_get (D := E.1) (cl := vwCl) (ci := 7) (v := .int v41) (C := RX7) (T := TX7) (N := 14) hx hb hts hiX7 hown hK hP 0 rfl rfl 11 (by decide) hw4 (fun _ h9 => h9) rfl dX7_does_138 ?_
                      refine lv_if_ge (tgt := 146) hx hb dX7_does_141 (by decide) (fun hc43 => ?_) (fun hc43 => ?_)
                      · replace h := g_it hc43 h
                        refine lv_aload_n hx hb dX7_does_146 rfl (lv_at hl 1 rfl) ?_
                        refine lv_dup hx hb dX7_does_147 rfl ?_
                        refine va_get (D := E.1) (cl := vwCl) (ci := 7) (v := .int dn5) (C := RX7) (T := TX7) (N := 14) hx hb hts hiX7 hown hK hP 0 rfl rfl 10 (by decide) hw1 (fun _ h9 => h9) rfl dX7_does_148 ?_
                        refine lv_iconst (v := (1 : Int32)) hx hb dX7_does_151 (by decide) ?_
                        refine lv_iadd hx hb dX7_does_152 ?_
                        refine lv_topi (fun v44 e_v44 => ?_)
                        replace h := jl_s e_v44 h
                        refine va_put (D := E.1) (cl := vwCl) (ci := 7) (v := .int v44) (ty := .int) (C := RX7) (T := TX7) (N := 14) hx hb hts hiX7 tyX7 tyX7_ok nmX7 hown hK hP hD hS 0 rfl rfl 10 (by decide) hw1 (fun _ h9 => h9) rfl (by decide +kernel) rfl rfl (Nat.le_of_ble_eq_true rfl) dX7_does_153 (fun H locs hP hD hS => ?_)
                        replace hP : va_P E.1 vwCl (wMo E a0 a1 a2 a3 a4 a5 a6 a7 ss39 bg kp ik pt st tx ln asd40 att30 v44 v41 fo31 nb26) H := hP
                        replace hD : va_D A (wMo E a0 a1 a2 a3 a4 a5 a6 a7 ss39 bg kp ik pt st tx ln asd40 att30 v44 v41 fo31 nb26) := hD
                        refine lv_goto (tgt := 10) hx hb dX7_does_156 (by decide) ?_
                        exact ih_rec1 ss39 asd40 att30 v44 v41 fo31 nb26 _ _ _ hP hS (lv_sub hl [1] rfl) h
                      · replace h := g_if hc43 h
                        refine lv_iload_n hx hb dX7_does_144 rfl (lv_at hl 0 rfl) ?_
                        exact hret (att4, ss39, asd40, att30, dn5, v41, fo31, nb26) _ _ _ _ _ (Option.some.inj h) hP hS rfl dX7_does_145
                  refine lv_if_eq (tgt := 126) hx hb dX7_does_115 (by decide) (fun hc33 => ?_) (fun hc33 => ?_)
                  · replace h := g_it hc33 h
                    refine lv_iconst (v := (0 : Int32)) hx hb dX7_does_126 (by decide) ?_
                    exact hJ_J34 ss2 asd3 (0 : Int32) _ _ _ hP hS (lv_sub hl [2, 3] rfl) h
                  · replace h := g_if hc33 h
                    refine lv_aload_n hx hb dX7_does_118 rfl (lv_at hl 3 rfl) ?_
                    refine lv_iload_n hx hb dX7_does_119 rfl (lv_at hl 1 rfl) ?_
                    obtain ⟨r35, ss36, asd37, hc38, h⟩ := bd3_s h
                    refine g_callVi (As := [.int r10]) (rest := [.ref a0]) (r := r35) (ws1 := (wMo E a0 a1 a2 a3 a4 a5 a6 a7 ss36 bg kp ik pt st tx ln asd37 att30 dn5 td6 fo31 nb26)) ⟨hx, hb, hml, hown, hts⟩ (kX7_called E l a0 a1 a2 a3 a4 a5 a6 a7 ss2 bg kp ik pt st tx ln asd3 att30 dn5 td6 fo31 nb26 r10 (r35, ss36, asd37) hc38) (cwV 1 hts gX7_does_X7_called rfl rfl rfl (by decide +kernel) ⟨Nat.le_of_ble_eq_true rfl, Nat.le_of_ble_eq_true rfl⟩) hK hP hD hS hA hG hl [0, 1, 2, 3, 4, 5, 6, 7] 0 (by decide) rfl (ci := 7) rfl rfl rfl rfl rfl rfl rfl rfl rfl (Nat.le_of_ble_eq_true rfl) dX7_does_120 (Nat.zero_le _) (Nat.zero_le _) (fun H locs hP hD hS => ?_)
                    refine lv_goto (tgt := 127) hx hb dX7_does_123 (by decide) ?_
                    exact hJ_J34 ss36 asd37 r35 _ _ _ hP hS (lv_sub hl [2, 3] rfl) h
                · replace h := g_if hc29 h
                  refine lv_iload_n hx hb dX7_does_78 rfl (lv_at hl 0 rfl) ?_
                  refine mrg_e h (fun J46 hK_J46 h => ?_)
                  have hJ_J46 : ∀ (att50 : Int32) (fo51 : Int32) (H : Heap) (locs : List Loc) (ls : Array Slot), va_P E.1 vwCl (wMo E a0 a1 a2 a3 a4 a5 a6 a7 ss2 bg kp ik pt st tx ln asd3 att50 dn5 td6 fo51 nb26) H → va_S A s.heap H locs → lv_has ls 4 [(3, .int v23), (2, .int r10), (1, .int att4), (0, .ref a0)] → J46 att50 fo51 = some res → W p l e ({ frames := 8, cells := 0, slots := 0, locals := 185 } : Room) s m args below meth c H locs 0 0 Q (F0 m 88 ls []) := by
                    intro att50 fo51 H locs ls hP hS hl h
                    replace hD : va_D A (wMo E a0 a1 a2 a3 a4 a5 a6 a7 ss2 bg kp ik pt st tx ln asd3 att50 dn5 td6 fo51 nb26) := gD_same hD rfl
                    subst hK_J46
                    refine lv_aload_n hx hb dX7_does_88 rfl (lv_at hl 3 rfl) ?_
                    refine va_get (D := E.1) (cl := vwCl) (ci := 7) (v := .ref a7) (C := RX7) (T := TX7) (N := 14) hx hb hts hiX7 hown hK hP 0 rfl rfl 13 (by decide) hw5 (fun _ h9 => h9) rfl dX7_does_89 ?_
                    refine lv_iload_n hx hb dX7_does_92 rfl (lv_at hl 0 rfl) ?_
                    refine lv_aload_n hx hb dX7_does_93 rfl (lv_at hl 3 rfl) ?_
                    obtain ⟨r52, att53, fo54, hc55, h⟩ := bd3_s h
                    refine g_callVi (As := []) (rest := [.int v23, .ref a7]) (r := r52) (ws1 := (wMo E a0 a1 a2 a3 a4 a5 a6 a7 ss2 bg kp ik pt st tx ln asd3 att53 dn5 td6 fo54 nb26)) ⟨hx, hb, hml, hown, hts⟩ (kX7_number E l a0 a1 a2 a3 a4 a5 a6 a7 ss2 bg kp ik pt st tx ln asd3 att50 dn5 td6 fo51 nb26 (r52, att53, fo54) hc55) (cwV 0 hts gX7_does_X7_number rfl rfl rfl (by decide +kernel) ⟨Nat.le_of_ble_eq_true rfl, Nat.le_of_ble_eq_true rfl⟩) hK hP hD hS hA hG hl [0, 1, 2, 3, 4, 5, 6, 7] 0 (by decide) rfl (ci := 7) rfl rfl rfl rfl rfl rfl rfl rfl rfl (Nat.le_of_ble_eq_true rfl) dX7_does_94 (Nat.zero_le _) (Nat.zero_le _) (fun H locs hP hD hS => ?_)
                    obtain ⟨hg56, h⟩ := gd_s h
                    refine va_iast (D := E.1) (cl := vwCl) (tys := gT E) hx hb hK hP hD hS 7 0 rfl rfl (inB_in hg56) dX7_does_97 (fun H locs hP hD hS => ?_)
                    obtain ⟨nb57, e_nb57⟩ : ∃ y : Nat → Int32, y = (upd nb26 (v23).toNatClampNeg r52) := ⟨_, rfl⟩
                    replace h := jl_s e_nb57 h
                    replace hP : va_P E.1 vwCl (wMo E a0 a1 a2 a3 a4 a5 a6 a7 ss2 bg kp ik pt st tx ln asd3 att53 dn5 td6 fo54 nb57) H := (by rw [e_nb57]; exact hP)
                    replace hD : va_D A (wMo E a0 a1 a2 a3 a4 a5 a6 a7 ss2 bg kp ik pt st tx ln asd3 att53 dn5 td6 fo54 nb57) := gD_same hD rfl
                    obtain ⟨v58, e_v58⟩ : ∃ y : Int32, y = (v23 + (1 : Int32)) := ⟨_, rfl⟩
                    replace h := jl_s e_v58 h
                    refine lv_iinc (v := v58) (lv' := [(3, .int v58), (2, .int r10), (1, .int att4), (0, .ref a0)]) hx hb dX7_does_98 hl (k := 0) rfl (by rw [e_v58]; rfl) (by decide) rfl (fun ls hl => ?_)
                    refine lv_goto (tgt := 70) hx hb dX7_does_101 (by decide) ?_
                    exact ih_rec22 v58 att53 fo54 nb57 _ _ _ hP hS (lv_sub hl [0, 1, 2, 3] rfl) h
                  refine lv_if_le (tgt := 88) hx hb dX7_does_79 (by decide) (fun hc45 => ?_) (fun hc45 => ?_)
                  · replace h := g_it hc45 h
                    exact hJ_J46 att24 fo25 _ _ _ hP hS (lv_sub hl [0, 1, 2, 3] rfl) h
                  · replace h := g_if hc45 h
                    refine lv_aload_n hx hb dX7_does_82 rfl (lv_at hl 3 rfl) ?_
                    refine lv_bipush (v := (44 : Int32)) hx hb dX7_does_83 (by decide) ?_
                    obtain ⟨att47, fo48, hc49, h⟩ := bd2_s h
                    refine g_callVv (As := [.int (44 : Int32)]) (rest := []) (ws1 := (wMo E a0 a1 a2 a3 a4 a5 a6 a7 ss2 bg kp ik pt st tx ln asd3 att47 dn5 td6 fo48 nb26)) ⟨hx, hb, hml, hown, hts⟩ (kX7_takesSign E l a0 a1 a2 a3 a4 a5 a6 a7 ss2 bg kp ik pt st tx ln asd3 att24 dn5 td6 fo25 nb26 (44 : Int32) (att47, fo48) hc49) (cwV 1 hts gX7_does_X7_takesSign rfl rfl rfl (by decide +kernel) ⟨Nat.le_of_ble_eq_true rfl, Nat.le_of_ble_eq_true rfl⟩) hK hP hD hS hA hG hl [0, 1, 2, 3, 4, 5, 6, 7] 0 (by decide) rfl (ci := 7) rfl rfl rfl rfl rfl rfl rfl rfl (Nat.le_of_ble_eq_true rfl) dX7_does_85 (Nat.zero_le _) (Nat.zero_le _) (fun H locs hP hD hS => ?_)
                    exact hJ_J46 att47 fo48 _ _ _ hP hS (lv_sub hl [0, 1, 2, 3] rfl) h
            exact hL_rec22 gFU (0 : Int32) v21 v16 nb8 _ _ _ hP hS (lv_sub hl [0, 1, 2, 3] rfl) h
          refine lv_if_eq (tgt := 63) hx hb dX7_does_56 (by decide) (fun hc18 => ?_) (fun hc18 => ?_)
          · replace h := g_it hc18 h
            refine lv_iconst (v := (0 : Int32)) hx hb dX7_does_63 (by decide) ?_
            exact hJ_J19 (0 : Int32) _ _ _ hP hS (lv_sub hl [0, 1, 2] rfl) h
          · replace h := g_if hc18 h
            refine lv_iconst (v := (1 : Int32)) hx hb dX7_does_59 (by decide) ?_
            refine lv_goto (tgt := 64) hx hb dX7_does_60 (by decide) ?_
            exact hJ_J19 (1 : Int32) _ _ _ hP hS (lv_sub hl [0, 1, 2] rfl) h
        refine lv_if_lt (tgt := 43) hx hb dX7_does_36 (by decide) (fun hc14 => ?_) (fun hc14 => ?_)
        · replace h := g_it hc14 h
          refine lv_iconst (v := (0 : Int32)) hx hb dX7_does_43 (by decide) ?_
          exact hJ_J15 (0 : Int32) _ _ _ hP hS (lv_sub hl [0, 1, 2] rfl) h
        · replace h := g_if hc14 h
          refine lv_iconst (v := (1 : Int32)) hx hb dX7_does_39 (by decide) ?_
          refine lv_goto (tgt := 44) hx hb dX7_does_40 (by decide) ?_
          exact hJ_J15 (1 : Int32) _ _ _ hP hS (lv_sub hl [0, 1, 2] rfl) h
  exact hL_rec1 gFU ss asd (0 : Int32) (0 : Int32) td fo nb _ _ _ hP hS (lv_sub hl [0] rfl) h
set_option maxHeartbeats 4000000 in
set_option maxRecDepth 100000 in
theorem kX7_fault (E : gE) (l : Launch) (a0 a1 a2 a3 a4 a5 a6 a7 : Nat) (ss : Nat → Int32) (bg : Nat → Int32) (kp : Nat → Int32) (ik : Int32) (pt : Nat → Int32) (st : Int32) (tx : Nat → Int32) (ln : Int32) (asd : Nat → Int32) (att : Int32) (dn : Int32) (td : Int32) (fo : Int32) (nb : Nat → Int32) (p1 : Int32) (res : Int32 × (Nat → Int32) × (Nat → Int32) × (Nat → Int32) × Int32 × Int32 × Int32 × Int32 × (Nat → Int32)) (h : fX7_fault ss bg tx ln asd att dn td fo nb p1 = some res) : gMI E l yX7_fault wsX7_fault ({ frames := 9, cells := 0, slots := 0, locals := 208 } : Room) [.ref a0, .int p1] (wMo E a0 a1 a2 a3 a4 a5 a6 a7 ss bg kp ik pt st tx ln asd att dn td fo nb) (fun res : Int32 × (Nat → Int32) × (Nat → Int32) × (Nat → Int32) × Int32 × Int32 × Int32 × Int32 × (Nat → Int32) => (wMo E a0 a1 a2 a3 a4 a5 a6 a7 res.2.1 res.2.2.1 kp ik pt st tx ln res.2.2.2.1 res.2.2.2.2.1 res.2.2.2.2.2.1 res.2.2.2.2.2.2.1 res.2.2.2.2.2.2.2.1 res.2.2.2.2.2.2.2.2)) (fun res => res.1) res := by
  refine g_entI (cc := cX7_fault) (maxL := 4) (by decide) rfl (Nat.le_of_ble_eq_true rfl) ?_
  intro p e s m args below meth c A Q ls hx hb hml hown hts hK hP hD hS hA hG hret hl
  unfold fX7_fault at h
  replace hl : lv_has ls 4 [(0, .ref a0), (1, .int p1)] := hl
  have hiX7 : ∀ w ∈ wsX70, w ∈ wsX7_fault := by decide +kernel
  have hw0 := hts (.fieldLink RX7 166 "GlacierHutModel" "isForm" "Z") (by decide +kernel)
  have hw1 := hts (.fieldLink RX7 187 "GlacierHutModel" "told" "I") (by decide +kernel)
  refine lv_iload_n hx hb dX7_fault_0 rfl (lv_at hl 1 rfl) ?_
  refine lv_iconst (v := (0 : Int32)) hx hb dX7_fault_1 (by decide) ?_
  refine lv_iconst (v := (2 : Int32)) hx hb dX7_fault_2 (by decide) ?_
  obtain ⟨r1, hc2, h⟩ := bd1_s h
  refine g_callSi (As := [.int p1, .int (0 : Int32), .int (2 : Int32)]) (rest := []) (r := r1) ⟨hx, hb, hml, hown, hts⟩ (kX7_in E l p1 (0 : Int32) (2 : Int32) r1 hc2) (va_cwS 3 hts gX7_fault_X7_in rfl rfl rfl (by decide +kernel) ⟨Nat.le_of_ble_eq_true rfl, Nat.le_of_ble_eq_true rfl⟩) hK hP hD hS hA hG hl rfl rfl rfl (Nat.le_of_ble_eq_true rfl) dX7_fault_3 (Nat.zero_le _) (Nat.zero_le _) (fun H locs hP hD hS => ?_)
  refine lv_if_ne (tgt := 11) hx hb dX7_fault_6 (by decide) (fun hc3 => ?_) (fun hc3 => ?_)
  · replace h := g_if hc3 h
    refine lv_aload_n hx hb dX7_fault_11 rfl (lv_at hl 0 rfl) ?_
    obtain ⟨bg4, hc5, h⟩ := bd1_s h
    refine g_callVv (As := []) (rest := []) (ws1 := (wMo E a0 a1 a2 a3 a4 a5 a6 a7 ss bg4 kp ik pt st tx ln asd att dn td fo nb)) ⟨hx, hb, hml, hown, hts⟩ (kX7_begins E l a0 a1 a2 a3 a4 a5 a6 a7 ss bg kp ik pt st tx ln asd att dn td fo nb bg4 hc5) (cwV 0 hts gX7_fault_X7_begins rfl rfl rfl (by decide +kernel) ⟨Nat.le_of_ble_eq_true rfl, Nat.le_of_ble_eq_true rfl⟩) hK hP hD hS hA hG hl [0, 1, 2, 3, 4, 5, 6, 7] 0 (by decide) rfl (ci := 7) rfl rfl rfl rfl rfl rfl rfl rfl (Nat.le_of_ble_eq_true rfl) dX7_fault_12 (Nat.zero_le _) (Nat.zero_le _) (fun H locs hP hD hS => ?_)
    refine lv_aload_n hx hb dX7_fault_15 rfl (lv_at hl 0 rfl) ?_
    obtain ⟨r6, ss7, asd8, att9, dn10, td11, fo12, nb13, hc14, h⟩ := bd8_s h
    refine g_callVi (As := []) (rest := []) (r := r6) (ws1 := (wMo E a0 a1 a2 a3 a4 a5 a6 a7 ss7 bg4 kp ik pt st tx ln asd8 att9 dn10 td11 fo12 nb13)) ⟨hx, hb, hml, hown, hts⟩ (kX7_does E l a0 a1 a2 a3 a4 a5 a6 a7 ss bg4 kp ik pt st tx ln asd att dn td fo nb (r6, ss7, asd8, att9, dn10, td11, fo12, nb13) hc14) (cwV 0 hts gX7_fault_X7_does rfl rfl rfl (by decide +kernel) ⟨Nat.le_of_ble_eq_true rfl, Nat.le_of_ble_eq_true rfl⟩) hK hP hD hS hA hG hl [0, 1, 2, 3, 4, 5, 6, 7] 0 (by decide) rfl (ci := 7) rfl rfl rfl rfl rfl rfl rfl rfl rfl (Nat.le_of_ble_eq_true rfl) dX7_fault_16 (Nat.zero_le _) (Nat.zero_le _) (fun H locs hP hD hS => ?_)
    refine lv_istore_n (lv' := [(2, .int r6), (0, .ref a0), (1, .int p1)]) hx hb dX7_fault_19 rfl hl (by decide) rfl (fun ls hl => ?_)
    refine lv_aload_n hx hb dX7_fault_20 rfl (lv_at hl 1 rfl) ?_
    obtain ⟨ss15, hc16, h⟩ := bd1_s h
    refine g_callVv (As := []) (rest := []) (ws1 := (wMo E a0 a1 a2 a3 a4 a5 a6 a7 ss15 bg4 kp ik pt st tx ln asd8 att9 dn10 td11 fo12 nb13)) ⟨hx, hb, hml, hown, hts⟩ (kX7_returns E l a0 a1 a2 a3 a4 a5 a6 a7 ss7 bg4 kp ik pt st tx ln asd8 att9 dn10 td11 fo12 nb13 ss15 hc16) (cwV 0 hts gX7_fault_X7_returns rfl rfl rfl (by decide +kernel) ⟨Nat.le_of_ble_eq_true rfl, Nat.le_of_ble_eq_true rfl⟩) hK hP hD hS hA hG hl [0, 1, 2, 3, 4, 5, 6, 7] 0 (by decide) rfl (ci := 7) rfl rfl rfl rfl rfl rfl rfl rfl (Nat.le_of_ble_eq_true rfl) dX7_fault_21 (Nat.zero_le _) (Nat.zero_le _) (fun H locs hP hD hS => ?_)
    refine lv_iload_n hx hb dX7_fault_24 rfl (lv_at hl 0 rfl) ?_
    refine mrg_e h (fun J18 hK_J18 h => ?_)
    have hJ_J18 : ∀ (v21 : Int32) (H : Heap) (locs : List Loc) (ls : Array Slot), va_P E.1 vwCl (wMo E a0 a1 a2 a3 a4 a5 a6 a7 ss15 bg4 kp ik pt st tx ln asd8 att9 dn10 td11 fo12 nb13) H → va_S A s.heap H locs → lv_has ls 4 [(2, .int r6), (0, .ref a0), (1, .int p1)] → J18 v21 = some res → W p l e ({ frames := 9, cells := 0, slots := 0, locals := 208 } : Room) s m args below meth c H locs 0 0 Q (F0 m 45 ls [.int v21]) := by
      intro v21 H locs ls hP hS hl h
      replace hD : va_D A (wMo E a0 a1 a2 a3 a4 a5 a6 a7 ss15 bg4 kp ik pt st tx ln asd8 att9 dn10 td11 fo12 nb13) := gD_same hD rfl
      subst hK_J18
      refine lv_istore_n (lv' := [(3, .int v21), (2, .int r6), (0, .ref a0), (1, .int p1)]) hx hb dX7_fault_45 rfl hl (by decide) rfl (fun ls hl => ?_)
      refine lv_iload_n hx hb dX7_fault_46 rfl (lv_at hl 0 rfl) ?_
      refine lv_if_ne (tgt := 55) hx hb dX7_fault_47 (by decide) (fun hc22 => ?_) (fun hc22 => ?_)
      · replace h := g_if hc22 h
        refine lv_iload_n hx hb dX7_fault_55 rfl (lv_at hl 3 rfl) ?_
        refine lv_if_ne (tgt := 63) hx hb dX7_fault_56 (by decide) (fun hc23 => ?_) (fun hc23 => ?_)
        · replace h := g_if hc23 h
          refine lv_iload_n hx hb dX7_fault_63 rfl (lv_at hl 3 rfl) ?_
          refine lv_iconst (v := (1 : Int32)) hx hb dX7_fault_64 (by decide) ?_
          refine lv_icmp_ne (tgt := 83) hx hb dX7_fault_65 (by decide) (fun hc24 => ?_) (fun hc24 => ?_)
          · replace h := g_if hc24 h
            refine lv_aload_n hx hb dX7_fault_83 rfl (lv_at hl 2 rfl) ?_
            refine va_get (D := E.1) (cl := vwCl) (ci := 7) (v := .int td11) (C := RX7) (T := TX7) (N := 14) hx hb hts hiX7 hown hK hP 0 rfl rfl 11 (by decide) hw1 (fun _ h9 => h9) rfl dX7_fault_84 ?_
            exact hret (td11, ss15, bg4, asd8, att9, dn10, td11, fo12, nb13) _ _ _ _ _ (Option.some.inj h) hP hS rfl dX7_fault_87
          · replace h := g_it hc24 h
            refine lv_aload_n hx hb dX7_fault_68 rfl (lv_at hl 2 rfl) ?_
            refine va_get (D := E.1) (cl := vwCl) (ci := 7) (v := .int fo12) (C := RX7) (T := TX7) (N := 14) hx hb hts hiX7 hown hK hP 0 rfl rfl 12 (by decide) hw0 (fun _ h9 => h9) rfl dX7_fault_69 ?_
            refine lv_if_eq (tgt := 79) hx hb dX7_fault_72 (by decide) (fun hc25 => ?_) (fun hc25 => ?_)
            · replace h := g_it hc25 h
              refine lv_iconst (v := (1 : Int32)) hx hb dX7_fault_79 (by decide) ?_
              refine lv_goto (tgt := 87) hx hb dX7_fault_80 (by decide) ?_
              exact hret ((1 : Int32), ss15, bg4, asd8, att9, dn10, td11, fo12, nb13) _ _ _ _ _ (Option.some.inj h) hP hS rfl dX7_fault_87
            · replace h := g_if hc25 h
              refine lv_iconst (v := (2 : Int32)) hx hb dX7_fault_75 (by decide) ?_
              refine lv_goto (tgt := 87) hx hb dX7_fault_76 (by decide) ?_
              exact hret ((2 : Int32), ss15, bg4, asd8, att9, dn10, td11, fo12, nb13) _ _ _ _ _ (Option.some.inj h) hP hS rfl dX7_fault_87
        · replace h := g_it hc23 h
          refine lv_iload_n hx hb dX7_fault_59 rfl (lv_at hl 1 rfl) ?_
          refine lv_goto (tgt := 87) hx hb dX7_fault_60 (by decide) ?_
          exact hret (r6, ss15, bg4, asd8, att9, dn10, td11, fo12, nb13) _ _ _ _ _ (Option.some.inj h) hP hS rfl dX7_fault_87
      · replace h := g_it hc22 h
        refine lv_bipush (v := (-4 : Int32)) hx hb dX7_fault_50 (by decide) ?_
        refine lv_goto (tgt := 87) hx hb dX7_fault_52 (by decide) ?_
        exact hret ((-4 : Int32), ss15, bg4, asd8, att9, dn10, td11, fo12, nb13) _ _ _ _ _ (Option.some.inj h) hP hS rfl dX7_fault_87
    refine lv_if_lt (tgt := 44) hx hb dX7_fault_25 (by decide) (fun hc17 => ?_) (fun hc17 => ?_)
    · replace h := g_it hc17 h
      refine lv_iconst (v := (0 : Int32)) hx hb dX7_fault_44 (by decide) ?_
      exact hJ_J18 (0 : Int32) _ _ _ hP hS (lv_sub hl [0, 1, 2] rfl) h
    · replace h := g_if hc17 h
      refine lv_iload_n hx hb dX7_fault_28 rfl (lv_at hl 2 rfl) ?_
      refine lv_iconst (v := (2 : Int32)) hx hb dX7_fault_29 (by decide) ?_
      refine lv_icmp_lt (tgt := 40) hx hb dX7_fault_30 (by decide) (fun hc19 => ?_) (fun hc19 => ?_)
      · replace h := g_it hc19 h
        refine lv_iconst (v := (1 : Int32)) hx hb dX7_fault_40 (by decide) ?_
        refine lv_goto (tgt := 45) hx hb dX7_fault_41 (by decide) ?_
        exact hJ_J18 (1 : Int32) _ _ _ hP hS (lv_sub hl [0, 1, 2] rfl) h
      · replace h := g_if hc19 h
        refine lv_aload_n hx hb dX7_fault_33 rfl (lv_at hl 1 rfl) ?_
        refine va_get (D := E.1) (cl := vwCl) (ci := 7) (v := .int fo12) (C := RX7) (T := TX7) (N := 14) hx hb hts hiX7 hown hK hP 0 rfl rfl 12 (by decide) hw0 (fun _ h9 => h9) rfl dX7_fault_34 ?_
        refine lv_if_eq (tgt := 44) hx hb dX7_fault_37 (by decide) (fun hc20 => ?_) (fun hc20 => ?_)
        · replace h := g_it hc20 h
          refine lv_iconst (v := (0 : Int32)) hx hb dX7_fault_44 (by decide) ?_
          exact hJ_J18 (0 : Int32) _ _ _ hP hS (lv_sub hl [0, 1, 2] rfl) h
        · replace h := g_if hc20 h
          refine lv_iconst (v := (1 : Int32)) hx hb dX7_fault_40 (by decide) ?_
          refine lv_goto (tgt := 45) hx hb dX7_fault_41 (by decide) ?_
          exact hJ_J18 (1 : Int32) _ _ _ hP hS (lv_sub hl [0, 1, 2] rfl) h
  · replace h := g_it hc3 h
    refine lv_iconst (v := (-1 : Int32)) hx hb dX7_fault_9 (by decide) ?_
    exact hret ((-1 : Int32), ss, bg, asd, att, dn, td, fo, nb) _ _ _ _ _ (Option.some.inj h) hP hS rfl dX7_fault_10
set_option maxHeartbeats 4000000 in
set_option maxRecDepth 100000 in
theorem kX7_fly (E : gE) (l : Launch) (a0 a1 a2 a3 a4 a5 a6 a7 : Nat) (ss : Nat → Int32) (bg : Nat → Int32) (kp : Nat → Int32) (ik : Int32) (pt : Nat → Int32) (st : Int32) (tx : Nat → Int32) (ln : Int32) (asd : Nat → Int32) (att : Int32) (dn : Int32) (td : Int32) (fo : Int32) (nb : Nat → Int32)  (res : Int32 × (Nat → Int32) × (Nat → Int32) × (Nat → Int32) × Int32) (h : fX7_fly ss bg pt st  = some res) : gMI E l yX7_fly wsX7_fly ({ frames := 3, cells := 0, slots := 0, locals := 69 } : Room) [.ref a0] (wMo E a0 a1 a2 a3 a4 a5 a6 a7 ss bg kp ik pt st tx ln asd att dn td fo nb) (fun res : Int32 × (Nat → Int32) × (Nat → Int32) × (Nat → Int32) × Int32 => (wMo E a0 a1 a2 a3 a4 a5 a6 a7 res.2.1 res.2.2.1 kp ik res.2.2.2.1 res.2.2.2.2 tx ln asd att dn td fo nb)) (fun res => res.1) res := by
  refine g_entI (cc := cX7_fly) (maxL := 1) (by decide) rfl (Nat.le_of_ble_eq_true rfl) ?_
  intro p e s m args below meth c A Q ls hx hb hml hown hts hK hP hD hS hA hG hret hl
  unfold fX7_fly at h
  replace hl : lv_has ls 1 [(0, .ref a0)] := hl
  refine lv_aload_n hx hb dX7_fly_0 rfl (lv_at hl 0 rfl) ?_
  obtain ⟨bg1, hc2, h⟩ := bd1_s h
  refine g_callVv (As := []) (rest := []) (ws1 := (wMo E a0 a1 a2 a3 a4 a5 a6 a7 ss bg1 kp ik pt st tx ln asd att dn td fo nb)) ⟨hx, hb, hml, hown, hts⟩ (kX7_begins E l a0 a1 a2 a3 a4 a5 a6 a7 ss bg kp ik pt st tx ln asd att dn td fo nb bg1 hc2) (cwV 0 hts gX7_fly_X7_begins rfl rfl rfl (by decide +kernel) ⟨Nat.le_of_ble_eq_true rfl, Nat.le_of_ble_eq_true rfl⟩) hK hP hD hS hA hG hl [0, 1, 2, 3, 4, 5, 6, 7] 0 (by decide) rfl (ci := 7) rfl rfl rfl rfl rfl rfl rfl rfl (Nat.le_of_ble_eq_true rfl) dX7_fly_1 (Nat.zero_le _) (Nat.zero_le _) (fun H locs hP hD hS => ?_)
  refine lv_aload_n hx hb dX7_fly_4 rfl (lv_at hl 0 rfl) ?_
  refine lv_aload_n hx hb dX7_fly_5 rfl (lv_at hl 0 rfl) ?_
  obtain ⟨r3, ss4, hc5, h⟩ := bd2_s h
  refine g_callVi (As := []) (rest := [.ref a0]) (r := r3) (ws1 := (wMo E a0 a1 a2 a3 a4 a5 a6 a7 ss4 bg1 kp ik pt st tx ln asd att dn td fo nb)) ⟨hx, hb, hml, hown, hts⟩ (kX7_flies E l a0 a1 a2 a3 a4 a5 a6 a7 ss bg1 kp ik pt st tx ln asd att dn td fo nb (r3, ss4) hc5) (cwV 0 hts gX7_fly_X7_flies rfl rfl rfl (by decide +kernel) ⟨Nat.le_of_ble_eq_true rfl, Nat.le_of_ble_eq_true rfl⟩) hK hP hD hS hA hG hl [0, 1, 2, 3, 4, 5, 6, 7] 0 (by decide) rfl (ci := 7) rfl rfl rfl rfl rfl rfl rfl rfl rfl (Nat.le_of_ble_eq_true rfl) dX7_fly_6 (Nat.zero_le _) (Nat.zero_le _) (fun H locs hP hD hS => ?_)
  obtain ⟨r6, ss7, pt8, st9, hc10, h⟩ := bd4_s h
  refine g_callVi (As := [.int r3]) (rest := []) (r := r6) (ws1 := (wMo E a0 a1 a2 a3 a4 a5 a6 a7 ss7 bg1 kp ik pt8 st9 tx ln asd att dn td fo nb)) ⟨hx, hb, hml, hown, hts⟩ (kX7_acted E l a0 a1 a2 a3 a4 a5 a6 a7 ss4 bg1 kp ik pt st tx ln asd att dn td fo nb r3 (r6, ss7, pt8, st9) hc10) (cwV 1 hts gX7_fly_X7_acted rfl rfl rfl (by decide +kernel) ⟨Nat.le_of_ble_eq_true rfl, Nat.le_of_ble_eq_true rfl⟩) hK hP hD hS hA hG hl [0, 1, 2, 3, 4, 5, 6, 7] 0 (by decide) rfl (ci := 7) rfl rfl rfl rfl rfl rfl rfl rfl rfl (Nat.le_of_ble_eq_true rfl) dX7_fly_9 (Nat.zero_le _) (Nat.zero_le _) (fun H locs hP hD hS => ?_)
  exact hret (r6, ss7, bg1, pt8, st9) _ _ _ _ _ (Option.some.inj h) hP hS rfl dX7_fly_12
set_option maxHeartbeats 4000000 in
set_option maxRecDepth 100000 in
theorem kX7_goneOn (E : gE) (l : Launch) (a0 a1 a2 a3 a4 a5 a6 a7 : Nat) (ss : Nat → Int32) (bg : Nat → Int32) (kp : Nat → Int32) (ik : Int32) (pt : Nat → Int32) (st : Int32) (tx : Nat → Int32) (ln : Int32) (asd : Nat → Int32) (att : Int32) (dn : Int32) (td : Int32) (fo : Int32) (nb : Nat → Int32) (p1 : Int32) (res : Int32 × (Nat → Int32) × (Nat → Int32)) (h : fX7_goneOn ss bg p1 = some res) : gMI E l yX7_goneOn wsX7_goneOn ({ frames := 5, cells := 0, slots := 0, locals := 116 } : Room) [.ref a0, .int p1] (wMo E a0 a1 a2 a3 a4 a5 a6 a7 ss bg kp ik pt st tx ln asd att dn td fo nb) (fun res : Int32 × (Nat → Int32) × (Nat → Int32) => (wMo E a0 a1 a2 a3 a4 a5 a6 a7 res.2.1 res.2.2 kp ik pt st tx ln asd att dn td fo nb)) (fun res => res.1) res := by
  refine g_entI (cc := cX7_goneOn) (maxL := 3) (by decide) rfl (Nat.le_of_ble_eq_true rfl) ?_
  intro p e s m args below meth c A Q ls hx hb hml hown hts hK hP hD hS hA hG hret hl
  unfold fX7_goneOn at h
  replace hl : lv_has ls 3 [(0, .ref a0), (1, .int p1)] := hl
  have hiX7 : ∀ w ∈ wsX70, w ∈ wsX7_goneOn := by decide +kernel
  have hw0 := hts (.fieldLink RX7 7 "GlacierHutModel" "s" "[I") (by decide +kernel)
  refine lv_aload_n hx hb dX7_goneOn_0 rfl (lv_at hl 0 rfl) ?_
  refine lv_iload_n hx hb dX7_goneOn_1 rfl (lv_at hl 1 rfl) ?_
  obtain ⟨r1, hc2, h⟩ := bd1_s h
  refine g_callRi (As := [.int p1]) (rest := []) (r := r1) ⟨hx, hb, hml, hown, hts⟩ (kX7_isParty E l a0 a1 a2 a3 a4 a5 a6 a7 ss bg kp ik pt st tx ln asd att dn td fo nb p1 r1 hc2) (cwV 1 hts gX7_goneOn_X7_isParty rfl rfl rfl (by decide +kernel) ⟨Nat.le_of_ble_eq_true rfl, Nat.le_of_ble_eq_true rfl⟩) hK hP hD hS hA hG hl [0, 1, 2, 3, 4, 5, 6, 7] 0 (by decide) rfl (ci := 7) rfl rfl rfl rfl rfl rfl rfl (Nat.le_of_ble_eq_true rfl) dX7_goneOn_2 (Nat.zero_le _) (Nat.zero_le _) (fun H locs hP hD hS => ?_)
  refine lv_if_ne (tgt := 10) hx hb dX7_goneOn_5 (by decide) (fun hc3 => ?_) (fun hc3 => ?_)
  · replace h := g_if hc3 h
    refine lv_aload_n hx hb dX7_goneOn_10 rfl (lv_at hl 0 rfl) ?_
    refine lv_iload_n hx hb dX7_goneOn_11 rfl (lv_at hl 1 rfl) ?_
    refine lv_iconst (v := (3 : Int32)) hx hb dX7_goneOn_12 (by decide) ?_
    obtain ⟨r4, hc5, h⟩ := bd1_s h
    refine g_callRi (As := [.int p1, .int (3 : Int32)]) (rest := []) (r := r4) ⟨hx, hb, hml, hown, hts⟩ (kX7_ofParty E l a0 a1 a2 a3 a4 a5 a6 a7 ss bg kp ik pt st tx ln asd att dn td fo nb p1 (3 : Int32) r4 hc5) (cwV 2 hts gX7_goneOn_X7_ofParty rfl rfl rfl (by decide +kernel) ⟨Nat.le_of_ble_eq_true rfl, Nat.le_of_ble_eq_true rfl⟩) hK hP hD hS hA hG hl [0, 1, 2, 3, 4, 5, 6, 7] 0 (by decide) rfl (ci := 7) rfl rfl rfl rfl rfl rfl rfl (Nat.le_of_ble_eq_true rfl) dX7_goneOn_13 (Nat.zero_le _) (Nat.zero_le _) (fun H locs hP hD hS => ?_)
    refine lv_iconst (v := (1 : Int32)) hx hb dX7_goneOn_16 (by decide) ?_
    refine lv_icmp_le (tgt := 23) hx hb dX7_goneOn_17 (by decide) (fun hc6 => ?_) (fun hc6 => ?_)
    · replace h := g_it hc6 h
      refine lv_aload_n hx hb dX7_goneOn_23 rfl (lv_at hl 0 rfl) ?_
      obtain ⟨bg7, hc8, h⟩ := bd1_s h
      refine g_callVv (As := []) (rest := []) (ws1 := (wMo E a0 a1 a2 a3 a4 a5 a6 a7 ss bg7 kp ik pt st tx ln asd att dn td fo nb)) ⟨hx, hb, hml, hown, hts⟩ (kX7_begins E l a0 a1 a2 a3 a4 a5 a6 a7 ss bg kp ik pt st tx ln asd att dn td fo nb bg7 hc8) (cwV 0 hts gX7_goneOn_X7_begins rfl rfl rfl (by decide +kernel) ⟨Nat.le_of_ble_eq_true rfl, Nat.le_of_ble_eq_true rfl⟩) hK hP hD hS hA hG hl [0, 1, 2, 3, 4, 5, 6, 7] 0 (by decide) rfl (ci := 7) rfl rfl rfl rfl rfl rfl rfl rfl (Nat.le_of_ble_eq_true rfl) dX7_goneOn_24 (Nat.zero_le _) (Nat.zero_le _) (fun H locs hP hD hS => ?_)
      refine gl1_e h (fun S_rec9 hS_rec9 h => ?_)
      have hL_rec9 : ∀ (nF : Nat) (ss10 : Nat → Int32) (H : Heap) (locs : List Loc) (ls : Array Slot), va_P E.1 vwCl (wMo E a0 a1 a2 a3 a4 a5 a6 a7 ss10 bg7 kp ik pt st tx ln asd att dn td fo nb) H → va_S A s.heap H locs → lv_has ls 3 [(0, .ref a0), (1, .int p1)] → gl1 S_rec9 nF ss10 = some res → W p l e ({ frames := 5, cells := 0, slots := 0, locals := 116 } : Room) s m args below meth c H locs 0 0 Q (F0 m 27 ls []) := by
        intro nF
        induction nF with
        | zero => intro ss10 H locs ls hP hS hl h; exact gl1_z h
        | succ nF ih_rec9 =>
          intro ss10 H locs ls hP hS hl h
          replace hD : va_D A (wMo E a0 a1 a2 a3 a4 a5 a6 a7 ss10 bg7 kp ik pt st tx ln asd att dn td fo nb) := gD_same hD rfl
          replace h : S_rec9 (gl1 S_rec9 nF) ss10 = some res := h
          generalize gl1 S_rec9 nF = rec9 at h ih_rec9
          subst hS_rec9
          unfold sX7_goneOn_rec9 at h
          refine lv_aload_n hx hb dX7_goneOn_27 rfl (lv_at hl 0 rfl) ?_
          refine lv_iload_n hx hb dX7_goneOn_28 rfl (lv_at hl 1 rfl) ?_
          refine lv_iconst (v := (3 : Int32)) hx hb dX7_goneOn_29 (by decide) ?_
          obtain ⟨r11, hc12, h⟩ := bd1_s h
          refine g_callRi (As := [.int p1, .int (3 : Int32)]) (rest := []) (r := r11) ⟨hx, hb, hml, hown, hts⟩ (kX7_ofParty E l a0 a1 a2 a3 a4 a5 a6 a7 ss10 bg7 kp ik pt st tx ln asd att dn td fo nb p1 (3 : Int32) r11 hc12) (cwV 2 hts gX7_goneOn_X7_ofParty rfl rfl rfl (by decide +kernel) ⟨Nat.le_of_ble_eq_true rfl, Nat.le_of_ble_eq_true rfl⟩) hK hP hD hS hA hG hl [0, 1, 2, 3, 4, 5, 6, 7] 0 (by decide) rfl (ci := 7) rfl rfl rfl rfl rfl rfl rfl (Nat.le_of_ble_eq_true rfl) dX7_goneOn_30 (Nat.zero_le _) (Nat.zero_le _) (fun H locs hP hD hS => ?_)
          refine lv_iconst (v := (1 : Int32)) hx hb dX7_goneOn_33 (by decide) ?_
          refine lv_icmp_gt (tgt := 44) hx hb dX7_goneOn_34 (by decide) (fun hc13 => ?_) (fun hc13 => ?_)
          · replace h := g_it hc13 h
            refine lv_aload_n hx hb dX7_goneOn_44 rfl (lv_at hl 0 rfl) ?_
            refine lv_iload_n hx hb dX7_goneOn_45 rfl (lv_at hl 1 rfl) ?_
            refine lv_iconst (v := (3 : Int32)) hx hb dX7_goneOn_46 (by decide) ?_
            obtain ⟨r14, hc15, h⟩ := bd1_s h
            refine g_callRi (As := [.int p1, .int (3 : Int32)]) (rest := []) (r := r14) ⟨hx, hb, hml, hown, hts⟩ (kX7_ofParty E l a0 a1 a2 a3 a4 a5 a6 a7 ss10 bg7 kp ik pt st tx ln asd att dn td fo nb p1 (3 : Int32) r14 hc15) (cwV 2 hts gX7_goneOn_X7_ofParty rfl rfl rfl (by decide +kernel) ⟨Nat.le_of_ble_eq_true rfl, Nat.le_of_ble_eq_true rfl⟩) hK hP hD hS hA hG hl [0, 1, 2, 3, 4, 5, 6, 7] 0 (by decide) rfl (ci := 7) rfl rfl rfl rfl rfl rfl rfl (Nat.le_of_ble_eq_true rfl) dX7_goneOn_47 (Nat.zero_le _) (Nat.zero_le _) (fun H locs hP hD hS => ?_)
            refine lv_iconst (v := (2 : Int32)) hx hb dX7_goneOn_50 (by decide) ?_
            refine mrg_e h (fun J17 hK_J17 h => ?_)
            have hJ_J17 : ∀ (v19 : Int32) (H : Heap) (locs : List Loc) (ls : Array Slot), va_P E.1 vwCl (wMo E a0 a1 a2 a3 a4 a5 a6 a7 ss10 bg7 kp ik pt st tx ln asd att dn td fo nb) H → va_S A s.heap H locs → lv_has ls 3 [(0, .ref a0)] → J17 v19 = some res → W p l e ({ frames := 5, cells := 0, slots := 0, locals := 116 } : Room) s m args below meth c H locs 0 0 Q (F0 m 67 ls [.int v19]) := by
              intro v19 H locs ls hP hS hl h
              replace hD : va_D A (wMo E a0 a1 a2 a3 a4 a5 a6 a7 ss10 bg7 kp ik pt st tx ln asd att dn td fo nb) := gD_same hD rfl
              subst hK_J17
              refine lv_istore_n (lv' := [(2, .int v19), (0, .ref a0)]) hx hb dX7_goneOn_67 rfl hl (by decide) rfl (fun ls hl => ?_)
              refine lv_aload_n hx hb dX7_goneOn_68 rfl (lv_at hl 1 rfl) ?_
              obtain ⟨ss20, hc21, h⟩ := bd1_s h
              refine g_callVv (As := []) (rest := []) (ws1 := (wMo E a0 a1 a2 a3 a4 a5 a6 a7 ss20 bg7 kp ik pt st tx ln asd att dn td fo nb)) ⟨hx, hb, hml, hown, hts⟩ (kX7_returns E l a0 a1 a2 a3 a4 a5 a6 a7 ss10 bg7 kp ik pt st tx ln asd att dn td fo nb ss20 hc21) (cwV 0 hts gX7_goneOn_X7_returns rfl rfl rfl (by decide +kernel) ⟨Nat.le_of_ble_eq_true rfl, Nat.le_of_ble_eq_true rfl⟩) hK hP hD hS hA hG hl [0, 1, 2, 3, 4, 5, 6, 7] 0 (by decide) rfl (ci := 7) rfl rfl rfl rfl rfl rfl rfl rfl (Nat.le_of_ble_eq_true rfl) dX7_goneOn_69 (Nat.zero_le _) (Nat.zero_le _) (fun H locs hP hD hS => ?_)
              refine lv_iload_n hx hb dX7_goneOn_72 rfl (lv_at hl 0 rfl) ?_
              exact hret (v19, ss20, bg7) _ _ _ _ _ (Option.some.inj h) hP hS rfl dX7_goneOn_73
            refine lv_icmp_ne (tgt := 65) hx hb dX7_goneOn_51 (by decide) (fun hc16 => ?_) (fun hc16 => ?_)
            · replace h := g_if hc16 h
              refine lv_bipush (v := (-4 : Int32)) hx hb dX7_goneOn_65 (by decide) ?_
              exact hJ_J17 (-4 : Int32) _ _ _ hP hS (lv_sub hl [0] rfl) h
            · replace h := g_it hc16 h
              refine lv_aload_n hx hb dX7_goneOn_54 rfl (lv_at hl 0 rfl) ?_
              refine va_get (D := E.1) (cl := vwCl) (ci := 7) (v := .ref a1) (C := RX7) (T := TX7) (N := 14) hx hb hts hiX7 hown hK hP 0 rfl rfl 0 (by decide) hw0 (fun _ h9 => h9) rfl dX7_goneOn_55 ?_
              refine lv_iconst (v := (0 : Int32)) hx hb dX7_goneOn_58 (by decide) ?_
              obtain ⟨hg18, h⟩ := gd_s h
              refine va_iald (D := E.1) (cl := vwCl) (tys := gT E) hx hb hK hP 1 0 rfl rfl (inB_in hg18) dX7_goneOn_59 ?_
              refine lv_iconst (v := (1 : Int32)) hx hb dX7_goneOn_60 (by decide) ?_
              refine lv_isub hx hb dX7_goneOn_61 ?_
              refine lv_goto (tgt := 67) hx hb dX7_goneOn_62 (by decide) ?_
              exact hJ_J17 ((ss10 ((0 : Int32)).toNatClampNeg) - (1 : Int32)) _ _ _ hP hS (lv_sub hl [0] rfl) h
          · replace h := g_if hc13 h
            refine lv_aload_n hx hb dX7_goneOn_37 rfl (lv_at hl 0 rfl) ?_
            obtain ⟨ss22, hc23, h⟩ := bd1_s h
            refine g_callVv (As := []) (rest := []) (ws1 := (wMo E a0 a1 a2 a3 a4 a5 a6 a7 ss22 bg7 kp ik pt st tx ln asd att dn td fo nb)) ⟨hx, hb, hml, hown, hts⟩ (kX7_night E l a0 a1 a2 a3 a4 a5 a6 a7 ss10 bg7 kp ik pt st tx ln asd att dn td fo nb ss22 hc23) (cwV 0 hts gX7_goneOn_X7_night rfl rfl rfl (by decide +kernel) ⟨Nat.le_of_ble_eq_true rfl, Nat.le_of_ble_eq_true rfl⟩) hK hP hD hS hA hG hl [0, 1, 2, 3, 4, 5, 6, 7] 0 (by decide) rfl (ci := 7) rfl rfl rfl rfl rfl rfl rfl rfl (Nat.le_of_ble_eq_true rfl) dX7_goneOn_38 (Nat.zero_le _) (Nat.zero_le _) (fun H locs hP hD hS => ?_)
            refine lv_goto (tgt := 27) hx hb dX7_goneOn_41 (by decide) ?_
            exact ih_rec9 ss22 _ _ _ hP hS (lv_sub hl [0, 1] rfl) h
      exact hL_rec9 gFU ss _ _ _ hP hS (lv_sub hl [0, 1] rfl) h
    · replace h := g_if hc6 h
      refine lv_bipush (v := (-2 : Int32)) hx hb dX7_goneOn_20 (by decide) ?_
      exact hret ((-2 : Int32), ss, bg) _ _ _ _ _ (Option.some.inj h) hP hS rfl dX7_goneOn_22
  · replace h := g_it hc3 h
    refine lv_iconst (v := (-1 : Int32)) hx hb dX7_goneOn_8 (by decide) ?_
    exact hret ((-1 : Int32), ss, bg) _ _ _ _ _ (Option.some.inj h) hP hS rfl dX7_goneOn_9
set_option maxHeartbeats 4000000 in
set_option maxRecDepth 100000 in
theorem kX7_isSetting (E : gE) (l : Launch)   (p1 : Int32) (p2 : Int32) (res : Int32) (h : fX7_isSetting  p1 p2 = some res) : gMI E l yX7_isSetting wsX7_isSetting ({ frames := 1, cells := 0, slots := 0, locals := 22 } : Room) [.int p1, .int p2] ([] : va_W) (fun res : Int32 => ([] : va_W)) (fun res => res) res := by
  refine g_entZ (cc := cX7_isSetting) (maxL := 2) (by decide) rfl (Nat.le_of_ble_eq_true rfl) ?_
  intro p e s m args below meth c A Q ls hx hb hml hown hts hK hP hD hS hA hG hret hl
  unfold fX7_isSetting at h
  replace hl : lv_has ls 2 [(0, .int p1), (1, .int p2)] := hl
  refine lv_iload_n hx hb dX7_isSetting_0 rfl (lv_at hl 0 rfl) ?_
  by_cases hk1 : p1 = (0 : Int32)
  · replace h := g_it hk1 h
    refine lv_lookup (tgt := 28) (off := 27) hx hb dX7_isSetting_1 (by decide) (by rw [hk1]; rfl) (by decide) ?_
    refine lv_iload_n hx hb dX7_isSetting_28 rfl (lv_at hl 1 rfl) ?_
    refine lv_iconst (v := (1 : Int32)) hx hb dX7_isSetting_29 (by decide) ?_
    refine lv_bipush (v := (40 : Int32)) hx hb dX7_isSetting_30 (by decide) ?_
    obtain ⟨r3, hc4, h⟩ := bd1_s h
    refine g_callSi (As := [.int p2, .int (1 : Int32), .int (40 : Int32)]) (rest := []) (r := r3) ⟨hx, hb, hml, hown, hts⟩ (kX7_in E l p2 (1 : Int32) (40 : Int32) r3 hc4) (va_cwS 3 hts gX7_isSetting_X7_in rfl rfl rfl (by decide +kernel) ⟨Nat.le_of_ble_eq_true rfl, Nat.le_of_ble_eq_true rfl⟩) hK hP hD hS hA hG hl rfl rfl rfl (Nat.le_of_ble_eq_true rfl) dX7_isSetting_32 (Nat.zero_le _) (Nat.zero_le _) (fun H locs hP hD hS => ?_)
    obtain ⟨hg5, h⟩ := gd_s h
    exact hret r3 _ _ _ _ _ (Option.some.inj h) hP hS rfl (nzB_nar hg5) dX7_isSetting_35
  replace h := g_if hk1 h
  by_cases hk2 : p1 = (1 : Int32)
  · replace h := g_it hk2 h
    refine lv_lookup (tgt := 36) (off := 35) hx hb dX7_isSetting_1 (by decide) (by rw [hk2]; rfl) (by decide) ?_
    refine lv_iload_n hx hb dX7_isSetting_36 rfl (lv_at hl 1 rfl) ?_
    refine lv_iconst (v := (1 : Int32)) hx hb dX7_isSetting_37 (by decide) ?_
    refine lv_iconst (v := (3 : Int32)) hx hb dX7_isSetting_38 (by decide) ?_
    obtain ⟨r6, hc7, h⟩ := bd1_s h
    refine g_callSi (As := [.int p2, .int (1 : Int32), .int (3 : Int32)]) (rest := []) (r := r6) ⟨hx, hb, hml, hown, hts⟩ (kX7_in E l p2 (1 : Int32) (3 : Int32) r6 hc7) (va_cwS 3 hts gX7_isSetting_X7_in rfl rfl rfl (by decide +kernel) ⟨Nat.le_of_ble_eq_true rfl, Nat.le_of_ble_eq_true rfl⟩) hK hP hD hS hA hG hl rfl rfl rfl (Nat.le_of_ble_eq_true rfl) dX7_isSetting_39 (Nat.zero_le _) (Nat.zero_le _) (fun H locs hP hD hS => ?_)
    obtain ⟨hg8, h⟩ := gd_s h
    exact hret r6 _ _ _ _ _ (Option.some.inj h) hP hS rfl (nzB_nar hg8) dX7_isSetting_42
  replace h := g_if hk2 h
  refine lv_lookup (tgt := 43) (off := 42) hx hb dX7_isSetting_1 (by decide) (by show Op.lookupswitch.offset [(0, 27), (1, 35)] 42 _ = _; rw [lv_osw hk1 (by decide), lv_osw hk2 (by decide)]; rfl) (by decide) ?_
  refine lv_iload_n hx hb dX7_isSetting_43 rfl (lv_at hl 0 rfl) ?_
  refine lv_iconst (v := (2 : Int32)) hx hb dX7_isSetting_44 (by decide) ?_
  refine lv_iconst (v := (3 : Int32)) hx hb dX7_isSetting_45 (by decide) ?_
  obtain ⟨r9, hc10, h⟩ := bd1_s h
  refine g_callSi (As := [.int p1, .int (2 : Int32), .int (3 : Int32)]) (rest := []) (r := r9) ⟨hx, hb, hml, hown, hts⟩ (kX7_in E l p1 (2 : Int32) (3 : Int32) r9 hc10) (va_cwS 3 hts gX7_isSetting_X7_in rfl rfl rfl (by decide +kernel) ⟨Nat.le_of_ble_eq_true rfl, Nat.le_of_ble_eq_true rfl⟩) hK hP hD hS hA hG hl rfl rfl rfl (Nat.le_of_ble_eq_true rfl) dX7_isSetting_46 (Nat.zero_le _) (Nat.zero_le _) (fun H locs hP hD hS => ?_)
  refine lv_if_eq (tgt := 66) hx hb dX7_isSetting_49 (by decide) (fun hc11 => ?_) (fun hc11 => ?_)
  · replace h := g_it hc11 h
    refine lv_iconst (v := (0 : Int32)) hx hb dX7_isSetting_66 (by decide) ?_
    exact hret (0 : Int32) _ _ _ _ _ (Option.some.inj h) hP hS rfl rfl dX7_isSetting_67
  · replace h := g_if hc11 h
    refine lv_iload_n hx hb dX7_isSetting_52 rfl (lv_at hl 1 rfl) ?_
    refine lv_iconst (v := (0 : Int32)) hx hb dX7_isSetting_53 (by decide) ?_
    refine lv_bipush (v := (9 : Int32)) hx hb dX7_isSetting_54 (by decide) ?_
    obtain ⟨r12, hc13, h⟩ := bd1_s h
    refine g_callSi (As := [.int p2, .int (0 : Int32), .int (9 : Int32)]) (rest := []) (r := r12) ⟨hx, hb, hml, hown, hts⟩ (kX7_in E l p2 (0 : Int32) (9 : Int32) r12 hc13) (va_cwS 3 hts gX7_isSetting_X7_in rfl rfl rfl (by decide +kernel) ⟨Nat.le_of_ble_eq_true rfl, Nat.le_of_ble_eq_true rfl⟩) hK hP hD hS hA hG hl rfl rfl rfl (Nat.le_of_ble_eq_true rfl) dX7_isSetting_56 (Nat.zero_le _) (Nat.zero_le _) (fun H locs hP hD hS => ?_)
    refine lv_if_eq (tgt := 66) hx hb dX7_isSetting_59 (by decide) (fun hc14 => ?_) (fun hc14 => ?_)
    · replace h := g_it hc14 h
      refine lv_iconst (v := (0 : Int32)) hx hb dX7_isSetting_66 (by decide) ?_
      exact hret (0 : Int32) _ _ _ _ _ (Option.some.inj h) hP hS rfl rfl dX7_isSetting_67
    · replace h := g_if hc14 h
      refine lv_iconst (v := (1 : Int32)) hx hb dX7_isSetting_62 (by decide) ?_
      refine lv_goto (tgt := 67) hx hb dX7_isSetting_63 (by decide) ?_
      exact hret (1 : Int32) _ _ _ _ _ (Option.some.inj h) hP hS rfl rfl dX7_isSetting_67
set_option maxHeartbeats 4000000 in
set_option maxRecDepth 100000 in
theorem kX7_keep (E : gE) (l : Launch) (a0 a1 a2 a3 a4 a5 a6 a7 : Nat) (ss : Nat → Int32) (bg : Nat → Int32) (kp : Nat → Int32) (ik : Int32) (pt : Nat → Int32) (st : Int32) (tx : Nat → Int32) (ln : Int32) (asd : Nat → Int32) (att : Int32) (dn : Int32) (td : Int32) (fo : Int32) (nb : Nat → Int32)  (res : Int32 × (Nat → Int32) × Int32) (h : fX7_keep ss kp  = some res) : gMI E l yX7_keep wsX7_keep ({ frames := 0, cells := 0, slots := 0, locals := 0 } : Room) [.ref a0] (wMo E a0 a1 a2 a3 a4 a5 a6 a7 ss bg kp ik pt st tx ln asd att dn td fo nb) (fun res : Int32 × (Nat → Int32) × Int32 => (wMo E a0 a1 a2 a3 a4 a5 a6 a7 ss bg res.2.1 res.2.2 pt st tx ln asd att dn td fo nb)) (fun res => res.1) res := by
  refine g_entI (cc := cX7_keep) (maxL := 2) (by decide) rfl (Nat.le_of_ble_eq_true rfl) ?_
  intro p e s m args below meth c A Q ls hx hb hml hown hts hK hP hD hS hA hG hret hl
  unfold fX7_keep at h
  replace hl : lv_has ls 2 [(0, .ref a0)] := hl
  have hiX7 : ∀ w ∈ wsX70, w ∈ wsX7_keep := by decide +kernel
  have hw0 := hts (.fieldLink RX7 156 "GlacierHutModel" "isKept" "Z") (by decide +kernel)
  have hw1 := hts (.fieldLink RX7 7 "GlacierHutModel" "s" "[I") (by decide +kernel)
  have hw2 := hts (.fieldLink RX7 16 "GlacierHutModel" "kept" "[I") (by decide +kernel)
  refine lv_iconst (v := (0 : Int32)) hx hb dX7_keep_0 (by decide) ?_
  refine lv_istore_n (lv' := [(1, .int (0 : Int32)), (0, .ref a0)]) hx hb dX7_keep_1 rfl hl (by decide) rfl (fun ls hl => ?_)
  refine gl2_e h (fun S_rec1 hS_rec1 h => ?_)
  have hL_rec1 : ∀ (nF : Nat) (v2 : Int32) (kp3 : Nat → Int32) (H : Heap) (locs : List Loc) (ls : Array Slot), va_P E.1 vwCl (wMo E a0 a1 a2 a3 a4 a5 a6 a7 ss bg kp3 ik pt st tx ln asd att dn td fo nb) H → va_S A s.heap H locs → lv_has ls 2 [(1, .int v2), (0, .ref a0)] → gl2 S_rec1 nF v2 kp3 = some res → W p l e ({ frames := 0, cells := 0, slots := 0, locals := 0 } : Room) s m args below meth c H locs 0 0 Q (F0 m 2 ls []) := by
    intro nF
    induction nF with
    | zero => intro v2 kp3 H locs ls hP hS hl h; exact gl2_z h
    | succ nF ih_rec1 =>
      intro v2 kp3 H locs ls hP hS hl h
      replace hD : va_D A (wMo E a0 a1 a2 a3 a4 a5 a6 a7 ss bg kp3 ik pt st tx ln asd att dn td fo nb) := gD_same hD rfl
      replace h : S_rec1 (gl2 S_rec1 nF) v2 kp3 = some res := h
      generalize gl2 S_rec1 nF = rec1 at h ih_rec1
      subst hS_rec1
      unfold sX7_keep_rec1 at h
      refine lv_iload_n hx hb dX7_keep_2 rfl (lv_at hl 0 rfl) ?_
      refine lv_sipush (v := (599 : Int32)) hx hb dX7_keep_3 (by decide) ?_
      refine lv_icmp_ge (tgt := 27) hx hb dX7_keep_6 (by decide) (fun hc4 => ?_) (fun hc4 => ?_)
      · replace h := g_it hc4 h
        refine lv_aload_n hx hb dX7_keep_27 rfl (lv_at hl 1 rfl) ?_
        refine lv_iconst (v := (1 : Int32)) hx hb dX7_keep_28 (by decide) ?_
        refine va_put (D := E.1) (cl := vwCl) (ci := 7) (v := .int (1 : Int32)) (ty := .boolean) (C := RX7) (T := TX7) (N := 14) hx hb hts hiX7 tyX7 tyX7_ok nmX7 hown hK hP hD hS 0 rfl rfl 3 (by decide) hw0 (fun _ h9 => h9) rfl (by decide +kernel) rfl rfl (Nat.le_of_ble_eq_true rfl) dX7_keep_29 (fun H locs hP hD hS => ?_)
        replace hP : va_P E.1 vwCl (wMo E a0 a1 a2 a3 a4 a5 a6 a7 ss bg kp3 (1 : Int32) pt st tx ln asd att dn td fo nb) H := hP
        replace hD : va_D A (wMo E a0 a1 a2 a3 a4 a5 a6 a7 ss bg kp3 (1 : Int32) pt st tx ln asd att dn td fo nb) := hD
        refine lv_aload_n hx hb dX7_keep_32 rfl (lv_at hl 1 rfl) ?_
        refine va_get (D := E.1) (cl := vwCl) (ci := 7) (v := .ref a1) (C := RX7) (T := TX7) (N := 14) hx hb hts hiX7 hown hK hP 0 rfl rfl 0 (by decide) hw1 (fun _ h9 => h9) rfl dX7_keep_33 ?_
        refine lv_iconst (v := (0 : Int32)) hx hb dX7_keep_36 (by decide) ?_
        obtain ⟨hg5, h⟩ := gd_s h
        refine va_iald (D := E.1) (cl := vwCl) (tys := gT E) hx hb hK hP 1 0 rfl rfl (inB_in hg5) dX7_keep_37 ?_
        exact hret ((ss ((0 : Int32)).toNatClampNeg), kp3, (1 : Int32)) _ _ _ _ _ (Option.some.inj h) hP hS rfl dX7_keep_38
      · replace h := g_if hc4 h
        refine lv_aload_n hx hb dX7_keep_9 rfl (lv_at hl 1 rfl) ?_
        refine va_get (D := E.1) (cl := vwCl) (ci := 7) (v := .ref a3) (C := RX7) (T := TX7) (N := 14) hx hb hts hiX7 hown hK hP 0 rfl rfl 2 (by decide) hw2 (fun _ h9 => h9) rfl dX7_keep_10 ?_
        refine lv_iload_n hx hb dX7_keep_13 rfl (lv_at hl 0 rfl) ?_
        refine lv_aload_n hx hb dX7_keep_14 rfl (lv_at hl 1 rfl) ?_
        refine va_get (D := E.1) (cl := vwCl) (ci := 7) (v := .ref a1) (C := RX7) (T := TX7) (N := 14) hx hb hts hiX7 hown hK hP 0 rfl rfl 0 (by decide) hw1 (fun _ h9 => h9) rfl dX7_keep_15 ?_
        refine lv_iload_n hx hb dX7_keep_18 rfl (lv_at hl 0 rfl) ?_
        obtain ⟨hg6, h⟩ := gd_s h
        refine va_iald (D := E.1) (cl := vwCl) (tys := gT E) hx hb hK hP 1 0 rfl rfl (inB_in hg6) dX7_keep_19 ?_
        refine va_iast (D := E.1) (cl := vwCl) (tys := gT E) hx hb hK hP hD hS 3 0 rfl rfl (inB_in hg6) dX7_keep_20 (fun H locs hP hD hS => ?_)
        obtain ⟨kp7, e_kp7⟩ : ∃ y : Nat → Int32, y = (upd kp3 (v2).toNatClampNeg (ss (v2).toNatClampNeg)) := ⟨_, rfl⟩
        replace h := jl_s e_kp7 h
        replace hP : va_P E.1 vwCl (wMo E a0 a1 a2 a3 a4 a5 a6 a7 ss bg kp7 ik pt st tx ln asd att dn td fo nb) H := (by rw [e_kp7]; exact hP)
        replace hD : va_D A (wMo E a0 a1 a2 a3 a4 a5 a6 a7 ss bg kp7 ik pt st tx ln asd att dn td fo nb) := gD_same hD rfl
        obtain ⟨v8, e_v8⟩ : ∃ y : Int32, y = (v2 + (1 : Int32)) := ⟨_, rfl⟩
        replace h := jl_s e_v8 h
        refine lv_iinc (v := v8) (lv' := [(1, .int v8), (0, .ref a0)]) hx hb dX7_keep_21 hl (k := 0) rfl (by rw [e_v8]; rfl) (by decide) rfl (fun ls hl => ?_)
        refine lv_goto (tgt := 2) hx hb dX7_keep_24 (by decide) ?_
        exact ih_rec1 v8 kp7 _ _ _ hP hS (lv_sub hl [0, 1] rfl) h
  exact hL_rec1 gFU (0 : Int32) kp _ _ _ hP hS (lv_sub hl [0, 1] rfl) h
set_option maxHeartbeats 4000000 in
set_option maxRecDepth 100000 in
theorem kX7_load (E : gE) (l : Launch) (a0 a1 a2 a3 a4 a5 a6 a7 : Nat) (ss : Nat → Int32) (bg : Nat → Int32) (kp : Nat → Int32) (ik : Int32) (pt : Nat → Int32) (st : Int32) (tx : Nat → Int32) (ln : Int32) (asd : Nat → Int32) (att : Int32) (dn : Int32) (td : Int32) (fo : Int32) (nb : Nat → Int32) (p1 : Int32) (p2 : Int32) (p3 : Int32) (res : Int32 × (Nat → Int32) × (Nat → Int32) × (Nat → Int32) × Int32) (h : fX7_load ss bg pt st p1 p2 p3 = some res) : gMI E l yX7_load wsX7_load ({ frames := 2, cells := 0, slots := 0, locals := 46 } : Room) [.ref a0, .int p1, .int p2, .int p3] (wMo E a0 a1 a2 a3 a4 a5 a6 a7 ss bg kp ik pt st tx ln asd att dn td fo nb) (fun res : Int32 × (Nat → Int32) × (Nat → Int32) × (Nat → Int32) × Int32 => (wMo E a0 a1 a2 a3 a4 a5 a6 a7 res.2.1 res.2.2.1 kp ik res.2.2.2.1 res.2.2.2.2 tx ln asd att dn td fo nb)) (fun res => res.1) res := by
  refine g_entI (cc := cX7_load) (maxL := 4) (by decide) rfl (Nat.le_of_ble_eq_true rfl) ?_
  intro p e s m args below meth c A Q ls hx hb hml hown hts hK hP hD hS hA hG hret hl
  unfold fX7_load at h
  replace hl : lv_has ls 4 [(0, .ref a0), (1, .int p1), (2, .int p2), (3, .int p3)] := hl
  refine lv_aload_n hx hb dX7_load_0 rfl (lv_at hl 0 rfl) ?_
  obtain ⟨bg1, hc2, h⟩ := bd1_s h
  refine g_callVv (As := []) (rest := []) (ws1 := (wMo E a0 a1 a2 a3 a4 a5 a6 a7 ss bg1 kp ik pt st tx ln asd att dn td fo nb)) ⟨hx, hb, hml, hown, hts⟩ (kX7_begins E l a0 a1 a2 a3 a4 a5 a6 a7 ss bg kp ik pt st tx ln asd att dn td fo nb bg1 hc2) (cwV 0 hts gX7_load_X7_begins rfl rfl rfl (by decide +kernel) ⟨Nat.le_of_ble_eq_true rfl, Nat.le_of_ble_eq_true rfl⟩) hK hP hD hS hA hG hl [0, 1, 2, 3, 4, 5, 6, 7] 0 (by decide) rfl (ci := 7) rfl rfl rfl rfl rfl rfl rfl rfl (Nat.le_of_ble_eq_true rfl) dX7_load_1 (Nat.zero_le _) (Nat.zero_le _) (fun H locs hP hD hS => ?_)
  refine lv_aload_n hx hb dX7_load_4 rfl (lv_at hl 0 rfl) ?_
  refine lv_aload_n hx hb dX7_load_5 rfl (lv_at hl 0 rfl) ?_
  refine lv_iload_n hx hb dX7_load_6 rfl (lv_at hl 1 rfl) ?_
  refine lv_iload_n hx hb dX7_load_7 rfl (lv_at hl 2 rfl) ?_
  refine lv_iload_n hx hb dX7_load_8 rfl (lv_at hl 3 rfl) ?_
  obtain ⟨r3, ss4, hc5, h⟩ := bd2_s h
  refine g_callVi (As := [.int p1, .int p2, .int p3]) (rest := [.ref a0]) (r := r3) (ws1 := (wMo E a0 a1 a2 a3 a4 a5 a6 a7 ss4 bg1 kp ik pt st tx ln asd att dn td fo nb)) ⟨hx, hb, hml, hown, hts⟩ (kX7_loads E l a0 a1 a2 a3 a4 a5 a6 a7 ss bg1 kp ik pt st tx ln asd att dn td fo nb p1 p2 p3 (r3, ss4) hc5) (cwV 3 hts gX7_load_X7_loads rfl rfl rfl (by decide +kernel) ⟨Nat.le_of_ble_eq_true rfl, Nat.le_of_ble_eq_true rfl⟩) hK hP hD hS hA hG hl [0, 1, 2, 3, 4, 5, 6, 7] 0 (by decide) rfl (ci := 7) rfl rfl rfl rfl rfl rfl rfl rfl rfl (Nat.le_of_ble_eq_true rfl) dX7_load_9 (Nat.zero_le _) (Nat.zero_le _) (fun H locs hP hD hS => ?_)
  obtain ⟨r6, ss7, pt8, st9, hc10, h⟩ := bd4_s h
  refine g_callVi (As := [.int r3]) (rest := []) (r := r6) (ws1 := (wMo E a0 a1 a2 a3 a4 a5 a6 a7 ss7 bg1 kp ik pt8 st9 tx ln asd att dn td fo nb)) ⟨hx, hb, hml, hown, hts⟩ (kX7_acted E l a0 a1 a2 a3 a4 a5 a6 a7 ss4 bg1 kp ik pt st tx ln asd att dn td fo nb r3 (r6, ss7, pt8, st9) hc10) (cwV 1 hts gX7_load_X7_acted rfl rfl rfl (by decide +kernel) ⟨Nat.le_of_ble_eq_true rfl, Nat.le_of_ble_eq_true rfl⟩) hK hP hD hS hA hG hl [0, 1, 2, 3, 4, 5, 6, 7] 0 (by decide) rfl (ci := 7) rfl rfl rfl rfl rfl rfl rfl rfl rfl (Nat.le_of_ble_eq_true rfl) dX7_load_12 (Nat.zero_le _) (Nat.zero_le _) (fun H locs hP hD hS => ?_)
  exact hret (r6, ss7, bg1, pt8, st9) _ _ _ _ _ (Option.some.inj h) hP hS rfl dX7_load_15
