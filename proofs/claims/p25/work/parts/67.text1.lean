set_option maxHeartbeats 4000000 in
set_option maxRecDepth 100000 in
theorem kX5_append (E : gE) (l : Launch) (a0 a1 a2 : Nat) (ch : Nat → Int32) (tl : Int32) (nu : Nat → Int32) (le : Int32) (nx : Int32) (p1 : Int32) (res : (Nat → Int32) × Int32) (h : fX5_append ch tl p1 = some res) : gMV E l yX5_append wsX5_append ({ frames := 0, cells := 0, slots := 0, locals := 0 } : Room) [.ref a0, .int p1] (wTx E a0 a1 a2 ch tl nu le nx) (fun res : (Nat → Int32) × Int32 => (wTx E a0 a1 a2 res.1 res.2 nu le nx)) res := by
  refine g_entV (cc := cX5_append) (maxL := 2) (by decide) rfl (Nat.le_of_ble_eq_true rfl) ?_
  intro p e s m args below meth c A Q ls hx hb hml hown hts hK hP hD hS hA hG hret hl
  unfold fX5_append at h
  replace hl : lv_has ls 2 [(0, .ref a0), (1, .int p1)] := hl
  have hiX5 : ∀ w ∈ wsX50, w ∈ wsX5_append := by decide +kernel
  have hw0 := hts (.fieldLink RX5 17 "GlacierHut$Text" "length" "I") (by decide +kernel)
  have hw1 := hts (.fieldLink RX5 9 "GlacierHut$Text" "characters" "[C") (by decide +kernel)
  refine lv_aload_n hx hb dX5_append_0 rfl (lv_at hl 0 rfl) ?_
  refine va_get (D := E.1) (cl := vwCl) (ci := 5) (v := .int tl) (C := RX5) (T := TX5) (N := 5) hx hb hts hiX5 hown hK hP 0 rfl rfl 1 (by decide) hw0 (fun _ h9 => h9) rfl dX5_append_1 ?_
  refine lv_bipush (v := (60 : Int32)) hx hb dX5_append_4 (by decide) ?_
  refine lv_icmp_ge (tgt := 30) hx hb dX5_append_6 (by decide) (fun hc1 => ?_) (fun hc1 => ?_)
  · replace h := g_it hc1 h
    exact hret (ch, tl) _ _ _ _ (Option.some.inj h) hP hS dX5_append_30
  · replace h := g_if hc1 h
    refine lv_aload_n hx hb dX5_append_9 rfl (lv_at hl 0 rfl) ?_
    refine va_get (D := E.1) (cl := vwCl) (ci := 5) (v := .ref a1) (C := RX5) (T := TX5) (N := 5) hx hb hts hiX5 hown hK hP 0 rfl rfl 0 (by decide) hw1 (fun _ h9 => h9) rfl dX5_append_10 ?_
    refine lv_aload_n hx hb dX5_append_13 rfl (lv_at hl 0 rfl) ?_
    refine va_get (D := E.1) (cl := vwCl) (ci := 5) (v := .int tl) (C := RX5) (T := TX5) (N := 5) hx hb hts hiX5 hown hK hP 0 rfl rfl 1 (by decide) hw0 (fun _ h9 => h9) rfl dX5_append_14 ?_
    refine lv_iload_n hx hb dX5_append_17 rfl (lv_at hl 1 rfl) ?_
    refine lv_i2c hx hb dX5_append_18 rfl ?_
    obtain ⟨hg2, h⟩ := gd_s h
    refine va_cast (D := E.1) (cl := vwCl) (tys := gT E) hx hb hK hP hD hS 1 2 rfl rfl (inB_in hg2) dX5_append_19 (fun H locs hP hD hS => ?_)
    obtain ⟨ch3, e_ch3⟩ : ∃ y : Nat → Int32, y = (upd ch (tl).toNatClampNeg (vp_nar .char (((p1).toUInt32 % 65536).toInt32))) := ⟨_, rfl⟩
    replace h := jl_s e_ch3 h
    replace hP : va_P E.1 vwCl (wTx E a0 a1 a2 ch3 tl nu le nx) H := (by rw [e_ch3]; exact hP)
    replace hD : va_D A (wTx E a0 a1 a2 ch3 tl nu le nx) := gD_same hD rfl
    refine lv_aload_n hx hb dX5_append_20 rfl (lv_at hl 0 rfl) ?_
    refine lv_dup hx hb dX5_append_21 rfl ?_
    refine va_get (D := E.1) (cl := vwCl) (ci := 5) (v := .int tl) (C := RX5) (T := TX5) (N := 5) hx hb hts hiX5 hown hK hP 0 rfl rfl 1 (by decide) hw0 (fun _ h9 => h9) rfl dX5_append_22 ?_
    refine lv_iconst (v := (1 : Int32)) hx hb dX5_append_25 (by decide) ?_
    refine lv_iadd hx hb dX5_append_26 ?_
    refine lv_topi (fun v4 e_v4 => ?_)
    replace h := jl_s e_v4 h
    refine va_put (D := E.1) (cl := vwCl) (ci := 5) (v := .int v4) (ty := .int) (C := RX5) (T := TX5) (N := 5) hx hb hts hiX5 tyX5 tyX5_ok nmX5 hown hK hP hD hS 0 rfl rfl 1 (by decide) hw0 (fun _ h9 => h9) rfl (by decide +kernel) rfl rfl (Nat.le_of_ble_eq_true rfl) dX5_append_27 (fun H locs hP hD hS => ?_)
    replace hP : va_P E.1 vwCl (wTx E a0 a1 a2 ch3 v4 nu le nx) H := hP
    replace hD : va_D A (wTx E a0 a1 a2 ch3 v4 nu le nx) := hD
    exact hret (ch3, v4) _ _ _ _ (Option.some.inj h) hP hS dX5_append_30
set_option maxHeartbeats 4000000 in
set_option maxRecDepth 100000 in
theorem kX5_at (E : gE) (l : Launch) (a0 a1 a2 : Nat) (ch : Nat → Int32) (tl : Int32) (nu : Nat → Int32) (le : Int32) (nx : Int32) (p1 : Int32) (res : Int32) (h : fX5_at ch tl p1 = some res) : gMI E l yX5_at wsX5_at ({ frames := 0, cells := 0, slots := 0, locals := 0 } : Room) [.ref a0, .int p1] (wTx E a0 a1 a2 ch tl nu le nx) (fun res : Int32 => (wTx E a0 a1 a2 ch tl nu le nx)) (fun res => res) res := by
  refine g_entZ (cc := cX5_at) (maxL := 2) (by decide) rfl (Nat.le_of_ble_eq_true rfl) ?_
  intro p e s m args below meth c A Q ls hx hb hml hown hts hK hP hD hS hA hG hret hl
  unfold fX5_at at h
  replace hl : lv_has ls 2 [(0, .ref a0), (1, .int p1)] := hl
  have hiX5 : ∀ w ∈ wsX50, w ∈ wsX5_at := by decide +kernel
  have hw0 := hts (.fieldLink RX5 17 "GlacierHut$Text" "length" "I") (by decide +kernel)
  have hw1 := hts (.fieldLink RX5 9 "GlacierHut$Text" "characters" "[C") (by decide +kernel)
  refine lv_iload_n hx hb dX5_at_0 rfl (lv_at hl 1 rfl) ?_
  refine lv_if_lt (tgt := 21) hx hb dX5_at_1 (by decide) (fun hc1 => ?_) (fun hc1 => ?_)
  · replace h := g_it hc1 h
    refine lv_iconst (v := (0 : Int32)) hx hb dX5_at_21 (by decide) ?_
    exact hret (0 : Int32) _ _ _ _ _ (Option.some.inj h) hP hS rfl rfl dX5_at_22
  · replace h := g_if hc1 h
    refine lv_iload_n hx hb dX5_at_4 rfl (lv_at hl 1 rfl) ?_
    refine lv_aload_n hx hb dX5_at_5 rfl (lv_at hl 0 rfl) ?_
    refine va_get (D := E.1) (cl := vwCl) (ci := 5) (v := .int tl) (C := RX5) (T := TX5) (N := 5) hx hb hts hiX5 hown hK hP 0 rfl rfl 1 (by decide) hw0 (fun _ h9 => h9) rfl dX5_at_6 ?_
    refine lv_icmp_ge (tgt := 21) hx hb dX5_at_9 (by decide) (fun hc2 => ?_) (fun hc2 => ?_)
    · replace h := g_it hc2 h
      refine lv_iconst (v := (0 : Int32)) hx hb dX5_at_21 (by decide) ?_
      exact hret (0 : Int32) _ _ _ _ _ (Option.some.inj h) hP hS rfl rfl dX5_at_22
    · replace h := g_if hc2 h
      refine lv_aload_n hx hb dX5_at_12 rfl (lv_at hl 0 rfl) ?_
      refine va_get (D := E.1) (cl := vwCl) (ci := 5) (v := .ref a1) (C := RX5) (T := TX5) (N := 5) hx hb hts hiX5 hown hK hP 0 rfl rfl 0 (by decide) hw1 (fun _ h9 => h9) rfl dX5_at_13 ?_
      refine lv_iload_n hx hb dX5_at_16 rfl (lv_at hl 1 rfl) ?_
      obtain ⟨hg3, h⟩ := gd_s h
      refine va_cald (D := E.1) (cl := vwCl) (tys := gT E) hx hb hK hP 1 2 rfl rfl (inB_in hg3) dX5_at_17 ?_
      refine lv_goto (tgt := 22) hx hb dX5_at_18 (by decide) ?_
      obtain ⟨hg4, h⟩ := gd_s h
      exact hret (ch (p1).toNatClampNeg) _ _ _ _ _ (Option.some.inj h) hP hS rfl (ncB_nar hg4) dX5_at_22
set_option maxHeartbeats 4000000 in
set_option maxRecDepth 100000 in
theorem kX5_numbersOf (E : gE) (l : Launch) (a0 a1 a2 : Nat) (ch : Nat → Int32) (tl : Int32) (nu : Nat → Int32) (le : Int32) (nx : Int32) (p1 : Int32) (res : Int32) (h : fX5_numbersOf  p1 = some res) : gMI E l yX5_numbersOf wsX5_numbersOf ({ frames := 0, cells := 0, slots := 0, locals := 0 } : Room) [.ref a0, .int p1] (wTx E a0 a1 a2 ch tl nu le nx) (fun res : Int32 => (wTx E a0 a1 a2 ch tl nu le nx)) (fun res => res) res := by
  refine g_entI (cc := cX5_numbersOf) (maxL := 2) (by decide) rfl (Nat.le_of_ble_eq_true rfl) ?_
  intro p e s m args below meth c A Q ls hx hb hml hown hts hK hP hD hS hA hG hret hl
  unfold fX5_numbersOf at h
  replace hl : lv_has ls 2 [(0, .ref a0), (1, .int p1)] := hl
  refine lv_iload_n hx hb dX5_numbersOf_0 rfl (lv_at hl 1 rfl) ?_
  by_cases hk1 : p1 = (98 : Int32)
  · replace h := g_it hk1 h
    refine lv_lookup (tgt := 64) (off := 63) hx hb dX5_numbersOf_1 (by decide) (by rw [hk1]; rfl) (by decide) ?_
    refine lv_iconst (v := (3 : Int32)) hx hb dX5_numbersOf_64 (by decide) ?_
    exact hret (3 : Int32) _ _ _ _ _ (Option.some.inj h) hP hS rfl dX5_numbersOf_65
  replace h := g_if hk1 h
  by_cases hk2 : p1 = (102 : Int32)
  · replace h := g_it hk2 h
    refine lv_lookup (tgt := 62) (off := 61) hx hb dX5_numbersOf_1 (by decide) (by rw [hk2]; rfl) (by decide) ?_
    refine lv_iconst (v := (0 : Int32)) hx hb dX5_numbersOf_62 (by decide) ?_
    exact hret (0 : Int32) _ _ _ _ _ (Option.some.inj h) hP hS rfl dX5_numbersOf_63
  replace h := g_if hk2 h
  by_cases hk3 : p1 = (108 : Int32)
  · replace h := g_it hk3 h
    refine lv_lookup (tgt := 60) (off := 59) hx hb dX5_numbersOf_1 (by decide) (by rw [hk3]; rfl) (by decide) ?_
    refine lv_iconst (v := (3 : Int32)) hx hb dX5_numbersOf_60 (by decide) ?_
    exact hret (3 : Int32) _ _ _ _ _ (Option.some.inj h) hP hS rfl dX5_numbersOf_61
  replace h := g_if hk3 h
  by_cases hk4 : p1 = (110 : Int32)
  · replace h := g_it hk4 h
    refine lv_lookup (tgt := 70) (off := 69) hx hb dX5_numbersOf_1 (by decide) (by rw [hk4]; rfl) (by decide) ?_
    refine lv_iconst (v := (1 : Int32)) hx hb dX5_numbersOf_70 (by decide) ?_
    exact hret (1 : Int32) _ _ _ _ _ (Option.some.inj h) hP hS rfl dX5_numbersOf_71
  replace h := g_if hk4 h
  by_cases hk5 : p1 = (115 : Int32)
  · replace h := g_it hk5 h
    refine lv_lookup (tgt := 68) (off := 67) hx hb dX5_numbersOf_1 (by decide) (by rw [hk5]; rfl) (by decide) ?_
    refine lv_iconst (v := (2 : Int32)) hx hb dX5_numbersOf_68 (by decide) ?_
    exact hret (2 : Int32) _ _ _ _ _ (Option.some.inj h) hP hS rfl dX5_numbersOf_69
  replace h := g_if hk5 h
  by_cases hk6 : p1 = (120 : Int32)
  · replace h := g_it hk6 h
    refine lv_lookup (tgt := 66) (off := 65) hx hb dX5_numbersOf_1 (by decide) (by rw [hk6]; rfl) (by decide) ?_
    refine lv_iconst (v := (1 : Int32)) hx hb dX5_numbersOf_66 (by decide) ?_
    exact hret (1 : Int32) _ _ _ _ _ (Option.some.inj h) hP hS rfl dX5_numbersOf_67
  replace h := g_if hk6 h
  refine lv_lookup (tgt := 72) (off := 71) hx hb dX5_numbersOf_1 (by decide) (by show Op.lookupswitch.offset [(98, 63), (102, 61), (108, 59), (110, 69), (115, 67), (120, 65)] 71 _ = _; rw [lv_osw hk1 (by decide), lv_osw hk2 (by decide), lv_osw hk3 (by decide), lv_osw hk4 (by decide), lv_osw hk5 (by decide), lv_osw hk6 (by decide)]; rfl) (by decide) ?_
  refine lv_iconst (v := (-1 : Int32)) hx hb dX5_numbersOf_72 (by decide) ?_
  exact hret (-1 : Int32) _ _ _ _ _ (Option.some.inj h) hP hS rfl dX5_numbersOf_73
set_option maxHeartbeats 4000000 in
set_option maxRecDepth 100000 in
theorem kX5_passes (E : gE) (l : Launch) (a0 a1 a2 : Nat) (ch : Nat → Int32) (tl : Int32) (nu : Nat → Int32) (le : Int32) (nx : Int32) (p1 : Int32) (res : Int32 × Int32) (h : fX5_passes ch tl nx p1 = some res) : gMI E l yX5_passes wsX5_passes ({ frames := 1, cells := 0, slots := 0, locals := 21 } : Room) [.ref a0, .int p1] (wTx E a0 a1 a2 ch tl nu le nx) (fun res : Int32 × Int32 => (wTx E a0 a1 a2 ch tl nu le res.2)) (fun res => res.1) res := by
  refine g_entZ (cc := cX5_passes) (maxL := 2) (by decide) rfl (Nat.le_of_ble_eq_true rfl) ?_
  intro p e s m args below meth c A Q ls hx hb hml hown hts hK hP hD hS hA hG hret hl
  unfold fX5_passes at h
  replace hl : lv_has ls 2 [(0, .ref a0), (1, .int p1)] := hl
  have hiX5 : ∀ w ∈ wsX50, w ∈ wsX5_passes := by decide +kernel
  have hw0 := hts (.fieldLink RX5 29 "GlacierHut$Text" "next" "I") (by decide +kernel)
  refine lv_aload_n hx hb dX5_passes_0 rfl (lv_at hl 0 rfl) ?_
  refine lv_aload_n hx hb dX5_passes_1 rfl (lv_at hl 0 rfl) ?_
  refine va_get (D := E.1) (cl := vwCl) (ci := 5) (v := .int nx) (C := RX5) (T := TX5) (N := 5) hx hb hts hiX5 hown hK hP 0 rfl rfl 4 (by decide) hw0 (fun _ h9 => h9) rfl dX5_passes_2 ?_
  obtain ⟨r1, hc2, h⟩ := bd1_s h
  refine g_callRi (As := [.int nx]) (rest := []) (r := r1) ⟨hx, hb, hml, hown, hts⟩ (kX5_at E l a0 a1 a2 ch tl nu le nx nx r1 hc2) (cwV 1 hts gX5_passes_X5_at rfl rfl rfl (by decide +kernel) ⟨Nat.le_of_ble_eq_true rfl, Nat.le_of_ble_eq_true rfl⟩) hK hP hD hS hA hG hl [0, 1, 2] 0 (by decide) rfl (ci := 5) rfl rfl rfl rfl rfl rfl rfl (Nat.le_of_ble_eq_true rfl) dX5_passes_5 (Nat.zero_le _) (Nat.zero_le _) (fun H locs hP hD hS => ?_)
  refine lv_iload_n hx hb dX5_passes_8 rfl (lv_at hl 1 rfl) ?_
  refine lv_icmp_eq (tgt := 14) hx hb dX5_passes_9 (by decide) (fun hc3 => ?_) (fun hc3 => ?_)
  · replace h := g_it hc3 h
    refine lv_aload_n hx hb dX5_passes_14 rfl (lv_at hl 0 rfl) ?_
    refine lv_dup hx hb dX5_passes_15 rfl ?_
    refine va_get (D := E.1) (cl := vwCl) (ci := 5) (v := .int nx) (C := RX5) (T := TX5) (N := 5) hx hb hts hiX5 hown hK hP 0 rfl rfl 4 (by decide) hw0 (fun _ h9 => h9) rfl dX5_passes_16 ?_
    refine lv_iconst (v := (1 : Int32)) hx hb dX5_passes_19 (by decide) ?_
    refine lv_iadd hx hb dX5_passes_20 ?_
    refine lv_topi (fun v4 e_v4 => ?_)
    replace h := jl_s e_v4 h
    refine va_put (D := E.1) (cl := vwCl) (ci := 5) (v := .int v4) (ty := .int) (C := RX5) (T := TX5) (N := 5) hx hb hts hiX5 tyX5 tyX5_ok nmX5 hown hK hP hD hS 0 rfl rfl 4 (by decide) hw0 (fun _ h9 => h9) rfl (by decide +kernel) rfl rfl (Nat.le_of_ble_eq_true rfl) dX5_passes_21 (fun H locs hP hD hS => ?_)
    replace hP : va_P E.1 vwCl (wTx E a0 a1 a2 ch tl nu le v4) H := hP
    replace hD : va_D A (wTx E a0 a1 a2 ch tl nu le v4) := hD
    refine lv_iconst (v := (1 : Int32)) hx hb dX5_passes_24 (by decide) ?_
    exact hret ((1 : Int32), v4) _ _ _ _ _ (Option.some.inj h) hP hS rfl rfl dX5_passes_25
  · replace h := g_if hc3 h
    refine lv_iconst (v := (0 : Int32)) hx hb dX5_passes_12 (by decide) ?_
    exact hret ((0 : Int32), nx) _ _ _ _ _ (Option.some.inj h) hP hS rfl rfl dX5_passes_13
set_option maxHeartbeats 4000000 in
set_option maxRecDepth 100000 in
theorem kX5_readNumber (E : gE) (l : Launch) (a0 a1 a2 : Nat) (ch : Nat → Int32) (tl : Int32) (nu : Nat → Int32) (le : Int32) (nx : Int32)  (res : Int32 × Int32) (h : fX5_readNumber ch tl nx  = some res) : gMI E l yX5_readNumber wsX5_readNumber ({ frames := 1, cells := 0, slots := 0, locals := 21 } : Room) [.ref a0] (wTx E a0 a1 a2 ch tl nu le nx) (fun res : Int32 × Int32 => (wTx E a0 a1 a2 ch tl nu le res.2)) (fun res => res.1) res := by
  refine g_entI (cc := cX5_readNumber) (maxL := 4) (by decide) rfl (Nat.le_of_ble_eq_true rfl) ?_
  intro p e s m args below meth c A Q ls hx hb hml hown hts hK hP hD hS hA hG hret hl
  unfold fX5_readNumber at h
  replace hl : lv_has ls 4 [(0, .ref a0)] := hl
  have hiX5 : ∀ w ∈ wsX50, w ∈ wsX5_readNumber := by decide +kernel
  have hw0 := hts (.fieldLink RX5 29 "GlacierHut$Text" "next" "I") (by decide +kernel)
  have hw1 := hts (.methodLink RX5 44 Lib.Math.max.name) (by decide +kernel)
  have hw2 := hts (.static Lib.Math.max.name) (by decide +kernel)
  have hw3 := hts (.initialized "java/lang/Math") (by decide +kernel)
  have hw4 := hts (.code Lib.Math.max.name Lib.Math.max.code 2 (some .int)) (by decide +kernel)
  refine lv_iconst (v := (-1 : Int32)) hx hb dX5_readNumber_0 (by decide) ?_
  refine lv_istore_n (lv' := [(1, .int (-1 : Int32)), (0, .ref a0)]) hx hb dX5_readNumber_1 rfl hl (by decide) rfl (fun ls hl => ?_)
  refine lv_iconst (v := (0 : Int32)) hx hb dX5_readNumber_2 (by decide) ?_
  refine lv_istore_n (lv' := [(2, .int (0 : Int32)), (1, .int (-1 : Int32)), (0, .ref a0)]) hx hb dX5_readNumber_3 rfl hl (by decide) rfl (fun ls hl => ?_)
  refine gl3_e h (fun S_rec1 hS_rec1 h => ?_)
  have hL_rec1 : ∀ (nF : Nat) (v2 : Int32) (v3 : Int32) (nx4 : Int32) (H : Heap) (locs : List Loc) (ls : Array Slot), va_P E.1 vwCl (wTx E a0 a1 a2 ch tl nu le nx4) H → va_S A s.heap H locs → lv_has ls 4 [(2, .int v2), (1, .int v3), (0, .ref a0)] → gl3 S_rec1 nF v2 v3 nx4 = some res → W p l e ({ frames := 1, cells := 0, slots := 0, locals := 21 } : Room) s m args below meth c H locs 0 0 Q (F0 m 4 ls []) := by
    intro nF
    induction nF with
    | zero => intro v2 v3 nx4 H locs ls hP hS hl h; exact gl3_z h
    | succ nF ih_rec1 =>
      intro v2 v3 nx4 H locs ls hP hS hl h
      replace hD : va_D A (wTx E a0 a1 a2 ch tl nu le nx4) := gD_same hD rfl
      replace h : S_rec1 (gl3 S_rec1 nF) v2 v3 nx4 = some res := h
      generalize gl3 S_rec1 nF = rec1 at h ih_rec1
      subst hS_rec1
      unfold sX5_readNumber_rec1 at h
      refine lv_iload_n hx hb dX5_readNumber_4 rfl (lv_at hl 0 rfl) ?_
      refine lv_iconst (v := (3 : Int32)) hx hb dX5_readNumber_5 (by decide) ?_
      refine lv_icmp_ge (tgt := 62) hx hb dX5_readNumber_6 (by decide) (fun hc5 => ?_) (fun hc5 => ?_)
      · replace h := g_it hc5 h
        refine lv_iload_n hx hb dX5_readNumber_62 rfl (lv_at hl 1 rfl) ?_
        exact hret (v3, nx4) _ _ _ _ _ (Option.some.inj h) hP hS rfl dX5_readNumber_63
      · replace h := g_if hc5 h
        refine lv_aload_n hx hb dX5_readNumber_9 rfl (lv_at hl 2 rfl) ?_
        refine lv_aload_n hx hb dX5_readNumber_10 rfl (lv_at hl 2 rfl) ?_
        refine va_get (D := E.1) (cl := vwCl) (ci := 5) (v := .int nx4) (C := RX5) (T := TX5) (N := 5) hx hb hts hiX5 hown hK hP 0 rfl rfl 4 (by decide) hw0 (fun _ h9 => h9) rfl dX5_readNumber_11 ?_
        obtain ⟨r6, hc7, h⟩ := bd1_s h
        refine g_callRi (As := [.int nx4]) (rest := []) (r := r6) ⟨hx, hb, hml, hown, hts⟩ (kX5_at E l a0 a1 a2 ch tl nu le nx4 nx4 r6 hc7) (cwV 1 hts gX5_readNumber_X5_at rfl rfl rfl (by decide +kernel) ⟨Nat.le_of_ble_eq_true rfl, Nat.le_of_ble_eq_true rfl⟩) hK hP hD hS hA hG hl [0, 1, 2] 0 (by decide) rfl (ci := 5) rfl rfl rfl rfl rfl rfl rfl (Nat.le_of_ble_eq_true rfl) dX5_readNumber_14 (Nat.zero_le _) (Nat.zero_le _) (fun H locs hP hD hS => ?_)
        refine lv_istore_n (lv' := [(3, .int r6), (2, .int v2), (1, .int v3), (0, .ref a0)]) hx hb dX5_readNumber_17 rfl hl (by decide) rfl (fun ls hl => ?_)
        refine lv_iload_n hx hb dX5_readNumber_18 rfl (lv_at hl 0 rfl) ?_
        refine lv_bipush (v := (48 : Int32)) hx hb dX5_readNumber_19 (by decide) ?_
        refine lv_icmp_lt (tgt := 30) hx hb dX5_readNumber_21 (by decide) (fun hc8 => ?_) (fun hc8 => ?_)
        · replace h := g_it hc8 h
          refine lv_iload_n hx hb dX5_readNumber_30 rfl (lv_at hl 2 rfl) ?_
          exact hret (v3, nx4) _ _ _ _ _ (Option.some.inj h) hP hS rfl dX5_readNumber_31
        · replace h := g_if hc8 h
          refine lv_iload_n hx hb dX5_readNumber_24 rfl (lv_at hl 0 rfl) ?_
          refine lv_bipush (v := (57 : Int32)) hx hb dX5_readNumber_25 (by decide) ?_
          refine lv_icmp_le (tgt := 32) hx hb dX5_readNumber_27 (by decide) (fun hc9 => ?_) (fun hc9 => ?_)
          · replace h := g_it hc9 h
            refine lv_iload_n hx hb dX5_readNumber_32 rfl (lv_at hl 2 rfl) ?_
            refine lv_iconst (v := (0 : Int32)) hx hb dX5_readNumber_33 (by decide) ?_
            refine va_mmax hx hb (hml.trans hl.1.symm) hown hw1 hw2 hw3 hw4 (Nat.le_of_ble_eq_true rfl) (Nat.le_of_ble_eq_true rfl) (Nat.zero_le _) (Nat.zero_le _) dX5_readNumber_34 ?_
            refine lv_bipush (v := (10 : Int32)) hx hb dX5_readNumber_37 (by decide) ?_
            refine lv_imul hx hb dX5_readNumber_39 ?_
            refine lv_iload_n hx hb dX5_readNumber_40 rfl (lv_at hl 0 rfl) ?_
            refine lv_bipush (v := (48 : Int32)) hx hb dX5_readNumber_41 (by decide) ?_
            refine lv_isub hx hb dX5_readNumber_43 ?_
            refine lv_iadd hx hb dX5_readNumber_44 ?_
            refine lv_topi (fun v10 e_v10 => ?_)
            replace h := jl_s e_v10 h
            refine lv_istore_n (lv' := [(1, .int v10), (3, .int r6), (2, .int v2), (0, .ref a0)]) hx hb dX5_readNumber_45 rfl hl (by decide) rfl (fun ls hl => ?_)
            refine lv_aload_n hx hb dX5_readNumber_46 rfl (lv_at hl 3 rfl) ?_
            refine lv_dup hx hb dX5_readNumber_47 rfl ?_
            refine va_get (D := E.1) (cl := vwCl) (ci := 5) (v := .int nx4) (C := RX5) (T := TX5) (N := 5) hx hb hts hiX5 hown hK hP 0 rfl rfl 4 (by decide) hw0 (fun _ h9 => h9) rfl dX5_readNumber_48 ?_
            refine lv_iconst (v := (1 : Int32)) hx hb dX5_readNumber_51 (by decide) ?_
            refine lv_iadd hx hb dX5_readNumber_52 ?_
            refine lv_topi (fun v11 e_v11 => ?_)
            replace h := jl_s e_v11 h
            refine va_put (D := E.1) (cl := vwCl) (ci := 5) (v := .int v11) (ty := .int) (C := RX5) (T := TX5) (N := 5) hx hb hts hiX5 tyX5 tyX5_ok nmX5 hown hK hP hD hS 0 rfl rfl 4 (by decide) hw0 (fun _ h9 => h9) rfl (by decide +kernel) rfl rfl (Nat.le_of_ble_eq_true rfl) dX5_readNumber_53 (fun H locs hP hD hS => ?_)
            replace hP : va_P E.1 vwCl (wTx E a0 a1 a2 ch tl nu le v11) H := hP
            replace hD : va_D A (wTx E a0 a1 a2 ch tl nu le v11) := hD
            obtain ⟨v12, e_v12⟩ : ∃ y : Int32, y = (v2 + (1 : Int32)) := ⟨_, rfl⟩
            replace h := jl_s e_v12 h
            refine lv_iinc (v := v12) (lv' := [(2, .int v12), (1, .int v10), (3, .int r6), (0, .ref a0)]) hx hb dX5_readNumber_56 hl (k := 2) rfl (by rw [e_v12]; rfl) (by decide) rfl (fun ls hl => ?_)
            refine lv_goto (tgt := 4) hx hb dX5_readNumber_59 (by decide) ?_
            exact ih_rec1 v12 v10 v11 _ _ _ hP hS (lv_sub hl [0, 1, 3] rfl) h
          · replace h := g_if hc9 h
            refine lv_iload_n hx hb dX5_readNumber_30 rfl (lv_at hl 2 rfl) ?_
            exact hret (v3, nx4) _ _ _ _ _ (Option.some.inj h) hP hS rfl dX5_readNumber_31
  exact hL_rec1 gFU (0 : Int32) (-1 : Int32) nx _ _ _ hP hS (lv_sub hl [0, 1, 2] rfl) h
set_option maxHeartbeats 4000000 in
set_option maxRecDepth 100000 in
theorem kX5_readCommand (E : gE) (l : Launch) (a0 a1 a2 : Nat) (ch : Nat → Int32) (tl : Int32) (nu : Nat → Int32) (le : Int32) (nx : Int32) (p1 : Int32) (res : Int32 × (Nat → Int32) × Int32 × Int32) (h : fX5_readCommand ch tl nu p1 = some res) : gMI E l yX5_readCommand wsX5_readCommand ({ frames := 2, cells := 0, slots := 0, locals := 44 } : Room) [.ref a0, .int p1] (wTx E a0 a1 a2 ch tl nu le nx) (fun res : Int32 × (Nat → Int32) × Int32 × Int32 => (wTx E a0 a1 a2 ch tl res.2.1 res.2.2.1 res.2.2.2)) (fun res => res.1) res := by
  refine g_entZ (cc := cX5_readCommand) (maxL := 4) (by decide) rfl (Nat.le_of_ble_eq_true rfl) ?_
  intro p e s m args below meth c A Q ls hx hb hml hown hts hK hP hD hS hA hG hret hl
  unfold fX5_readCommand at h
  replace hl : lv_has ls 4 [(0, .ref a0), (1, .int p1)] := hl
  have hiX5 : ∀ w ∈ wsX50, w ∈ wsX5_readCommand := by decide +kernel
  have hw0 := hts (.fieldLink RX5 25 "GlacierHut$Text" "letter" "C") (by decide +kernel)
  have hw1 := hts (.fieldLink RX5 29 "GlacierHut$Text" "next" "I") (by decide +kernel)
  have hw2 := hts (.fieldLink RX5 13 "GlacierHut$Text" "numbers" "[I") (by decide +kernel)
  refine lv_aload_n hx hb dX5_readCommand_0 rfl (lv_at hl 0 rfl) ?_
  refine lv_aload_n hx hb dX5_readCommand_1 rfl (lv_at hl 0 rfl) ?_
  refine lv_iload_n hx hb dX5_readCommand_2 rfl (lv_at hl 1 rfl) ?_
  obtain ⟨r1, hc2, h⟩ := bd1_s h
  refine g_callRi (As := [.int p1]) (rest := [.ref a0]) (r := r1) ⟨hx, hb, hml, hown, hts⟩ (kX5_at E l a0 a1 a2 ch tl nu le nx p1 r1 hc2) (cwV 1 hts gX5_readCommand_X5_at rfl rfl rfl (by decide +kernel) ⟨Nat.le_of_ble_eq_true rfl, Nat.le_of_ble_eq_true rfl⟩) hK hP hD hS hA hG hl [0, 1, 2] 0 (by decide) rfl (ci := 5) rfl rfl rfl rfl rfl rfl rfl (Nat.le_of_ble_eq_true rfl) dX5_readCommand_3 (Nat.zero_le _) (Nat.zero_le _) (fun H locs hP hD hS => ?_)
  obtain ⟨hg3, h⟩ := gd_s h
  refine va_put (D := E.1) (cl := vwCl) (ci := 5) (v := .int r1) (ty := .char) (C := RX5) (T := TX5) (N := 5) hx hb hts hiX5 tyX5 tyX5_ok nmX5 hown hK hP hD hS 0 rfl rfl 3 (by decide) hw0 (fun _ h9 => h9) rfl (by decide +kernel) (ncB_nar hg3) (ncB_fit hg3) (Nat.le_of_ble_eq_true rfl) dX5_readCommand_6 (fun H locs hP hD hS => ?_)
  replace hP : va_P E.1 vwCl (wTx E a0 a1 a2 ch tl nu r1 nx) H := hP
  replace hD : va_D A (wTx E a0 a1 a2 ch tl nu r1 nx) := hD
  refine lv_aload_n hx hb dX5_readCommand_9 rfl (lv_at hl 0 rfl) ?_
  refine lv_iload_n hx hb dX5_readCommand_10 rfl (lv_at hl 1 rfl) ?_
  refine lv_iconst (v := (1 : Int32)) hx hb dX5_readCommand_11 (by decide) ?_
  refine lv_iadd hx hb dX5_readCommand_12 ?_
  refine lv_topi (fun v4 e_v4 => ?_)
  replace h := jl_s e_v4 h
  refine va_put (D := E.1) (cl := vwCl) (ci := 5) (v := .int v4) (ty := .int) (C := RX5) (T := TX5) (N := 5) hx hb hts hiX5 tyX5 tyX5_ok nmX5 hown hK hP hD hS 0 rfl rfl 4 (by decide) hw1 (fun _ h9 => h9) rfl (by decide +kernel) rfl rfl (Nat.le_of_ble_eq_true rfl) dX5_readCommand_13 (fun H locs hP hD hS => ?_)
  replace hP : va_P E.1 vwCl (wTx E a0 a1 a2 ch tl nu r1 v4) H := hP
  replace hD : va_D A (wTx E a0 a1 a2 ch tl nu r1 v4) := hD
  refine lv_aload_n hx hb dX5_readCommand_16 rfl (lv_at hl 0 rfl) ?_
  refine lv_aload_n hx hb dX5_readCommand_17 rfl (lv_at hl 0 rfl) ?_
  refine va_get (D := E.1) (cl := vwCl) (ci := 5) (v := .int r1) (C := RX5) (T := TX5) (N := 5) hx hb hts hiX5 hown hK hP 0 rfl rfl 3 (by decide) hw0 (fun _ h9 => h9) rfl dX5_readCommand_18 ?_
  obtain ⟨r5, hc6, h⟩ := bd1_s h
  refine g_callRi (As := [.int r1]) (rest := []) (r := r5) ⟨hx, hb, hml, hown, hts⟩ (kX5_numbersOf E l a0 a1 a2 ch tl nu r1 v4 r1 r5 hc6) (cwV 1 hts gX5_readCommand_X5_numbersOf rfl rfl rfl (by decide +kernel) ⟨Nat.le_of_ble_eq_true rfl, Nat.le_of_ble_eq_true rfl⟩) hK hP hD hS hA hG hl [0, 1, 2] 0 (by decide) rfl (ci := 5) rfl rfl rfl rfl rfl rfl rfl (Nat.le_of_ble_eq_true rfl) dX5_readCommand_21 (Nat.zero_le _) (Nat.zero_le _) (fun H locs hP hD hS => ?_)
  refine lv_istore_n (lv' := [(2, .int r5), (0, .ref a0), (1, .int p1)]) hx hb dX5_readCommand_24 rfl hl (by decide) rfl (fun ls hl => ?_)
  refine lv_iload_n hx hb dX5_readCommand_25 rfl (lv_at hl 0 rfl) ?_
  refine lv_if_ge (tgt := 31) hx hb dX5_readCommand_26 (by decide) (fun hc7 => ?_) (fun hc7 => ?_)
  · replace h := g_it hc7 h
    refine lv_iconst (v := (0 : Int32)) hx hb dX5_readCommand_31 (by decide) ?_
    refine lv_istore_n (lv' := [(3, .int (0 : Int32)), (2, .int r5), (0, .ref a0), (1, .int p1)]) hx hb dX5_readCommand_32 rfl hl (by decide) rfl (fun ls hl => ?_)
    refine gl3_e h (fun S_rec8 hS_rec8 h => ?_)
    have hL_rec8 : ∀ (nF : Nat) (v9 : Int32) (nu10 : Nat → Int32) (nx11 : Int32) (H : Heap) (locs : List Loc) (ls : Array Slot), va_P E.1 vwCl (wTx E a0 a1 a2 ch tl nu10 r1 nx11) H → va_S A s.heap H locs → lv_has ls 4 [(3, .int v9), (2, .int r5), (0, .ref a0)] → gl3 S_rec8 nF v9 nu10 nx11 = some res → W p l e ({ frames := 2, cells := 0, slots := 0, locals := 44 } : Room) s m args below meth c H locs 0 0 Q (F0 m 33 ls []) := by
      intro nF
      induction nF with
      | zero => intro v9 nu10 nx11 H locs ls hP hS hl h; exact gl3_z h
      | succ nF ih_rec8 =>
        intro v9 nu10 nx11 H locs ls hP hS hl h
        replace hD : va_D A (wTx E a0 a1 a2 ch tl nu10 r1 nx11) := gD_same hD rfl
        replace h : S_rec8 (gl3 S_rec8 nF) v9 nu10 nx11 = some res := h
        generalize gl3 S_rec8 nF = rec8 at h ih_rec8
        subst hS_rec8
        unfold sX5_readCommand_rec8 at h
        refine lv_iload_n hx hb dX5_readCommand_33 rfl (lv_at hl 0 rfl) ?_
        refine lv_iload_n hx hb dX5_readCommand_34 rfl (lv_at hl 1 rfl) ?_
        refine mrg_e h (fun J13 hK_J13 h => ?_)
        have hJ_J13 : ∀ (_ : Unit) (H : Heap) (locs : List Loc) (ls : Array Slot), va_P E.1 vwCl (wTx E a0 a1 a2 ch tl nu10 r1 nx11) H → va_S A s.heap H locs → lv_has ls 4 [(0, .ref a0)] → J13 () = some res → W p l e ({ frames := 2, cells := 0, slots := 0, locals := 44 } : Room) s m args below meth c H locs 0 0 Q (F0 m 85 ls []) := by
          intro _ H locs ls hP hS hl h
          replace hD : va_D A (wTx E a0 a1 a2 ch tl nu10 r1 nx11) := gD_same hD rfl
          subst hK_J13
          refine lv_aload_n hx hb dX5_readCommand_85 rfl (lv_at hl 0 rfl) ?_
          refine lv_bipush (v := (59 : Int32)) hx hb dX5_readCommand_86 (by decide) ?_
          obtain ⟨r29, nx30, hc31, h⟩ := bd2_s h
          refine g_callVi (As := [.int (59 : Int32)]) (rest := []) (r := r29) (ws1 := (wTx E a0 a1 a2 ch tl nu10 r1 nx30)) ⟨hx, hb, hml, hown, hts⟩ (kX5_passes E l a0 a1 a2 ch tl nu10 r1 nx11 (59 : Int32) (r29, nx30) hc31) (cwV 1 hts gX5_readCommand_X5_passes rfl rfl rfl (by decide +kernel) ⟨Nat.le_of_ble_eq_true rfl, Nat.le_of_ble_eq_true rfl⟩) hK hP hD hS hA hG hl [0, 1, 2] 0 (by decide) rfl (ci := 5) rfl rfl rfl rfl rfl rfl rfl rfl rfl (Nat.le_of_ble_eq_true rfl) dX5_readCommand_88 (Nat.zero_le _) (Nat.zero_le _) (fun H locs hP hD hS => ?_)
          obtain ⟨hg32, h⟩ := gd_s h
          exact hret (r29, nu10, r1, nx30) _ _ _ _ _ (Option.some.inj h) hP hS rfl (nzB_nar hg32) dX5_readCommand_91
        refine lv_icmp_ge (tgt := 85) hx hb dX5_readCommand_35 (by decide) (fun hc12 => ?_) (fun hc12 => ?_)
        · replace h := g_it hc12 h
          exact hJ_J13 () _ _ _ hP hS (lv_sub hl [2] rfl) h
        · replace h := g_if hc12 h
          refine lv_iload_n hx hb dX5_readCommand_38 rfl (lv_at hl 0 rfl) ?_
          refine lv_iconst (v := (3 : Int32)) hx hb dX5_readCommand_39 (by decide) ?_
          refine lv_icmp_ge (tgt := 85) hx hb dX5_readCommand_40 (by decide) (fun hc14 => ?_) (fun hc14 => ?_)
          · replace h := g_it hc14 h
            exact hJ_J13 () _ _ _ hP hS (lv_sub hl [2] rfl) h
          · replace h := g_if hc14 h
            refine lv_iload_n hx hb dX5_readCommand_43 rfl (lv_at hl 0 rfl) ?_
            refine mrg_e h (fun J16 hK_J16 h => ?_)
            have hJ_J16 : ∀ (nx21 : Int32) (H : Heap) (locs : List Loc) (ls : Array Slot), va_P E.1 vwCl (wTx E a0 a1 a2 ch tl nu10 r1 nx21) H → va_S A s.heap H locs → lv_has ls 4 [(3, .int v9), (2, .int r5), (0, .ref a0)] → J16 nx21 = some res → W p l e ({ frames := 2, cells := 0, slots := 0, locals := 44 } : Room) s m args below meth c H locs 0 0 Q (F0 m 58 ls []) := by
              intro nx21 H locs ls hP hS hl h
              replace hD : va_D A (wTx E a0 a1 a2 ch tl nu10 r1 nx21) := gD_same hD rfl
              subst hK_J16
              refine lv_aload_n hx hb dX5_readCommand_58 rfl (lv_at hl 2 rfl) ?_
              refine va_get (D := E.1) (cl := vwCl) (ci := 5) (v := .ref a2) (C := RX5) (T := TX5) (N := 5) hx hb hts hiX5 hown hK hP 0 rfl rfl 2 (by decide) hw2 (fun _ h9 => h9) rfl dX5_readCommand_59 ?_
              refine lv_iload_n hx hb dX5_readCommand_62 rfl (lv_at hl 0 rfl) ?_
              refine lv_aload_n hx hb dX5_readCommand_63 rfl (lv_at hl 2 rfl) ?_
              obtain ⟨r22, nx23, hc24, h⟩ := bd2_s h
              refine g_callVi (As := []) (rest := [.int v9, .ref a2]) (r := r22) (ws1 := (wTx E a0 a1 a2 ch tl nu10 r1 nx23)) ⟨hx, hb, hml, hown, hts⟩ (kX5_readNumber E l a0 a1 a2 ch tl nu10 r1 nx21 (r22, nx23) hc24) (cwV 0 hts gX5_readCommand_X5_readNumber rfl rfl rfl (by decide +kernel) ⟨Nat.le_of_ble_eq_true rfl, Nat.le_of_ble_eq_true rfl⟩) hK hP hD hS hA hG hl [0, 1, 2] 0 (by decide) rfl (ci := 5) rfl rfl rfl rfl rfl rfl rfl rfl rfl (Nat.le_of_ble_eq_true rfl) dX5_readCommand_64 (Nat.zero_le _) (Nat.zero_le _) (fun H locs hP hD hS => ?_)
              obtain ⟨hg25, h⟩ := gd_s h
              refine va_iast (D := E.1) (cl := vwCl) (tys := gT E) hx hb hK hP hD hS 2 0 rfl rfl (inB_in hg25) dX5_readCommand_67 (fun H locs hP hD hS => ?_)
              obtain ⟨nu26, e_nu26⟩ : ∃ y : Nat → Int32, y = (upd nu10 (v9).toNatClampNeg r22) := ⟨_, rfl⟩
              replace h := jl_s e_nu26 h
              replace hP : va_P E.1 vwCl (wTx E a0 a1 a2 ch tl nu26 r1 nx23) H := (by rw [e_nu26]; exact hP)
              replace hD : va_D A (wTx E a0 a1 a2 ch tl nu26 r1 nx23) := gD_same hD rfl
              refine lv_aload_n hx hb dX5_readCommand_68 rfl (lv_at hl 2 rfl) ?_
              refine va_get (D := E.1) (cl := vwCl) (ci := 5) (v := .ref a2) (C := RX5) (T := TX5) (N := 5) hx hb hts hiX5 hown hK hP 0 rfl rfl 2 (by decide) hw2 (fun _ h9 => h9) rfl dX5_readCommand_69 ?_
              refine lv_iload_n hx hb dX5_readCommand_72 rfl (lv_at hl 0 rfl) ?_
              refine va_iald (D := E.1) (cl := vwCl) (tys := gT E) hx hb hK hP 2 0 rfl rfl (inB_in hg25) dX5_readCommand_73 ?_
              refine lv_if_ge (tgt := 79) hx hb dX5_readCommand_74 (by decide) (fun hc27 => ?_) (fun hc27 => ?_)
              · replace h := g_it hc27 h
                obtain ⟨v28, e_v28⟩ : ∃ y : Int32, y = (v9 + (1 : Int32)) := ⟨_, rfl⟩
                replace h := jl_s e_v28 h
                refine lv_iinc (v := v28) (lv' := [(3, .int v28), (2, .int r5), (0, .ref a0)]) hx hb dX5_readCommand_79 hl (k := 0) rfl (by rw [e_v28]; rfl) (by decide) rfl (fun ls hl => ?_)
                refine lv_goto (tgt := 33) hx hb dX5_readCommand_82 (by decide) ?_
                exact ih_rec8 v28 nu26 nx23 _ _ _ hP hS (lv_sub hl [0, 1, 2] rfl) h
              · replace h := g_if hc27 h
                refine lv_iconst (v := (0 : Int32)) hx hb dX5_readCommand_77 (by decide) ?_
                exact hret ((0 : Int32), nu26, r1, nx23) _ _ _ _ _ (Option.some.inj h) hP hS rfl rfl dX5_readCommand_78
            refine lv_if_le (tgt := 58) hx hb dX5_readCommand_44 (by decide) (fun hc15 => ?_) (fun hc15 => ?_)
            · replace h := g_it hc15 h
              exact hJ_J16 nx11 _ _ _ hP hS (lv_sub hl [0, 1, 2] rfl) h
            · replace h := g_if hc15 h
              refine lv_aload_n hx hb dX5_readCommand_47 rfl (lv_at hl 2 rfl) ?_
              refine lv_bipush (v := (44 : Int32)) hx hb dX5_readCommand_48 (by decide) ?_
              obtain ⟨r17, nx18, hc19, h⟩ := bd2_s h
              refine g_callVi (As := [.int (44 : Int32)]) (rest := []) (r := r17) (ws1 := (wTx E a0 a1 a2 ch tl nu10 r1 nx18)) ⟨hx, hb, hml, hown, hts⟩ (kX5_passes E l a0 a1 a2 ch tl nu10 r1 nx11 (44 : Int32) (r17, nx18) hc19) (cwV 1 hts gX5_readCommand_X5_passes rfl rfl rfl (by decide +kernel) ⟨Nat.le_of_ble_eq_true rfl, Nat.le_of_ble_eq_true rfl⟩) hK hP hD hS hA hG hl [0, 1, 2] 0 (by decide) rfl (ci := 5) rfl rfl rfl rfl rfl rfl rfl rfl rfl (Nat.le_of_ble_eq_true rfl) dX5_readCommand_50 (Nat.zero_le _) (Nat.zero_le _) (fun H locs hP hD hS => ?_)
              refine lv_if_ne (tgt := 58) hx hb dX5_readCommand_53 (by decide) (fun hc20 => ?_) (fun hc20 => ?_)
              · replace h := g_if hc20 h
                exact hJ_J16 nx18 _ _ _ hP hS (lv_sub hl [0, 1, 2] rfl) h
              · replace h := g_it hc20 h
                refine lv_iconst (v := (0 : Int32)) hx hb dX5_readCommand_56 (by decide) ?_
                exact hret ((0 : Int32), nu10, r1, nx18) _ _ _ _ _ (Option.some.inj h) hP hS rfl rfl dX5_readCommand_57
    exact hL_rec8 gFU (0 : Int32) nu v4 _ _ _ hP hS (lv_sub hl [0, 1, 2] rfl) h
  · replace h := g_if hc7 h
    refine lv_iconst (v := (0 : Int32)) hx hb dX5_readCommand_29 (by decide) ?_
    exact hret ((0 : Int32), nu, r1, v4) _ _ _ _ _ (Option.some.inj h) hP hS rfl rfl dX5_readCommand_30
