/-- what the tables say of the classes, the rows and the static rows, in one word -/
theorem start_env {p : Program} {s : State} {m : MethodId} {meth : Method} {c : Code} {b L : Nat} {xs : Nat → Int32} (C0 : lw_At p s m meth c b L xs) : ∃ E : gE, va_K E.1 vwCl (gT E) s ∧ gSt E (fun q : Nat => s.heap.size ≤ q) s s.heap := by
  obtain ⟨hx, hb, hr, hml, hown, hts0, hX, hbl, hlocks, hgv⟩ := C0
  have hA : ∀ a : Nat, a < s.heap.size → ¬ (fun q : Nat => s.heap.size ≤ q) a := fun a h => Nat.not_le.mpr h
  have hs := flat_of_before _ hgv
  obtain ⟨c0, i0, k0⟩ := u_known (C := RX0) (T := TX0) (N := 2) (n := 2) hts0 inX0 (hts0 (.instantiable RX0 2) (by decide +kernel))
  obtain ⟨c1, i1, k1⟩ := u_known (C := RX1) (T := TX1) (N := 10) (n := 10) hts0 inX1 (hts0 (.instantiable RX1 10) (by decide +kernel))
  obtain ⟨c2, i2, k2⟩ := u_known (C := RX2) (T := TX2) (N := 7) (n := 7) hts0 inX2 (hts0 (.instantiable RX2 7) (by decide +kernel))
  obtain ⟨c3, i3, k3⟩ := u_known (C := RX3) (T := TX3) (N := 6) (n := 6) hts0 inX3 (hts0 (.instantiable RX3 6) (by decide +kernel))
  obtain ⟨c4, i4, k4⟩ := u_known (C := RX4) (T := TX4) (N := 11) (n := 11) hts0 inX4 (hts0 (.instantiable RX4 11) (by decide +kernel))
  obtain ⟨c5, i5, k5⟩ := u_known (C := RX5) (T := TX5) (N := 5) (n := 5) hts0 inX5 (hts0 (.instantiable RX5 5) (by decide +kernel))
  obtain ⟨c6, i6, k6⟩ := u_known (C := RX6) (T := TX6) (N := 7) (n := 7) hts0 inX6 (hts0 (.instantiable RX6 7) (by decide +kernel))
  obtain ⟨cI, kI, mI, fI, gI, eI⟩ := Cond.arrayClass_spec (hts0 (.arrayClass .int) (by decide +kernel))
  obtain ⟨cZ, kZ, mZ, fZ, gZ, eZ⟩ := Cond.arrayClass_spec (hts0 (.arrayClass .boolean) (by decide +kernel))
  obtain ⟨cC, kC, mC, fC, gC, eC⟩ := Cond.arrayClass_spec (hts0 (.arrayClass .char) (by decide +kernel))
  have hao : va_AO "GlacierHut$Hut" s := va_AO.of (hts0 (.arrayOver (.object "GlacierHut$Hut")) (by decide +kernel))
  obtain ⟨mH, cH, kH, fH1, -, gH, eH, fH2⟩ := Cond.arrayOver_spec (hts0 (.arrayOver (.object "GlacierHut$Hut")) (by decide +kernel))
  obtain ⟨tLOWEST, vLOWEST, TLOWEST⟩ := va_Tof (tm := (Term.static "GlacierHut$Hut" "LOWEST" "[I")) (ty := .int) (N := 4) (f := gLow) (by decide) (hs (.arrayOf (Term.static "GlacierHut$Hut" "LOWEST" "[I") .int) (by decide +kernel)) (va_eqv (hs (.eq (.length (Term.static "GlacierHut$Hut" "LOWEST" "[I")) (.int 4)) (by decide +kernel)) rfl) (fun j hj => by
    rcases (show j = 0 ∨ j = 1 ∨ j = 2 ∨ j = 3 by omega) with rfl | rfl | rfl | rfl
    · exact va_eqv (hs (.eq (.elem (Term.static "GlacierHut$Hut" "LOWEST" "[I") (.int 0)) (.int 1)) (by decide +kernel)) rfl
    · exact va_eqv (hs (.eq (.elem (Term.static "GlacierHut$Hut" "LOWEST" "[I") (.int 1)) (.int 1)) (by decide +kernel)) rfl
    · exact va_eqv (hs (.eq (.elem (Term.static "GlacierHut$Hut" "LOWEST" "[I") (.int 2)) (.int 0)) (by decide +kernel)) rfl
    · exact va_eqv (hs (.eq (.elem (Term.static "GlacierHut$Hut" "LOWEST" "[I") (.int 3)) (.int 0)) (by decide +kernel)) rfl) hA
  have ZLOWEST := va_Zof (hts0 (.laysStatic "GlacierHut$Hut" "LOWEST" "[I") (by decide +kernel)) (hts0 (.initialized "GlacierHut$Hut") (by decide +kernel)) vLOWEST hA
  obtain ⟨tHIGHEST, vHIGHEST, THIGHEST⟩ := va_Tof (tm := (Term.static "GlacierHut$Hut" "HIGHEST" "[I")) (ty := .int) (N := 4) (f := gHigh) (by decide) (hs (.arrayOf (Term.static "GlacierHut$Hut" "HIGHEST" "[I") .int) (by decide +kernel)) (va_eqv (hs (.eq (.length (Term.static "GlacierHut$Hut" "HIGHEST" "[I")) (.int 4)) (by decide +kernel)) rfl) (fun j hj => by
    rcases (show j = 0 ∨ j = 1 ∨ j = 2 ∨ j = 3 by omega) with rfl | rfl | rfl | rfl
    · exact va_eqv (hs (.eq (.elem (Term.static "GlacierHut$Hut" "HIGHEST" "[I") (.int 0)) (.int 40)) (by decide +kernel)) rfl
    · exact va_eqv (hs (.eq (.elem (Term.static "GlacierHut$Hut" "HIGHEST" "[I") (.int 1)) (.int 3)) (by decide +kernel)) rfl
    · exact va_eqv (hs (.eq (.elem (Term.static "GlacierHut$Hut" "HIGHEST" "[I") (.int 2)) (.int 9)) (by decide +kernel)) rfl
    · exact va_eqv (hs (.eq (.elem (Term.static "GlacierHut$Hut" "HIGHEST" "[I") (.int 3)) (.int 9)) (by decide +kernel)) rfl) hA
  have ZHIGHEST := va_Zof (hts0 (.laysStatic "GlacierHut$Hut" "HIGHEST" "[I") (by decide +kernel)) (hts0 (.initialized "GlacierHut$Hut") (by decide +kernel)) vHIGHEST hA
  obtain ⟨tFIRST, vFIRST, TFIRST⟩ := va_Tof (tm := (Term.static "GlacierHut$Hut" "FIRST" "[I")) (ty := .int) (N := 4) (f := gFirst) (by decide) (hs (.arrayOf (Term.static "GlacierHut$Hut" "FIRST" "[I") .int) (by decide +kernel)) (va_eqv (hs (.eq (.length (Term.static "GlacierHut$Hut" "FIRST" "[I")) (.int 4)) (by decide +kernel)) rfl) (fun j hj => by
    rcases (show j = 0 ∨ j = 1 ∨ j = 2 ∨ j = 3 by omega) with rfl | rfl | rfl | rfl
    · exact va_eqv (hs (.eq (.elem (Term.static "GlacierHut$Hut" "FIRST" "[I") (.int 0)) (.int 12)) (by decide +kernel)) rfl
    · exact va_eqv (hs (.eq (.elem (Term.static "GlacierHut$Hut" "FIRST" "[I") (.int 1)) (.int 2)) (by decide +kernel)) rfl
    · exact va_eqv (hs (.eq (.elem (Term.static "GlacierHut$Hut" "FIRST" "[I") (.int 2)) (.int 3)) (by decide +kernel)) rfl
    · exact va_eqv (hs (.eq (.elem (Term.static "GlacierHut$Hut" "FIRST" "[I") (.int 3)) (.int 1)) (by decide +kernel)) rfl) hA
  have ZFIRST := va_Zof (hts0 (.laysStatic "GlacierHut$Hut" "FIRST" "[I") (by decide +kernel)) (hts0 (.initialized "GlacierHut$Hut") (by decide +kernel)) vFIRST hA
  refine ⟨((fun k => [c0, c1, c2, c3, c4, c5, c6].getD k c0, fun k => [i0, i1, i2, i3, i4, i5, i6].getD k i0), cI, cZ, cC, cH, tLOWEST, tHIGHEST, tFIRST), ⟨fun k q hq => ?_, fun k q hq => ?_⟩, ⟨ZLOWEST, TLOWEST⟩, ⟨ZHIGHEST, THIGHEST⟩, ⟨ZFIRST, TFIRST⟩, hao⟩
  · match k, hq with
    | 0, hq => cases hq; exact k0
    | 1, hq => cases hq; exact k1
    | 2, hq => cases hq; exact k2
    | 3, hq => cases hq; exact k3
    | 4, hq => cases hq; exact k4
    | 5, hq => cases hq; exact k5
    | 6, hq => cases hq; exact k6
    | k + 7, hq => simp [vwCl] at hq
  · match k, hq with
    | 0, hq => cases hq; exact ⟨fun n z => ⟨fun k h => (by cases h), kI, gI, mI, eI⟩, fI⟩
    | 1, hq => cases hq; exact ⟨fun n z => ⟨fun k h => (by cases h), kZ, gZ, mZ, eZ⟩, fZ⟩
    | 2, hq => cases hq; exact ⟨fun n z => ⟨fun k h => (by cases h), kC, gC, mC, eC⟩, fC⟩
    | 3, hq => cases hq; exact ⟨fun n z => ⟨fun k h => (by cases h), kH, gH, mH, eH⟩, kH, mH, gH, eH, fH1, fH2⟩
    | k + 4, hq => simp [gT] at hq
set_option maxHeartbeats 8000000 in
set_option maxRecDepth 100000 in
theorem whole_start {p : Program} {e : Env} {s : State} {m : MethodId} {below : List Frame} {meth : Method} {c : Code} (l : Launch) (hflags : l.flags = flags0) {b L : Nat} {xs : Nat → Int32} (hL : L ≤ 260) (C0 : lw_At p s m meth c b L xs) : W p l e room_1 s m #[Value.ref b] below meth c s.heap [] 0 0 (lw_Z below #[Value.ref b] s) (entryFrame m ([Value.ref b] : List Value).toArray 11) := by
  obtain ⟨E, hK, hG⟩ := start_env C0
  have C1 := C0
  obtain ⟨hx, hb, hr, hml, hown, hts0, hX, hbl, hlocks, hgv⟩ := C0
  have hts := fun w (h : w ∈ wsL_law) => hts0 w (wsL_law_in w h)
  have hown : s.vm.findClass RL = some m.cls := hown
  have hA : ∀ q : Nat, s.heap.size ≤ q → (fun q : Nat => s.heap.size ≤ q) q := fun _ h => h
  have hS : va_S (fun q : Nat => s.heap.size ≤ q) s.heap s.heap [] := va_S.rf
  have hP : va_P E.1 vwCl (List.flatten []) s.heap := fun k q h => by simp at h
  have hD : va_D (fun q : Nat => s.heap.size ≤ q) (List.flatten ([] : List va_W)) := ⟨fun i j p q h => by simp at h, fun k q h => by simp at h⟩
  have hl := lv_entry ([.ref b]) (n := 11) (Nat.le_of_ble_eq_true rfl)
  rw [lg_entry_eq]
  generalize (lg_sl ([.ref b]) ++ List.replicate (11 - (lg_sl ([.ref b])).length) Slot.unset).toArray = ls at hl ⊢
  replace hl : lv_has ls 11 [(0, .ref b)] := hl
  refine va_new (D := E.1) (cl := vwCl) (ci := 6) (fs := [.null, .null, .null, .null, .null, .null, .int 0]) (C := RX6) (T := TX6) (N := 7) hx hb hts inlX6 tyX6 tyX6_ok hown (hts (.classLink RL 14 RX6) (by decide +kernel)) (hts (.instantiable RX6 7) (by decide +kernel)) (hts (.initialized RX6) (by decide +kernel)) hK hP hD hS hA rfl (fun j hj => by rcases (show j = 0 ∨ j = 1 ∨ j = 2 ∨ j = 3 ∨ j = 4 ∨ j = 5 ∨ j = 6 by omega) with rfl | rfl | rfl | rfl | rfl | rfl | rfl <;> rfl) (Nat.le_of_ble_eq_true rfl) (Nat.le_of_ble_eq_true rfl) dL_law_0 (fun qa H hP hD hS => ?_)
  refine W.widen (k := 1) (n := 7) (Nat.le_of_ble_eq_true rfl) (Nat.le_of_ble_eq_true rfl) ?_
  refine lv_dup hx hb dL_law_3 rfl ?_
  refine g_callC (As := []) (rest := [.ref qa]) (wr := List.flatten []) ⟨hx, hb, hml, hown, hts⟩ (kX6_init E l qa) (cwI 0 hts gL_law_X6_init rfl rfl rfl (hts (.initialized RX6) (by decide +kernel)) (hts (.methodLink RL 98 yX6_init) (by decide +kernel)) (hts (.instanceMethod yX6_init) (by decide +kernel)) rfl (by decide +kernel) ⟨Nat.le_of_ble_eq_true rfl, Nat.le_of_ble_eq_true rfl⟩) hK hP hD hS hA hG hl rfl rfl (Nat.le_of_ble_eq_true rfl) dL_law_4 (Nat.le_of_ble_eq_true rfl) (Nat.le_of_ble_eq_true rfl) (fun z H locs hz hP2 hD2 hS2 => ?_)
  subst hz
  replace hS := hS2
  replace hP : va_P E.1 vwCl (List.flatten [[(z 0 0, .inr (6, [.ref (z 1 0), .ref (z 2 0), .ref (z 3 0), .ref (z 0 1), .ref (z 0 3), .ref (z 0 6), .int 0]))], [(z 0 1, .inr (0, [.ref (z 0 2), .int 0]))], wHa E (z 0 2) (fun j => z (6 + j)) (fun i => i), wTx E (z 0 3) (z 0 4) (z 0 5) (fun _ => 0) 0 (fun _ => 0) 0 0, [(z 0 6, .inr (3, [.ref (z 4 0), .ref (z 5 0), .int 0, .int 0, .int 0, .int 0]))], wHuT E (z 1) hut0, wHuT E (z 2) hut0, wHuT E (z 3) hut0, wHuT E (z 4) hut0, wHuT E (z 5) hut0, wHuT E (z 6) hut0, wHuT E (z 7) hut0, wHuT E (z 8) hut0, wHuT E (z 9) hut0, wHuT E (z 10) hut0]) H := gP_pushs (L := []) (B := [[(z 0 0, .inr (6, [.ref (z 1 0), .ref (z 2 0), .ref (z 3 0), .ref (z 0 1), .ref (z 0 3), .ref (z 0 6), .int 0]))], [(z 0 1, .inr (0, [.ref (z 0 2), .int 0]))], wHa E (z 0 2) (fun j => z (6 + j)) (fun i => i), wTx E (z 0 3) (z 0 4) (z 0 5) (fun _ => 0) 0 (fun _ => 0) 0 0, [(z 0 6, .inr (3, [.ref (z 4 0), .ref (z 5 0), .int 0, .int 0, .int 0, .int 0]))], wHuT E (z 1) hut0, wHuT E (z 2) hut0, wHuT E (z 3) hut0, wHuT E (z 4) hut0, wHuT E (z 5) hut0, wHuT E (z 6) hut0, wHuT E (z 7) hut0, wHuT E (z 8) hut0, wHuT E (z 9) hut0, wHuT E (z 10) hut0]) hP2
  replace hD : va_D (fun q : Nat => s.heap.size ≤ q) (List.flatten [[(z 0 0, .inr (6, [.ref (z 1 0), .ref (z 2 0), .ref (z 3 0), .ref (z 0 1), .ref (z 0 3), .ref (z 0 6), .int 0]))], [(z 0 1, .inr (0, [.ref (z 0 2), .int 0]))], wHa E (z 0 2) (fun j => z (6 + j)) (fun i => i), wTx E (z 0 3) (z 0 4) (z 0 5) (fun _ => 0) 0 (fun _ => 0) 0 0, [(z 0 6, .inr (3, [.ref (z 4 0), .ref (z 5 0), .int 0, .int 0, .int 0, .int 0]))], wHuT E (z 1) hut0, wHuT E (z 2) hut0, wHuT E (z 3) hut0, wHuT E (z 4) hut0, wHuT E (z 5) hut0, wHuT E (z 6) hut0, wHuT E (z 7) hut0, wHuT E (z 8) hut0, wHuT E (z 9) hut0, wHuT E (z 10) hut0]) := gD_pushs (L := []) (B := [[(z 0 0, .inr (6, [.ref (z 1 0), .ref (z 2 0), .ref (z 3 0), .ref (z 0 1), .ref (z 0 3), .ref (z 0 6), .int 0]))], [(z 0 1, .inr (0, [.ref (z 0 2), .int 0]))], wHa E (z 0 2) (fun j => z (6 + j)) (fun i => i), wTx E (z 0 3) (z 0 4) (z 0 5) (fun _ => 0) 0 (fun _ => 0) 0 0, [(z 0 6, .inr (3, [.ref (z 4 0), .ref (z 5 0), .int 0, .int 0, .int 0, .int 0]))], wHuT E (z 1) hut0, wHuT E (z 2) hut0, wHuT E (z 3) hut0, wHuT E (z 4) hut0, wHuT E (z 5) hut0, wHuT E (z 6) hut0, wHuT E (z 7) hut0, wHuT E (z 8) hut0, wHuT E (z 9) hut0, wHuT E (z 10) hut0]) hD2
  refine W.widen (k := 207) (n := 6258) (Nat.le_of_ble_eq_true rfl) (Nat.le_of_ble_eq_true rfl) ?_
  refine lv_astore_n (lv' := [(1, .ref (z 0 0)), (0, .ref b)]) hx hb dL_law_7 rfl hl (by decide) rfl (fun ls hl => ?_)
  exact kL_law E (z 0 0) (z 0 1) (z 0 2) (z 0 3) (z 0 4) (z 0 5) (z 0 6) (z 1) (z 2) (z 3) (z 4) (z 5) (fun j => z (6 + j)) 0 0 (fun i => i) (fun _ => 0) 0 (fun _ => 0) 0 0 0 0 0 0 hut0 hut0 hut0 hut0 hut0 hut0 hut0 hut0 hut0 hut0 C1 hK hG hP hD hS hl (law_pure xs L hL)
