/-! ===== each act's answer beside what was asked before ===== -/
theorem x_load {x : HutS} {s : Nat → Int32} (h : HR x s) : ∃ M, M ≤ 6 ∧ (∀ ke lnn tl, fX6_count ke lnn tl x 7 = some (nI M)) ∧ ∀ (a b c : Nat) (ans : Int32) (x' : HutS), a ≤ 3 → b < 80 → c < 30 → gX1_putOnPallet x (nI a) (nI b) (nI c) = some (ans, x') → ans = if a = 3 ∨ b = 0 then -1 else if M = 6 then -3 else nI (M + 1) := by
  obtain ⟨l, pl, N, d, F, lk, la, ll, us, sp, zs, zd, zn, zt, zl, zc, sto, sg, hu, cn, gn, cs, pk, pa, pd, br, hN, hd, rfl, hh⟩ := h
  have hM : pl.length ≤ 6 := hh.2.1.1
  refine ⟨pl.length, hM, fun ke lnn tl => (vH_count hN hh).2.2.2.2.2.2.1, fun a b c ans x' ha hb hc e => ?_⟩
  have e2 : bd5 (fX1_putOnPallet pk pa pd (nI pl.length) (nI a) (nI b) (nI c)) _ = some (ans, x') := e
  unfold fX1_putOnPallet fX4_isKind at e2
  by_cases c1 : a = 3
  · have c1' : 3 ≤ a := by omega
    rw [if_neg (nI_nn (A := a) (by omega)), if_pos (show (3 : Int32) ≤ nI a by rw [q_l3, q_le (by omega) (by omega)]; exact c1'), bd1_e, if_pos rfl, bd5_e] at e2
    cases e2
    rw [if_pos (Or.inl c1)]
  · have c1' : ¬ 3 ≤ a := by omega
    rw [if_neg (nI_nn (A := a) (by omega)), if_neg (show ¬ (3 : Int32) ≤ nI a by rw [q_l3, q_le (by omega) (by omega)]; exact c1'), bd1_e, if_neg (by decide)] at e2
    by_cases c2 : b = 0
    · rw [if_pos (show nI b < (1 : Int32) by rw [q_l1, q_lt (by omega) (by omega)]; omega), bd5_e] at e2
      cases e2
      rw [if_pos (Or.inr c2)]
    · rw [if_neg (show ¬ nI b < (1 : Int32) by rw [q_l1, q_lt (by omega) (by omega)]; omega), if_neg (show ¬ (999 : Int32) < nI b by rw [q_l999, q_lt (by omega) (by omega)]; omega), if_neg (nI_nn (A := c) (by omega)), if_pos (show nI c ≤ (365 : Int32) by rw [q_l365, q_le (by omega) (by omega)]; omega)] at e2
      rw [if_neg (show ¬ (a = 3 ∨ b = 0) from fun q => q.elim c1 c2)]
      by_cases c3 : pl.length = 6
      · rw [if_neg (show ¬ nI pl.length < (6 : Int32) by rw [q_l6, q_lt (by omega) (by omega)]; omega), bd5_e] at e2
        cases e2
        rw [if_pos c3]
      · have c4 : nI pl.length < (6 : Int32) := by rw [q_l6, q_lt (by omega) (by omega)]; omega
        rw [if_pos c4] at e2
        unfold fX4_addToPallet at e2
        rw [if_pos c4, q_gd (by omega) (by omega)] at e2
        simp only [q_jl, bd4_e, bd5_e] at e2
        cases e2
        rw [if_neg c3, q_l1, nI_add]
theorem x_fly {x : HutS} {s : Nat → Int32} (h : HR x s) : ∃ (M b0 b1 b2 F G : Nat) (sv : Int32), M ≤ 6 ∧ b0 + b1 + b2 ≤ 20 ∧ F < 100 ∧ G < 100 ∧ (∀ ke lnn tl, fX6_count ke lnn tl x 7 = some (nI M)) ∧ fX6_storeOf x 0 4 = some (nI b0) ∧ fX6_storeOf x 1 4 = some (nI b1) ∧ fX6_storeOf x 2 4 = some (nI b2) ∧ (∀ ke lnn tl, fX6_count ke lnn tl x 5 = some (if sv = 0 then 0 else 1)) ∧ (∀ ke lnn tl, fX6_count ke lnn tl x 6 = some (nI F)) ∧ (∀ ke lnn tl, fX6_count ke lnn tl x 23 = some (nI G)) ∧ ∀ (ans : Int32) (x' : HutS), gX1_bringPallet x = some (ans, x') → ans = if nI M = 0 then -2 else if sv = 0 then (if nI F < nI G then (if nI (b0 + b1 + b2) + nI M ≤ (20 : Int32) then nI M else -3) else -2) else -2 := by
  obtain ⟨l, pl, N, d, F, lk, la, ll, us, sp, zs, zd, zn, zt, zl, zc, sto, sg, hu, cn, gn, cs, pk, pa, pd, br, hN, hd, rfl, hh⟩ := h
  have hM : pl.length ≤ 6 := hh.2.1.1
  obtain ⟨hl, hlb, hlz, hcl, -⟩ := hh.1.1
  have hsum := cK_sum l (fun t ht => (hlb t ht).1)
  obtain ⟨hSS, B, R, Q, G, hB, hB1, hB2, hR, hR1, hR2, hQ, hQ1, hG, hG1⟩ := hh.1.2.2.2.1
  have hs := p_isStorm (sto := sto) (d := d) (by omega) (fun hk => (hh.1.2.2.2.2.1 d hk).2.1)
  have st : ∀ k, k ≤ 2 → fX6_storeOf (lk, la, ll, nI l.length, pk, pa, pd, nI pl.length, br, us, sp, zs, zd, zn, zt, zl, zc, nI N, sto, sg, nI d, nI F, hu, cn, gn, cs) (nI k) 4 = some (nI (cK k l)) := by
    intro k hk
    rw [(vH_store hh hk).2.2.2.2, sumS_cK hk l 0 0 (fun t ht => (hlb t ht).1) hcl, Nat.zero_add]
  have hF9 : F ≤ 9 := hh.2.2.2.2
  refine ⟨pl.length, cK 0 l, cK 1 l, cK 2 l, F, G, _, hM, by omega, by omega, by omega, fun ke lnn tl => (vH_count hN hh).2.2.2.2.2.2.1, st 0 (by omega), st 1 (by omega), st 2 (by omega), fun ke lnn tl => v_storm hs, fun ke lnn tl => (vH_count hN hh).2.2.2.2.2.1, fun ke lnn tl => ?_, fun ans x' e => ?_⟩
  · rw [← hG]
    exact v_set (k := 3) (by omega)
  · have e2 : bd8 (fX1_bringPallet lk la ll (nI l.length) pk pa pd (nI pl.length) br sto sg (nI d) (nI F)) _ = some (ans, x') := e
    cases hf : fX1_bringPallet lk la ll (nI l.length) pk pa pd (nI pl.length) br sto sg (nI d) (nI F) with
    | none => rw [hf] at e2; cases e2
    | some y =>
      obtain ⟨y0, y1, y2, y3, y4, y5, y6, y7⟩ := y
      rw [hf, bd8_e] at e2
      cases e2
      rw [(e_fly hM hs hf).1, hG, hsum]
/-- whether a stay suffices, and how many may be booked -/
theorem suff_v {x : HutS} {s : Nat → Int32} (h : HR x s) {b c : Nat} (hb : b ≤ 365) (hc : 1 ≤ c ∧ c ≤ 9) : ∃ W : Nat → Int32, ∀ a, 1 ≤ a → a ≤ 6 → (W a = nI 0 ∨ W a = nI 1) ∧ ∃ y, gX1_wouldSuffice x (nI a) (nI b) (nI c) = some (W a, y) := by
  have one : ∀ a : Nat, ∃ r : Int32, 1 ≤ a → a ≤ 6 → (r = nI 0 ∨ r = nI 1) ∧ ∃ y, gX1_wouldSuffice x (nI a) (nI b) (nI c) = some (r, y) := by
    intro a
    by_cases ha : 1 ≤ a ∧ a ≤ 6
    · obtain ⟨l, pl, N, d, F, lk, la, ll, us, sp, zs, zd, zn, zt, zl, zc, sto, sg, hu, cn, gn, cs, pk, pa, pd, br, hN_, hd, rfl, hh⟩ := h
      obtain ⟨ans, lots', lk', la', ll', us', sp', zs', zd', zn', zt', zl', zc', nm', dy', hu', cn', gn', cs', s', asd', f1, -, -, f4⟩ := taken_sim (asd := s) hN_ hd hh.1 ha hb hc
      refine ⟨ans, fun _ _ => ⟨f4, (lk', la', ll', lots', pk, pa, pd, nI pl.length, br, us', sp', zs', zd', zn', zt', zl', zc', nm', sto, sg, dy', nI F, hu', cn', gn', cs'), ?_⟩⟩
      show bd19 (fX1_wouldSuffice lk la ll (nI l.length) us sp zs zd zn zt zl zc (nI N) sto sg (nI d) hu cn gn cs (nI a) (nI b) (nI c)) _ = _
      rw [f1]
      rfl
    · exact ⟨0, fun h1 h2 => absurd ⟨h1, h2⟩ ha⟩
  exact Classical.axiomOfChoice one
theorem most_v {x : HutS} {s : Nat → Int32} (h : HR x s) {b c : Nat} {W : Nat → Int32} (hW : ∀ a, 1 ≤ a → a ≤ 6 → (W a = nI 0 ∨ W a = nI 1) ∧ ∃ y, gX1_wouldSuffice x (nI a) (nI b) (nI c) = some (W a, y)) : ∀ (k n : Nat), k ≤ 6 → k < n → (∀ a, k < a → a ≤ 6 → W a = nI 0) → ∀ y : HutS, ∃ q y', q ≤ k ∧ gl2 (sX6_most_rec5 x (nI b) (nI c)) n (nI k) y = some (nI q, y') ∧ (q = 0 ∨ W q = nI 1) ∧ ∀ a, q < a → a ≤ 6 → W a = nI 0 := by
  intro k
  induction k with
  | zero =>
    intro n _ hn hA y
    obtain ⟨n, rfl⟩ := Nat.exists_eq_succ_of_ne_zero (Nat.ne_of_gt hn)
    refine ⟨0, y, Nat.le_refl _, ?_, Or.inl rfl, hA⟩
    show sX6_most_rec5 x (nI b) (nI c) _ (nI 0) y = _
    rw [sX6_most_rec5]
    rw [if_pos (by decide), q_l0]
  | succ k ih =>
    intro n hk hn hA y
    obtain ⟨n, rfl⟩ := Nat.exists_eq_succ_of_ne_zero (by omega : n ≠ 0)
    obtain ⟨w, y1, e1⟩ := hW (k + 1) (by omega) hk
    have n1 : ¬ nI (k + 1) < (1 : Int32) := by rw [q_l1, q_lt (by omega) (by omega)]; omega
    have st : gl2 (sX6_most_rec5 x (nI b) (nI c)) (n + 1) (nI (k + 1)) y = (if W (k + 1) = 0 then jl (nI (k + 1) + (-1 : Int32)) fun v17 => gl2 (sX6_most_rec5 x (nI b) (nI c)) n v17 y1 else some (nI (k + 1), y1)) := by
      show sX6_most_rec5 x (nI b) (nI c) (gl2 (sX6_most_rec5 x (nI b) (nI c)) n) (nI (k + 1)) y = _
      rw [sX6_most_rec5]
      rw [if_neg n1, h.copy y, bd1_e, e1, bd2_e]
    rcases w with w | w
    · obtain ⟨q, y', q1, q2, q3, q4⟩ := ih n (by omega) (by omega) (fun a h1 h2 => by
        by_cases e : a = k + 1
        · rw [e]; exact w
        · exact hA a (by omega) h2) y1
      refine ⟨q, y', by omega, ?_, q3, q4⟩
      rw [st, if_pos (by rw [w]; decide), q_jl, q_dec (by omega)]
      exact q2
    · refine ⟨k + 1, y1, Nat.le_refl _, ?_, Or.inr w, hA⟩
      rw [st, if_neg (by rw [w]; decide)]
theorem mayb {d a b c : Nat} (hd : d ≤ 365) (hb : d ≤ b) (ha : a < 2 ^ 20) (hb2 : b < 2 ^ 20) (hc : c < 2 ^ 20) : fX1_mayBeBooked (nI d) (nI a) (nI b) (nI c) = some (if 1 ≤ a ∧ a ≤ 6 ∧ b ≤ 365 ∧ 1 ≤ c ∧ c ≤ 9 then 1 else 0) := by
  unfold fX1_mayBeBooked
  by_cases c1 : a < 1
  · rw [if_pos (show nI a < (1 : Int32) by rw [q_l1, q_lt (by omega) (by omega)]; exact c1), if_neg (by omega)]
  rw [if_neg (show ¬ nI a < (1 : Int32) by rw [q_l1, q_lt (by omega) (by omega)]; exact c1)]
  by_cases c2 : 6 < a
  · rw [if_pos (show (6 : Int32) < nI a by rw [q_l6, q_lt (by omega) (by omega)]; exact c2), if_neg (by omega)]
  rw [if_neg (show ¬ (6 : Int32) < nI a by rw [q_l6, q_lt (by omega) (by omega)]; exact c2), if_neg (show ¬ nI b < nI d by rw [q_lt (by omega) (by omega)]; omega)]
  by_cases c3 : 365 < b
  · rw [if_pos (show (365 : Int32) < nI b by rw [q_l365, q_lt (by omega) (by omega)]; exact c3), if_neg (by omega)]
  rw [if_neg (show ¬ (365 : Int32) < nI b by rw [q_l365, q_lt (by omega) (by omega)]; exact c3)]
  by_cases c4 : c < 1
  · rw [if_pos (show nI c < (1 : Int32) by rw [q_l1, q_lt (by omega) (by omega)]; exact c4), if_neg (by omega)]
  rw [if_neg (show ¬ nI c < (1 : Int32) by rw [q_l1, q_lt (by omega) (by omega)]; exact c4)]
  by_cases c5 : 9 < c
  · rw [if_pos (show (9 : Int32) < nI c by rw [q_l9, q_lt (by omega) (by omega)]; exact c5), if_neg (by omega)]
  rw [if_neg (show ¬ (9 : Int32) < nI c by rw [q_l9, q_lt (by omega) (by omega)]; exact c5), if_pos (by omega)]
/-- what may be booked at most, beside a booking -/
theorem x_book {x : HutS} {s : Nat → Int32} (h : HR x s) {N d : Nat} (eN : x.2.2.2.2.2.2.2.2.2.2.2.2.2.2.2.2.2.1 = nI N) (ed : x.2.2.2.2.2.2.2.2.2.2.2.2.2.2.2.2.2.2.2.2.1 = nI d) (hN : N ≤ 16) (hd : d ≤ 365) {a b c : Nat} (ha : a < 8) (hb : d ≤ b) (hb2 : b < 400) (hc : c < 7) (xt : HutS) : ∃ (most : Int32) (xt' : HutS), fX6_most x xt (nI b) (nI c) = some (most, xt') ∧ ((365 < b ∨ c = 0) → most = -1) ∧ ((b ≤ 365 ∧ 1 ≤ c) → N = 16 → most = -3) ∧ ((b ≤ 365 ∧ 1 ≤ c) → N < 16 → ∃ q, q ≤ 6 ∧ most = nI q) ∧ ∀ (y : HutS) (told : Int32) (x' y' : HutS), gX1_takeBooking x y (nI a) (nI b) (nI c) = some (told, x', y') → ((a = 0 ∨ a = 7 ∨ c = 0 ∨ 365 < b) → told = -1) ∧ (¬ (a = 0 ∨ a = 7 ∨ c = 0 ∨ 365 < b) → (N = 16 → told = -2 ∨ told = -3) ∧ (N < 16 → (told = -2 ∧ most ≠ nI a) ∨ (told = nI N ∧ nI a ≤ most))) := by
  have hx := h
  obtain ⟨l, pl, N2, d2, F, lk, la, ll, us, sp, zs, zd, zn, zt, zl, zc, sto, sg, hu, cn, gn, cs, pk, pa, pd, br, hN2, hd2, rfl, hh⟩ := h
  have eN2 : N2 = N := by
    have : nI N2 = nI N := eN
    rw [q_eq (by omega) (by omega)] at this
    exact this
  have ed2 : d2 = d := by
    have : nI d2 = nI d := ed
    rw [q_eq (by omega) (by omega)] at this
    exact this
  subst eN2 ed2
  have hz : ∀ k, k < 396 → sto k = 0 ∨ sto k = 1 := fun k hk => (hh.1.2.2.2.2.1 k hk).2.1
  have mb1 := mayb (a := 1) (b := b) (c := c) hd hb (by omega) (by omega) (by omega)
  have mba := mayb (a := a) (b := b) (c := c) hd hb (by omega) (by omega) (by omega)
  have bad : ∀ (y : HutS) (told : Int32) (x' y' : HutS), (a = 0 ∨ a = 7 ∨ c = 0 ∨ 365 < b) → gX1_takeBooking (lk, la, ll, nI l.length, pk, pa, pd, nI pl.length, br, us, sp, zs, zd, zn, zt, zl, zc, nI N2, sto, sg, nI d2, nI F, hu, cn, gn, cs) y (nI a) (nI b) (nI c) = some (told, x', y') → told = -1 := by
    intro y told x' y' hbad e
    obtain ⟨y0, y1, y2, y3, y4, y5, y6, y7, y8, y9, y10, y11, y12, y13, y14, y15, y16, y17, y18, y19, y20, y21, y22, y23, y24, y25⟩ := y
    have e2 : bd34 (fX1_takeBooking lk la ll (nI l.length) pk pa pd (nI pl.length) br us sp zs zd zn zt zl zc (nI N2) sto sg (nI d2) (nI F) hu cn gn cs y0 y1 y2 y3 y4 y5 y6 y7 y8 y9 y10 y11 y12 y13 y14 y15 y16 y17 y18 y19 y20 y21 y22 y23 y24 y25 (nI a) (nI b) (nI c)) _ = some (told, x', y') := e
    unfold fX1_takeBooking at e2
    rw [mba, if_neg (by omega), bd1_e, if_pos rfl, bd34_e] at e2
    cases e2
    rfl
  by_cases c1 : 365 < b ∨ c = 0
  · refine ⟨-1, xt, ?_, fun _ => rfl, fun q => absurd c1 (by omega), fun q => absurd c1 (by omega), fun y told x' y' e => ⟨fun q => bad y told x' y' q e, fun q => absurd c1 (by omega)⟩⟩
    unfold fX6_most
    dsimp only
    rw [show fX1_mayBeBooked (nI d2) (1 : Int32) (nI b) (nI c) = _ from mb1, if_neg (by omega), bd1_e, if_pos rfl]
  · obtain ⟨W, hW⟩ := suff_v (c := c) (b := b) hx (by omega) (by omega)
    have hm : fX6_most (lk, la, ll, nI l.length, pk, pa, pd, nI pl.length, br, us, sp, zs, zd, zn, zt, zl, zc, nI N2, sto, sg, nI d2, nI F, hu, cn, gn, cs) xt (nI b) (nI c) = (if nI N2 < (16 : Int32) then gl2 (sX6_most_rec5 (lk, la, ll, nI l.length, pk, pa, pd, nI pl.length, br, us, sp, zs, zd, zn, zt, zl, zc, nI N2, sto, sg, nI d2, nI F, hu, cn, gn, cs) (nI b) (nI c)) gFU (6 : Int32) xt else some ((-3 : Int32), xt)) := by
      unfold fX6_most
      dsimp only
      rw [show fX1_mayBeBooked (nI d2) (1 : Int32) (nI b) (nI c) = _ from mb1, if_pos (by omega), bd1_e, if_neg (by decide)]
    have good : ∀ (y : HutS) (told : Int32) (x' y' : HutS), 1 ≤ a → a ≤ 6 → gX1_takeBooking (lk, la, ll, nI l.length, pk, pa, pd, nI pl.length, br, us, sp, zs, zd, zn, zt, zl, zc, nI N2, sto, sg, nI d2, nI F, hu, cn, gn, cs) y (nI a) (nI b) (nI c) = some (told, x', y') → told = (if W a = 0 then -2 else if N2 < 16 then nI N2 else -3) := by
      intro y told x' y' a1 a2 e
      obtain ⟨y0, y1, y2, y3, y4, y5, y6, y7, y8, y9, y10, y11, y12, y13, y14, y15, y16, y17, y18, y19, y20, y21, y22, y23, y24, y25⟩ := y
      have e2 : bd34 (fX1_takeBooking lk la ll (nI l.length) pk pa pd (nI pl.length) br us sp zs zd zn zt zl zc (nI N2) sto sg (nI d2) (nI F) hu cn gn cs y0 y1 y2 y3 y4 y5 y6 y7 y8 y9 y10 y11 y12 y13 y14 y15 y16 y17 y18 y19 y20 y21 y22 y23 y24 y25 (nI a) (nI b) (nI c)) _ = some (told, x', y') := e
      obtain ⟨-, yy, ew⟩ := hW a a1 a2
      obtain ⟨ans, lots', lk', la', ll', us', sp', zs', zd', zn', zt', zl', zc', nm', dy', hu', cn', gn', cs', s', asd', f1, -, -, f4⟩ := taken_sim (asd := s) hN hd hh.1 (a := a) (b := b) (c := c) ⟨a1, a2⟩ (by omega) (by omega)
      have ew2 : bd19 (fX1_wouldSuffice lk la ll (nI l.length) us sp zs zd zn zt zl zc (nI N2) sto sg (nI d2) hu cn gn cs (nI a) (nI b) (nI c)) _ = some (W a, yy) := ew
      rw [f1, bd19_e] at ew2
      have eW : ans = W a := congrArg (fun z => (z.getD (0, yy)).1) ew2
      unfold fX1_takeBooking at e2
      rw [mba, if_pos (by omega), bd1_e, if_neg (by decide), p_copy hz, bd26_e, f1, bd19_e, eW] at e2
      by_cases c2 : W a = 0
      · rw [if_pos c2, bd34_e] at e2
        cases e2
        rw [if_pos c2]
      · rw [if_neg c2] at e2 ⊢
        by_cases c3 : N2 < 16
        · rw [if_pos (show nI N2 < (16 : Int32) by rw [show (16 : Int32) = nI 16 by decide, q_lt (by omega) (by omega)]; exact c3), p_add hN, bd7_e, q_l1, q_dec2 (by omega), bd34_e] at e2
          cases e2
          rw [if_pos c3]
        · rw [if_neg (show ¬ nI N2 < (16 : Int32) by rw [show (16 : Int32) = nI 16 by decide, q_lt (by omega) (by omega)]; exact c3), bd34_e] at e2
          cases e2
          rw [if_neg c3]
    by_cases c16 : N2 < 16
    · obtain ⟨q, y1, q1, q2, q3, q4⟩ := most_v hx hW 6 gFU (Nat.le_refl _) (by unfold gFU; omega) (fun a h1 h2 => absurd h1 (by omega)) xt
      refine ⟨nI q, y1, ?_, fun z => absurd z c1, fun _ z => absurd z (by omega), fun _ _ => ⟨q, q1, rfl⟩, fun y told x' y' e => ⟨fun z => bad y told x' y' z e, fun z => ⟨fun w => absurd w (by omega), fun _ => ?_⟩⟩⟩
      · rw [hm, if_pos (show nI N2 < (16 : Int32) by rw [show (16 : Int32) = nI 16 by decide, q_lt (by omega) (by omega)]; exact c16), q_l6]
        exact q2
      · have g := good y told x' y' (by omega) (by omega) e
        by_cases w : W a = 0
        · rw [if_pos w] at g
          refine Or.inl ⟨g, fun z => ?_⟩
          rw [q_eq (by omega) (by omega)] at z
          rcases q3 with q3 | q3
          · omega
          · rw [z, w] at q3
            exact absurd q3 (by decide)
        · rw [if_neg w, if_pos c16] at g
          refine Or.inr ⟨g, ?_⟩
          rw [q_le (by omega) (by omega)]
          by_cases z : q < a
          · exact absurd (q4 a z (by omega)) w
          · omega
    · refine ⟨-3, xt, ?_, fun z => absurd z c1, fun _ _ => rfl, fun _ z => absurd z c16, fun y told x' y' e => ⟨fun z => bad y told x' y' z e, fun z => ⟨fun _ => ?_, fun w => absurd w c16⟩⟩⟩
      · rw [hm, if_neg (show ¬ nI N2 < (16 : Int32) by rw [show (16 : Int32) = nI 16 by decide, q_lt (by omega) (by omega)]; exact c16)]
      · have g := good y told x' y' (by omega) (by omega) e
        by_cases w : W a = 0
        · rw [if_pos w] at g
          exact Or.inl g
        · rw [if_neg w, if_neg c16] at g
          exact Or.inr g
theorem x_cancel {x : HutS} {s : Nat → Int32} (h : HR x s) {N : Nat} (eN : x.2.2.2.2.2.2.2.2.2.2.2.2.2.2.2.2.2.1 = nI N) {k : Nat} (hk : k < N + 1) (hN : N ≤ 16) : ∃ B : Int32, (∀ ke lnn tl, fX6_count ke lnn tl x 1 = some B) ∧ (k < N → ∃ v, v ≤ 3 ∧ fX6_partyOf x (nI k) 3 = some (nI v) ∧ ∀ (ans : Int32) (x' : HutS), gX1_callOff x (nI k) = some (ans, x') → ans = if v = 0 then B - 1 else -2) ∧ (k = N → ∀ (ans : Int32) (x' : HutS), gX1_callOff x (nI k) = some (ans, x') → ans = -1) := by
  obtain ⟨l, pl, N2, d, F, lk, la, ll, us, sp, zs, zd, zn, zt, zl, zc, sto, sg, hu, cn, gn, cs, pk, pa, pd, br, hN2, hd, rfl, hh⟩ := h
  have eN2 : N2 = N := by
    have : nI N2 = nI N := eN
    rw [q_eq (by omega) (by omega)] at this
    exact this
  subst eN2
  refine ⟨_, fun ke lnn tl => (vH_count hN hh).2.1, fun hkN => ?_, fun hkN ans x' e => ?_⟩
  · obtain ⟨v, v1, v2⟩ := hh.1.2.1.stat hkN
    refine ⟨v, v1, ?_, fun ans x' e => ?_⟩
    · rw [(vH_party hN hh hkN).2.2.1, v2]
    · have e2 : bd2 (fX1_callOff zt (nI N2) (nI k)) _ = some (ans, x') := e
      cases hf : fX1_callOff zt (nI N2) (nI k) with
      | none => rw [hf] at e2; cases e2
      | some z =>
        obtain ⟨r, m0⟩ := z
        rw [hf, bd2_e] at e2
        cases e2
        rcases e_cancel (by omega) _ hf with ⟨-, ⟨q, -⟩ | ⟨k5, k5b, q5, q6, q⟩⟩ | ⟨k5, k6, k7, k8, -, k9⟩
        · rcases q with q | q
          · exact absurd q (nI_nn (by omega))
          · rw [q_le (by omega) (by omega)] at q
            omega
        · rw [q_eq (by omega) (by omega)] at q5
          rw [← q5, v2] at q6
          have nv : ¬ v = 0 := fun z => q6 (by rw [z])
          rw [if_neg nv, q]
        · rw [q_eq (by omega) (by omega)] at k7
          rw [← k7, v2, q_eq (by omega) (by omega)] at k8
          rw [if_pos k8, k9, q_l1, Int32.add_sub_cancel]
  · have e2 : bd2 (fX1_callOff zt (nI N2) (nI k)) _ = some (ans, x') := e
    cases hf : fX1_callOff zt (nI N2) (nI k) with
    | none => rw [hf] at e2; cases e2
    | some z =>
      obtain ⟨r, m0⟩ := z
      rw [hf, bd2_e] at e2
      cases e2
      rcases e_cancel (by omega) _ hf with ⟨-, ⟨-, q⟩ | ⟨k5, k6, q5, -, -⟩⟩ | ⟨k5, k6, k7, -, -, -⟩
      · exact q
      · rw [q_eq (by omega) (by omega)] at q5
        omega
      · rw [q_eq (by omega) (by omega)] at k7
        omega
theorem x_storm {x : HutS} {s : Nat → Int32} (h : HR x s) {d : Nat} (ed : x.2.2.2.2.2.2.2.2.2.2.2.2.2.2.2.2.2.2.2.2.1 = nI d) (hd9 : d ≤ 365) {p w : Int32} {ans : Int32} {x' : HutS} (e : gX1_tellStorm x p w = some (ans, x')) : ((p < nI d ∨ (365 : Int32) < p ∨ w < 1 ∨ (30 : Int32) < w) ∧ ans = -1) ∨ (∃ a b, p = nI a ∧ w = nI b ∧ d ≤ a ∧ a ≤ 365 ∧ 1 ≤ b ∧ b ≤ 30 ∧ ((∃ c, b ≤ c ∧ c ≤ 40 ∧ ans = nI c) ∨ ans = -3)) := by
  obtain ⟨l, pl, N, d2, F, lk, la, ll, us, sp, zs, zd, zn, zt, zl, zc, sto, sg, hu, cn, gn, cs, pk, pa, pd, br, hN, hd, rfl, hh⟩ := h
  have ed2 : d2 = d := by
    have : nI d2 = nI d := ed
    rw [q_eq (by omega) (by omega)] at this
    exact this
  subst ed2
  have e2 : bd2 (fX1_tellStorm sto (nI d2) p w) _ = some (ans, x') := e
  rcases e_storm p w hd (fun j hj => (hh.1.2.2.2.2.1 j hj).2.1) with ⟨h1, q⟩ | ⟨a, b, c, h1, h2, h3, h4, h5, h6, h7, ⟨c1, sto', q⟩ | q⟩
  · rw [q, bd2_e] at e2
    cases e2
    exact Or.inl ⟨h1, rfl⟩
  · rw [q, bd2_e] at e2
    cases e2
    exact Or.inr ⟨a, b, h1, h2, h3, h4, h5, h6, Or.inl ⟨c, h7, c1, rfl⟩⟩
  · rw [q, bd2_e] at e2
    cases e2
    exact Or.inr ⟨a, b, h1, h2, h3, h4, h5, h6, Or.inr rfl⟩
theorem x_clear {x : HutS} {s : Nat → Int32} (h : HR x s) {d : Nat} (ed : x.2.2.2.2.2.2.2.2.2.2.2.2.2.2.2.2.2.2.2.2.1 = nI d) (hd9 : d ≤ 365) {p : Int32} {ans : Int32} {x' : HutS} (e : gX1_tellCalm x p = some (ans, x')) : (p < nI d → ans = -1) ∧ (∀ a, p = nI a → d ≤ a → a ≤ 395 → (∃ v, v ≤ 1 ∧ ans = nI v) ∧ (a = d → (∀ ke lnn tl, fX6_count ke lnn tl x 5 = some ans) ∧ ∀ ke lnn tl, fX6_count ke lnn tl x' 5 = some 0)) := by
  obtain ⟨l, pl, N, d2, F, lk, la, ll, us, sp, zs, zd, zn, zt, zl, zc, sto, sg, hu, cn, gn, cs, pk, pa, pd, br, hN, hd, rfl, hh⟩ := h
  have ed2 : d2 = d := by
    have : nI d2 = nI d := ed
    rw [q_eq (by omega) (by omega)] at this
    exact this
  subst ed2
  have e2 : bd2 (fX1_tellCalm sto (nI d2) p) _ = some (ans, x') := e
  have hT := hh.1.2.2.2.2.1
  constructor
  · intro hp
    unfold fX1_tellCalm at e2
    rw [if_pos hp, bd2_e] at e2
    cases e2
    rfl
  · rintro a rfl ha1 ha2
    rcases calm_sim (nI a) hd hT with ⟨f1, f2⟩ | ⟨k, v, k1, k2, k3, f1, -, k4, -⟩
    · exfalso
      unfold fX7_in at f2
      rw [if_neg (show ¬ nI a < nI d2 by rw [q_lt (by omega) (by omega)]; omega), if_neg (show ¬ nI 395 < nI a by rw [q_lt (by omega) (by omega)]; omega)] at f2
      exact absurd f2 (by decide)
    · rw [q_eq (by omega) (by omega)] at k2
      subst k2
      rw [f1, bd2_e] at e2
      cases e2
      refine ⟨⟨v, k3, rfl⟩, ?_⟩
      rintro rfl
      have hv : sto a = nI v := (hT a k1).1.symm.trans k4
      constructor
      · intro ke lnn tl
        have hs := p_isStorm (sto := sto) (d := a) (by omega) (fun hk => (hT a hk).2.1)
        have h5 := v_storm (lk := lk) (la := la) (ll := ll) (n := nI l.length) (pk := pk) (pa := pa) (pd := pd) (pn := nI pl.length) (br := br) (us := us) (sp := sp) (zs := zs) (zd := zd) (zn := zn) (zt := zt) (zl := zl) (zc := zc) (sg := sg) (N := N) (F := nI F) (hu := hu) (cn := cn) (gn := gn) (cs := cs) (ke := ke) (lnn := lnn) (tl := tl) hs
        rw [h5]
        rcases (show v = 0 ∨ v = 1 by omega) with rfl | rfl
        · rw [if_neg (show ¬ (a < 396 ∧ sto a = nI 1) from fun q => absurd (hv.symm.trans q.2) (by decide)), if_pos (by decide), q_l0]
        · rw [if_pos (show a < 396 ∧ sto a = nI 1 from ⟨k1, hv⟩), if_neg (by decide), q_l1]
      · intro ke lnn tl
        have hs := p_isStorm (sto := upd sto a (nI 0)) (d := a) (by omega) (fun hk => Or.inl pk_us)
        rw [if_neg (show ¬ (a < 396 ∧ upd sto a (nI 0) a = nI 1) from fun q => absurd (q.2.symm.trans pk_us) (by decide))] at hs
        have h5 := v_storm (lk := lk) (la := la) (ll := ll) (n := nI l.length) (pk := pk) (pa := pa) (pd := pd) (pn := nI pl.length) (br := br) (us := us) (sp := sp) (zs := zs) (zd := zd) (zn := zn) (zt := zt) (zl := zl) (zc := zc) (sg := sg) (N := N) (F := nI F) (hu := hu) (cn := cn) (gn := gn) (cs := cs) (ke := ke) (lnn := lnn) (tl := tl) hs
        exact h5.trans (by rw [if_pos (by decide)])
theorem x_sleep {x : HutS} {s : Nat → Int32} (h : HR x s) {d : Nat} (ed : x.2.2.2.2.2.2.2.2.2.2.2.2.2.2.2.2.2.2.2.2.1 = nI d) (hd9 : d ≤ 365) {m : Nat} (hm : m ≤ 61) {ans : Int32} {x' : HutS} (e : gX1_passNights x (nI m) = some (ans, x')) : ∃ hu hu' : Int32, (∀ ke lnn tl, fX6_count ke lnn tl x 8 = some hu) ∧ (∀ ke lnn tl, fX6_count ke lnn tl x' 8 = some hu') ∧ ((m = 0 ∨ m = 61) → ans = -1) ∧ (¬ (m = 0 ∨ m = 61) → (365 < d + m → ans = -3) ∧ (d + m ≤ 365 → ans = hu' - hu ∧ ∀ ke lnn tl, fX6_count ke lnn tl x' 4 = some (nI (d + m)))) := by
  obtain ⟨l, pl, N, d2, F, lk, la, ll, us, sp, zs, zd, zn, zt, zl, zc, sto, sg, hu, cn, gn, cs, pk, pa, pd, br, hN, hd, rfl, hh⟩ := h
  have ed2 : d2 = d := by
    have : nI d2 = nI d := ed
    rw [q_eq (by omega) (by omega)] at this
    exact this
  subst ed2
  have e2 : bd15 (fX1_passNights lk la ll (nI l.length) us sp zs zd zn zt zl zc (nI N) sto sg (nI d2) hu cn gn cs (nI m)) _ = some (ans, x') := e
  cases hf : fX1_passNights lk la ll (nI l.length) us sp zs zd zn zt zl zc (nI N) sto sg (nI d2) hu cn gn cs (nI m) with
  | none => rw [hf] at e2; cases e2
  | some z =>
    obtain ⟨z0, z1, z2, z3, z4, z5, z6, z7, z8, z9, z10, z11, z12, z13, z14⟩ := z
    rw [hf, bd15_e] at e2
    cases e2
    have q60 : (60 : Int32) = nI 60 := by decide
    refine ⟨hu, z11, fun ke lnn tl => (vH_count hN hh).2.2.2.2.2.2.2.1, fun ke lnn tl => (v_count (N := N) (by omega)).2.2.2.2.2.2.2.1, fun q => ?_, fun q => ⟨fun w => ?_, fun w => ?_⟩⟩
    · rcases e_sleep (br := br) (nI m) hd hh.1 hf with ⟨-, ⟨-, r⟩ | ⟨k, k1, k2, k3, -, -⟩⟩ | ⟨k, k1, k2, k3, -⟩
      · exact r
      · rw [q_eq (by omega) (by omega)] at k3
        omega
      · rw [q_eq (by omega) (by omega)] at k3
        omega
    · rcases e_sleep (br := br) (nI m) hd hh.1 hf with ⟨-, ⟨r, -⟩ | ⟨k, k1, k2, k3, k4, k5⟩⟩ | ⟨k, k1, k2, k3, k4, -⟩
      · rw [q_l1, q60, q_lt (by omega) (by omega), q_lt (by omega) (by omega)] at r
        omega
      · exact k5
      · rw [q_eq (by omega) (by omega)] at k3
        omega
    · rcases e_sleep (br := br) (nI m) hd hh.1 hf with ⟨-, ⟨r, -⟩ | ⟨k, k1, k2, k3, k4, -⟩⟩ | ⟨k, k1, k2, k3, k4, k5, k6, -⟩
      · rw [q_l1, q60, q_lt (by omega) (by omega), q_lt (by omega) (by omega)] at r
        omega
      · rw [q_eq (by omega) (by omega)] at k3
        omega
      · rw [q_eq (by omega) (by omega)] at k3
        subst k3
        refine ⟨k5, fun ke lnn tl => ?_⟩
        rw [k6]
        exact (v_count (N := N) (by omega)).2.2.2.2.1
theorem x_set {x : HutS} {s : Nat → Int32} (h : HR x s) {w v : Nat} (hw : w < 5) (hv : v < 13) {ans : Int32} {x' : HutS} (e : gX1_changeSetting x (nI w) (nI v) = some (ans, x')) : (w = 4 → ans = -1) ∧ (w < 4 → ∃ old : Int32, (∀ ke lnn tl, fX6_count ke lnn tl x ((20 : Int32) + nI w) = some old) ∧ ans = if (v = 0 ∧ w < 2) ∨ (w = 1 ∧ 3 < v) ∨ (1 < w ∧ 9 < v) then -1 else old) := by
  obtain ⟨l, pl, N, d, F, lk, la, ll, us, sp, zs, zd, zn, zt, zl, zc, sto, sg, hu, cn, gn, cs, pk, pa, pd, br, hN, hd, rfl, hh⟩ := h
  have e2 : bd2 (fX1_changeSetting sg (nI w) (nI v)) _ = some (ans, x') := e
  have G : ∀ lo hi : Nat, w < 4 → gLowN w = nI lo → gHighN w = nI hi → lo ≤ 1 → hi ≤ 40 → fX1_changeSetting sg (nI w) (nI v) = (if v < lo then some (-1, sg) else if v ≤ hi then some (sg w, upd sg w (nI v)) else some (-1, sg)) := by
    intro lo hi h1 h2 h3 h4 h5
    unfold fX1_changeSetting
    rw [if_neg (nI_nn (by omega)), if_neg (show ¬ (4 : Int32) ≤ nI w by rw [q_l4, q_le (by omega) (by omega)]; omega), q_gd (by omega) (by omega), q_cl (by omega), h2, h3]
    by_cases c1 : v < lo
    · rw [if_pos c1, if_pos (by rw [q_lt (by omega) (by omega)]; exact c1)]
    · rw [if_neg c1, if_neg (by rw [q_lt (by omega) (by omega)]; exact c1)]
      by_cases c2 : v ≤ hi
      · rw [if_pos c2, if_pos (by rw [q_le (by omega) (by omega)]; exact c2), q_jl, q_jl]
      · rw [if_neg c2, if_neg (by rw [q_le (by omega) (by omega)]; exact c2)]
  constructor
  · rintro rfl
    unfold fX1_changeSetting at e2
    rw [if_neg (nI_nn (by omega)), if_pos (show (4 : Int32) ≤ nI 4 by decide), bd2_e] at e2
    cases e2
    rfl
  · intro h4
    refine ⟨sg w, fun ke lnn tl => v_set (by omega), ?_⟩
    have fin : ∀ lo hi : Nat, gLowN w = nI lo → gHighN w = nI hi → lo ≤ 1 → hi ≤ 40 → ((v < lo ∨ hi < v) ↔ ((v = 0 ∧ w < 2) ∨ (w = 1 ∧ 3 < v) ∨ (1 < w ∧ 9 < v))) → ans = if (v = 0 ∧ w < 2) ∨ (w = 1 ∧ 3 < v) ∨ (1 < w ∧ 9 < v) then -1 else sg w := by
      intro lo hi h1 h2 h3 h5 h6
      rw [G lo hi h4 h1 h2 h3 h5] at e2
      by_cases c1 : v < lo
      · rw [if_pos c1, bd2_e] at e2
        cases e2
        rw [if_pos (h6.mp (Or.inl c1))]
      · rw [if_neg c1] at e2
        by_cases c2 : v ≤ hi
        · rw [if_pos c2, bd2_e] at e2
          cases e2
          rw [if_neg (fun z => by have := h6.mpr z; omega)]
        · rw [if_neg c2, bd2_e] at e2
          cases e2
          rw [if_pos (h6.mp (Or.inr (by omega)))]
    rcases (show w = 0 ∨ w = 1 ∨ w = 2 ∨ w = 3 by omega) with rfl | rfl | rfl | rfl
    · exact fin 1 40 (by decide) (by decide) (by omega) (by omega) (by omega)
    · exact fin 1 3 (by decide) (by decide) (by omega) (by omega) (by omega)
    · exact fin 0 9 (by decide) (by decide) (by omega) (by omega) (by omega)
    · exact fin 0 9 (by decide) (by decide) (by omega) (by omega) (by omega)
