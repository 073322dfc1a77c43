/-! ===== a hut as a whole beside the reference's numbers ===== -/
theorem ParR.congr {N d : Nat} {zs zd zn zt zl zc s s' : Nat → Int32} (h : ParR N d zs zd zn zt zl zc s) (e : ∀ j, j = 4 ∨ (101 ≤ j ∧ j < 203) → s' j = s j) : ParR N d zs zd zn zt zl zc s' := by
  obtain ⟨hN, h4, hp, hr, hl4⟩ := h
  refine ⟨hN, (e 4 (Or.inl rfl)).trans h4, hp, fun j hj => ?_, fun j hj => (e _ (Or.inr (by omega))).trans (hl4 j hj)⟩
  obtain ⟨a1, a2, a3, a4, a5⟩ := hr j hj
  exact ⟨(e _ (Or.inr (by omega))).trans a1, (e _ (Or.inr (by omega))).trans a2, (e _ (Or.inr (by omega))).trans a3, (e _ (Or.inr (by omega))).trans a4, (e _ (Or.inr (by omega))).trans a5⟩
theorem SetR.congr {sg s s' : Nat → Int32} (h : SetR sg s) (e : ∀ k, k ≤ 3 → s' (10 + k) = s (10 + k)) : SetR sg s' := ⟨fun k hk => (e k hk).trans (h.1 k hk), h.2⟩
theorem StoR.congr {sto s s' : Nat → Int32} (h : StoR sto s) (e : ∀ k, k < 396 → s' (203 + k) = s (203 + k)) : StoR sto s' := fun k hk => ⟨(e k hk).trans (h k hk).1, (h k hk).2⟩
theorem NightR.of {l : List LT} {N N2 d : Nat} {lk la ll us sp zs zd zn zt zl zc sto sg s zs2 zd2 zn2 zt2 zl2 zc2 sto2 sg2 s' : Nat → Int32} {hu cn gn cs : Int32} (h : NightR l N d lk la ll us sp zs zd zn zt zl zc sto sg hu cn gn cs s) (e : ∀ j, j = 0 ∨ j = 2 ∨ (5 ≤ j ∧ j ≤ 8) ∨ (17 ≤ j ∧ j < 23) ∨ (41 ≤ j ∧ j < 101) → s' j = s j) (hp : ParR N2 d zs2 zd2 zn2 zt2 zl2 zc2 s') (hs : SetR sg2 s') (hT : StoR sto2 s') : NightR l N2 d lk la ll us sp zs2 zd2 zn2 zt2 zl2 zc2 sto2 sg2 hu cn gn cs s' := by
  obtain ⟨⟨hl, hlb, hlz, hcl, hml⟩, _, hU, _, _, h0, h5, h6, h7, h8⟩ := h
  exact ⟨⟨hl, hlb, hlz, hcl, ML_congr hl (e 2 (by omega)) (fun j _ _ => e j (by omega)) hml⟩, hp, fun k hk => ⟨(e _ (by omega)).trans (hU k hk).1, (e _ (by omega)).trans (hU k hk).2⟩, hs, hT, (e 0 (by omega)).trans h0, (e 5 (by omega)).trans h5, (e 6 (by omega)).trans h6, (e 7 (by omega)).trans h7, (e 8 (by omega)).trans h8⟩
theorem HutR.of {l l' pl : List LT} {N N' d d' F : Nat} {lk la ll us sp zs zd zn zt zl zc sto sg lk2 la2 ll2 us2 sp2 zs2 zd2 zn2 zt2 zl2 zc2 sto2 sg2 pk pa pd br s s' : Nat → Int32} {hu cn gn cs hu2 cn2 gn2 cs2 : Int32} (h : HutR l pl N d F lk la ll us sp zs zd zn zt zl zc sto sg hu cn gn cs pk pa pd br s) (hn : NightR l' N' d' lk2 la2 ll2 us2 sp2 zs2 zd2 zn2 zt2 zl2 zc2 sto2 sg2 hu2 cn2 gn2 cs2 s') (e : ∀ j, j = 1 ∨ j = 3 ∨ (14 ≤ j ∧ j ≤ 16) ∨ (23 ≤ j ∧ j < 41) → s' j = s j) : HutR l' pl N' d' F lk2 la2 ll2 us2 sp2 zs2 zd2 zn2 zt2 zl2 zc2 sto2 sg2 hu2 cn2 gn2 cs2 pk pa pd br s' := by
  obtain ⟨_, ⟨hp1, hp2, hp3, hp4, hp5⟩, hB, h1, hF⟩ := h
  exact ⟨hn, ⟨hp1, hp2, hp3, (e 3 (by omega)).trans hp4, CA_congr pl 0 (fun j _ hj => ⟨e _ (by omega), e _ (by omega), e _ (by omega)⟩) hp5⟩, fun k hk => (e _ (by omega)).trans (hB k hk), (e 1 (by omega)).trans h1, hF⟩
theorem HutR.congr {l pl : List LT} {N d F : Nat} {lk la ll us sp zs zd zn zt zl zc sto sg pk pa pd br s s' : Nat → Int32} {hu cn gn cs : Int32} (h : HutR l pl N d F lk la ll us sp zs zd zn zt zl zc sto sg hu cn gn cs pk pa pd br s) (e : ∀ j, j < 599 → s' j = s j) : HutR l pl N d F lk la ll us sp zs zd zn zt zl zc sto sg hu cn gn cs pk pa pd br s' :=
  h.of (h.1.congr (fun j hj _ => e j hj)) (fun j hj => e j (by omega))
def HR (x : HutS) (s : Nat → Int32) : Prop :=
  ∃ (l pl : List LT) (N d F : Nat) (lk la ll us sp zs zd zn zt zl zc sto sg : Nat → Int32) (hu cn gn cs : Int32) (pk pa pd br : Nat → Int32), N ≤ 16 ∧ d ≤ 365 ∧ x = (lk, la, ll, nI l.length, pk, pa, pd, nI pl.length, br, us, sp, zs, zd, zn, zt, zl, zc, nI N, sto, sg, nI d, nI F, hu, cn, gn, cs) ∧ HutR l pl N d F lk la ll us sp zs zd zn zt zl zc sto sg hu cn gn cs pk pa pd br s
theorem HR.mk {l pl : List LT} {N d F : Nat} {lk la ll us sp zs zd zn zt zl zc sto sg pk pa pd br s : Nat → Int32} {hu cn gn cs : Int32} (hN : N ≤ 16) (hd : d ≤ 365) (h : HutR l pl N d F lk la ll us sp zs zd zn zt zl zc sto sg hu cn gn cs pk pa pd br s) : HR (lk, la, ll, nI l.length, pk, pa, pd, nI pl.length, br, us, sp, zs, zd, zn, zt, zl, zc, nI N, sto, sg, nI d, nI F, hu, cn, gn, cs) s :=
  ⟨l, pl, N, d, F, lk, la, ll, us, sp, zs, zd, zn, zt, zl, zc, sto, sg, hu, cn, gn, cs, pk, pa, pd, br, hN, hd, rfl, h⟩
theorem HR.congr {x : HutS} {s s' : Nat → Int32} (h : HR x s) (e : ∀ j, j < 599 → s' j = s j) : HR x s' := by
  obtain ⟨l, pl, N, d, F, lk, la, ll, us, sp, zs, zd, zn, zt, zl, zc, sto, sg, hu, cn, gn, cs, pk, pa, pd, br, hN, hd, rfl, hh⟩ := h
  exact HR.mk hN hd (hh.congr e)
theorem HR.copy {y : HutS} {s : Nat → Int32} (x : HutS) (h : HR y s) : gX1_copyFrom x y = some y := by
  obtain ⟨l, pl, N, d, F, lk, la, ll, us, sp, zs, zd, zn, zt, zl, zc, sto, sg, hu, cn, gn, cs, pk, pa, pd, br, hN, hd, rfl, hh⟩ := h
  have hz : fzB sto 396 = true := by
    unfold fzB
    rw [List.all_eq_true]
    intro k hk
    have hk' : k < 396 := List.mem_range.mp hk
    rcases (hh.1.2.2.2.2.1 k hk').2.1 with w | w
    · rw [w]; decide
    · rw [w]; decide
  unfold gX1_copyFrom fX1_copyFrom fX4_copyFrom fX2_copyFrom
  dsimp only
  rw [bd11_e, bd7_e, hz]
  rfl
/-- what an act answers: a number, and the hut goes on beside the reference's new numbers; or an error, and the hut is as it was -/
def OpR (ans : Int32) (x' : HutS) (s s' : Nat → Int32) : Prop := (∃ A, A < 2 ^ 20 ∧ ans = nI A ∧ HR x' s') ∨ (ans < 0 ∧ HR x' s)
theorem g_load {x : HutS} {s : Nat → Int32} (p1 p2 p3 : Int32) (h : HR x s) : ∃ ans x' s', gX1_putOnPallet x p1 p2 p3 = some (ans, x') ∧ fX7_loads s p1 p2 p3 = some (ans, s') ∧ OpR ans x' s s' := by
  obtain ⟨l, pl, N, d, F, lk, la, ll, us, sp, zs, zd, zn, zt, zl, zc, sto, sg, hu, cn, gn, cs, pk, pa, pd, br, hN, hd, rfl, hh⟩ := h
  obtain ⟨ans, pk', pa', pd', pl', s', e1, e2, e3, e4, e5⟩ := load_sim p1 p2 p3 hh.2.1
  have hn : NightR l N d lk la ll us sp zs zd zn zt zl zc sto sg hu cn gn cs s' := hh.1.of (fun j hj => e4 j (by omega) (by omega)) (hh.1.2.1.congr (fun j hj => e4 j (by omega) (by omega))) (hh.1.2.2.2.1.congr (fun k hk => e4 _ (by omega) (by omega))) (hh.1.2.2.2.2.1.congr (fun k hk => e4 _ (by omega) (by omega)))
  have hH : HutR l pl' N d F lk la ll us sp zs zd zn zt zl zc sto sg hu cn gn cs pk' pa' pd' br s' := ⟨hn, e3, fun k hk => (e4 _ (by omega) (by omega)).trans (hh.2.2.1 k hk), (e4 1 (by omega) (by omega)).trans hh.2.2.2.1, hh.2.2.2.2⟩
  refine ⟨ans, (lk, la, ll, nI l.length, pk', pa', pd', nI (List.length pl'), br, us, sp, zs, zd, zn, zt, zl, zc, nI N, sto, sg, nI d, nI F, hu, cn, gn, cs), s', ?_, e2, ?_⟩
  · show bd5 (fX1_putOnPallet pk pa pd (nI pl.length) p1 p2 p3) _ = _
    rw [e1]
    rfl
  · rcases e5 with ⟨q1, q2⟩ | ⟨q1, q2⟩
    · obtain ⟨A, hA, rfl⟩ := nI_of (Int32.not_lt.mpr q1)
      rw [q_le hA (by omega)] at q2
      exact Or.inl ⟨A, by omega, rfl, HR.mk hN hd hH⟩
    · rw [← q2]
      exact Or.inr ⟨q1, HR.mk hN hd hH⟩
theorem g_fly {x : HutS} {s : Nat → Int32} (h : HR x s) : ∃ ans x' s', gX1_bringPallet x = some (ans, x') ∧ fX7_flies s = some (ans, s') ∧ OpR ans x' s s' := by
  obtain ⟨l, pl, N, d, F, lk, la, ll, us, sp, zs, zd, zn, zt, zl, zc, sto, sg, hu, cn, gn, cs, pk, pa, pd, br, hN, hd, rfl, hh⟩ := h
  obtain ⟨ans, l', pl', F', lk', la', ll', br', s', e1, e2, e3, e4, -⟩ := fly_sim hd hh
  refine ⟨ans, (lk', la', ll', nI (List.length l'), pk, pa, pd, nI (List.length pl'), br', us, sp, zs, zd, zn, zt, zl, zc, nI N, sto, sg, nI d, nI F', hu, cn, gn, cs), s', ?_, e2, ?_⟩
  · show bd8 (fX1_bringPallet lk la ll (nI l.length) pk pa pd (nI pl.length) br sto sg (nI d) (nI F)) _ = _
    rw [e1]
    rfl
  · have hp : pl.length ≤ 6 := hh.2.1.1
    rcases e4 with q1 | ⟨q1, q2⟩
    · exact Or.inl ⟨pl.length, by omega, q1, HR.mk hN hd e3⟩
    · rw [← q2]
      exact Or.inr ⟨q1, HR.mk hN hd e3⟩
theorem g_book {x : HutS} {s : Nat → Int32} (y : HutS) (asd : Nat → Int32) (p1 p2 p3 : Int32) (h : HR x s) : ∃ ans x' y' s' asd', gX1_takeBooking x y p1 p2 p3 = some (ans, x', y') ∧ fX7_books s asd p1 p2 p3 = some (ans, s', asd') ∧ OpR ans x' s s' := by
  obtain ⟨l, pl, N, d, F, lk, la, ll, us, sp, zs, zd, zn, zt, zl, zc, sto, sg, hu, cn, gn, cs, pk, pa, pd, br, hN, hd, rfl, hh⟩ := h
  obtain ⟨olk, ola, oll, olots, opk, opa, opd, oonp, obr, ous, osp, ozs, ozd, ozn, ozt, ozl, ozc, onm, osto, osg, ody, ofl, ohu, ocn, ogn, ocs⟩ := y
  obtain ⟨ans, zs', zd', zn', zt', zl', zc', N', tlk, tla, tll, tlots, tpk, tpa, tpd, tonp, tbr, tus, tsp, tzs, tzd, tzn, tzt, tzl, tzc, tnm, tsto, tsg, tdy, tfl, thu, tcn, tgn, tcs, s', asd', e1, e2, e3, e4, e5, e6, e7⟩ := book_sim (asd := asd) (pk := pk) (pa := pa) (pd := pd) (br := br) (onp := nI pl.length) (fl := nI F) (olk := olk) (ola := ola) (oll := oll) (olots := olots) (opk := opk) (opa := opa) (opd := opd) (oonp := oonp) (obr := obr) (ous := ous) (osp := osp) (ozs := ozs) (ozd := ozd) (ozn := ozn) (ozt := ozt) (ozl := ozl) (ozc := ozc) (onm := onm) (osto := osto) (osg := osg) (ody := ody) (ofl := ofl) (ohu := ohu) (ocn := ocn) (ogn := ogn) (ocs := ocs) p1 p2 p3 hN hd hh.1
  have hH := hh.of e4 (fun j hj => e5 j (by unfold nightF; omega) (by omega))
  refine ⟨ans, (lk, la, ll, nI l.length, pk, pa, pd, nI pl.length, br, us, sp, zs', zd', zn', zt', zl', zc', nI N', sto, sg, nI d, nI F, hu, cn, gn, cs), (tlk, tla, tll, tlots, tpk, tpa, tpd, tonp, tbr, tus, tsp, tzs, tzd, tzn, tzt, tzl, tzc, tnm, tsto, tsg, tdy, tfl, thu, tcn, tgn, tcs), s', asd', ?_, e2, ?_⟩
  · show bd34 (fX1_takeBooking lk la ll (nI l.length) pk pa pd (nI pl.length) br us sp zs zd zn zt zl zc (nI N) sto sg (nI d) (nI F) hu cn gn cs olk ola oll olots opk opa opd oonp obr ous osp ozs ozd ozn ozt ozl ozc onm osto osg ody ofl ohu ocn ogn ocs p1 p2 p3) _ = _
    rw [e1]
    rfl
  · rcases e6 with q1 | ⟨A, q1, q2⟩
    · obtain ⟨rfl, rfl, rfl, rfl, rfl, rfl, rfl⟩ := e7 q1
      exact Or.inr ⟨q1, HR.mk hN hd hh⟩
    · exact Or.inl ⟨A, by omega, q2, HR.mk e3 hd hH⟩
theorem g_cancel {x : HutS} {s : Nat → Int32} (p1 : Int32) (h : HR x s) : ∃ ans x' s', gX1_callOff x p1 = some (ans, x') ∧ fX7_cancels s p1 = some (ans, s') ∧ OpR ans x' s s' := by
  obtain ⟨l, pl, N, d, F, lk, la, ll, us, sp, zs, zd, zn, zt, zl, zc, sto, sg, hu, cn, gn, cs, pk, pa, pd, br, hN, hd, rfl, hh⟩ := h
  obtain ⟨ans, zt', s', e1, e2, e3, e4, e5⟩ := cancel_sim p1 hh.1.2.1
  have hn : NightR l N d lk la ll us sp zs zd zn zt' zl zc sto sg hu cn gn cs s' := hh.1.of (fun j hj => e4 j (fun k hk => by omega)) e3 (hh.1.2.2.2.1.congr (fun k hk => e4 _ (fun _ _ => by omega))) (hh.1.2.2.2.2.1.congr (fun k hk => e4 _ (fun _ _ => by omega)))
  have hH := hh.of hn (fun j hj => e4 j (fun k hk => by omega))
  refine ⟨ans, (lk, la, ll, nI l.length, pk, pa, pd, nI pl.length, br, us, sp, zs, zd, zn, zt', zl, zc, nI N, sto, sg, nI d, nI F, hu, cn, gn, cs), s', ?_, e2, ?_⟩
  · show bd2 (fX1_callOff zt (nI N) p1) _ = _
    rw [e1]
    rfl
  · rcases e5 with ⟨q1, q2⟩ | ⟨q1, q2⟩
    · obtain ⟨A, hA, rfl⟩ := nI_of (Int32.not_lt.mpr q1)
      rw [q_le hA (by omega)] at q2
      exact Or.inl ⟨A, by omega, rfl, HR.mk hN hd hH⟩
    · rw [← q2]
      exact Or.inr ⟨q1, HR.mk hN hd hH⟩
theorem g_storm {x : HutS} {s : Nat → Int32} (p1 p2 : Int32) (h : HR x s) : ∃ ans x' s', gX1_tellStorm x p1 p2 = some (ans, x') ∧ fX7_storms s p1 p2 = some (ans, s') ∧ OpR ans x' s s' := by
  obtain ⟨l, pl, N, d, F, lk, la, ll, us, sp, zs, zd, zn, zt, zl, zc, sto, sg, hu, cn, gn, cs, pk, pa, pd, br, hN, hd, rfl, hh⟩ := h
  obtain ⟨ans, sto', s', e1, e2, e3, e4⟩ := storm_sim p1 p2 hd hh.1.2.2.2.2.2.1 hh.1.2.2.2.2.1
  refine ⟨ans, (lk, la, ll, nI l.length, pk, pa, pd, nI pl.length, br, us, sp, zs, zd, zn, zt, zl, zc, nI N, sto', sg, nI d, nI F, hu, cn, gn, cs), s', ?_, e2, ?_⟩
  · show bd2 (fX1_tellStorm sto (nI d) p1 p2) _ = _
    rw [e1]
    rfl
  · rcases e3 with ⟨q1, q2⟩ | ⟨c, q1, q2, q3⟩
    · rw [q2]
      exact Or.inr ⟨q1, HR.mk hN hd hh⟩
    · have hn : NightR l N d lk la ll us sp zs zd zn zt zl zc sto' sg hu cn gn cs s' := hh.1.of (fun j hj => e4 j (by omega)) (hh.1.2.1.congr (fun j hj => e4 j (by omega))) (hh.1.2.2.2.1.congr (fun k hk => e4 _ (by omega))) q3
      exact Or.inl ⟨c, by omega, q2, HR.mk hN hd (hh.of hn (fun j hj => e4 j (by omega)))⟩
theorem g_sleep {x : HutS} {s : Nat → Int32} (p1 : Int32) (h : HR x s) : ∃ ans x' s', gX1_passNights x p1 = some (ans, x') ∧ fX7_sleeps s p1 = some (ans, s') ∧ OpR ans x' s s' := by
  obtain ⟨l, pl, N, d, F, lk, la, ll, us, sp, zs, zd, zn, zt, zl, zc, sto, sg, hu, cn, gn, cs, pk, pa, pd, br, hN, hd, rfl, hh⟩ := h
  obtain ⟨ans, l', d', lk', la', ll', us', sp', zt', zl', zc', hu', cn', gn', cs', s', e1, e2, e3, e4, e5, e6⟩ := sleep_sim p1 hd hh.1
  have hH := hh.of e4 (fun j hj => e5 j (by unfold nightF; omega))
  refine ⟨ans, (lk', la', ll', nI (List.length l'), pk, pa, pd, nI pl.length, br, us', sp', zs, zd, zn, zt', zl', zc', nI N, sto, sg, nI d', nI F, hu', cn', gn', cs'), s', ?_, e2, ?_⟩
  · show bd15 (fX1_passNights lk la ll (nI l.length) us sp zs zd zn zt zl zc (nI N) sto sg (nI d) hu cn gn cs p1) _ = _
    rw [e1]
    rfl
  · rcases e6 with ⟨q1, q2⟩ | ⟨A, q1, q2⟩
    · rw [← q2]
      exact Or.inr ⟨q1, HR.mk hN e3 hH⟩
    · exact Or.inl ⟨A, by omega, q2, HR.mk hN e3 hH⟩
/-- a storm called off: the reference has no step of its own for it -/
theorem g_calm {x : HutS} {s : Nat → Int32} (p1 : Int32) (h : HR x s) : ∃ d, d ≤ 365 ∧ s 0 = nI d ∧ ((gX1_tellCalm x p1 = some (-1, x) ∧ fX7_in p1 (nI d) (nI 395) = some (nI 0)) ∨ (∃ k v x', k < 396 ∧ p1 = nI k ∧ v ≤ 1 ∧ gX1_tellCalm x p1 = some (nI v, x') ∧ fX7_in p1 (nI d) (nI 395) = some (nI 1) ∧ s (203 + k) = nI v ∧ HR x' (upd s (203 + k) (nI 0)))) := by
  obtain ⟨l, pl, N, d, F, lk, la, ll, us, sp, zs, zd, zn, zt, zl, zc, sto, sg, hu, cn, gn, cs, pk, pa, pd, br, hN, hd, rfl, hh⟩ := h
  refine ⟨d, hd, hh.1.2.2.2.2.2.1, ?_⟩
  rcases calm_sim p1 hd hh.1.2.2.2.2.1 with ⟨e1, e2⟩ | ⟨k, v, e1, e2, e3, e4, e5, e6, e7⟩
  · refine Or.inl ⟨?_, e2⟩
    show bd2 (fX1_tellCalm sto (nI d) p1) _ = _
    rw [e1]
    rfl
  · refine Or.inr ⟨k, v, (lk, la, ll, nI l.length, pk, pa, pd, nI pl.length, br, us, sp, zs, zd, zn, zt, zl, zc, nI N, upd sto k (nI 0), sg, nI d, nI F, hu, cn, gn, cs), e1, e2, e3, ?_, e5, e6, ?_⟩
    · show bd2 (fX1_tellCalm sto (nI d) p1) _ = _
      rw [e4]
      rfl
    · have hn : NightR l N d lk la ll us sp zs zd zn zt zl zc (upd sto k (nI 0)) sg hu cn gn cs (upd s (203 + k) (nI 0)) := hh.1.of (fun j hj => pk_un (by omega)) (hh.1.2.1.congr (fun j hj => pk_un (by omega))) (hh.1.2.2.2.1.congr (fun j hj => pk_un (by omega))) e7
      exact HR.mk hN hd (hh.of hn (fun j hj => pk_un (by omega)))
theorem g_set {x : HutS} {s : Nat → Int32} (p1 p2 : Int32) (h : HR x s) : (gX1_changeSetting x p1 p2 = some (-1, x) ∧ fX7_isSetting p1 p2 = some (nI 0)) ∨ (∃ k old x', k ≤ 3 ∧ p1 = nI k ∧ old ≤ 40 ∧ gX1_changeSetting x p1 p2 = some (nI old, x') ∧ fX7_isSetting p1 p2 = some (nI 1) ∧ s (10 + k) = nI old ∧ HR x' (upd s (10 + k) p2)) := by
  obtain ⟨l, pl, N, d, F, lk, la, ll, us, sp, zs, zd, zn, zt, zl, zc, sto, sg, hu, cn, gn, cs, pk, pa, pd, br, hN, hd, rfl, hh⟩ := h
  rcases set_sim p1 p2 hh.1.2.2.2.1 with ⟨e1, e2⟩ | ⟨k, v, old, e1, e2, e3, e4, e5, e6, e7, e8⟩
  · refine Or.inl ⟨?_, e2⟩
    show bd2 (fX1_changeSetting sg p1 p2) _ = _
    rw [e1]
    rfl
  · refine Or.inr ⟨k, old, (lk, la, ll, nI l.length, pk, pa, pd, nI pl.length, br, us, sp, zs, zd, zn, zt, zl, zc, nI N, sto, upd sg k p2, nI d, nI F, hu, cn, gn, cs), e1, e2, e4, ?_, e6, e7, ?_⟩
    · show bd2 (fX1_changeSetting sg p1 p2) _ = _
      rw [e5]
      rfl
    · have hn : NightR l N d lk la ll us sp zs zd zn zt zl zc sto (upd sg k p2) hu cn gn cs (upd s (10 + k) p2) := hh.1.of (fun j hj => pk_un (by omega)) (hh.1.2.1.congr (fun j hj => pk_un (by omega))) e8 (hh.1.2.2.2.2.1.congr (fun j hj => pk_un (by omega)))
      exact HR.mk hN hd (hh.of hn (fun j hj => pk_un (by omega)))
