/-! ===== what would be ===== -/
theorem gone_sim {x : HutS} {s : Nat → Int32} (xt : HutS) (bg : Nat → Int32) (p1 : Int32) (h : HR x s) : ∃ r xt' s' bg', fX6_goneOn x xt p1 = some (r, xt') ∧ fX7_goneOn s bg p1 = some (r, s', bg') ∧ ∀ j, j < 599 → s' j = s j := by
  have d10 : ¬ nI 1 = nI 0 := by decide
  have hc := h.copy xt
  obtain ⟨l, pl, N, d, F, lk, la, ll, us, sp, zs, zd, zn, zt, zl, zc, sto, sg, hu, cn, gn, cs, pk, pa, pd, br, hN, hd, rfl, hh⟩ := h
  obtain ⟨hN17, h4, hp, hr, hl⟩ := hh.1.2.1
  unfold fX6_goneOn fX7_goneOn
  rw [hc]
  dsimp only
  have mP := m_isParty p1 h4 hN17
  have pP := p_has (N := N) p1
  generalize hv : (if p1 < 0 then nI 0 else if nI N ≤ p1 then nI 0 else nI 1) = v at mP pP
  rw [mP, pP, bd1_e, bd1_e, bd1_e]
  by_cases c : 0 ≤ p1 ∧ p1 < nI N
  · have hp0 : ¬ p1 < 0 := Int32.not_lt.mpr c.1
    obtain ⟨k, hk, rfl⟩ := nI_of hp0
    have hkN : k < N := by
      have := c.2
      rw [q_lt hk (by omega)] at this
      exact this
    rw [if_neg hp0, if_neg (Int32.not_le.mpr c.2)] at hv
    subst hv
    rw [q_l0, if_neg d10, if_neg d10]
    obtain ⟨w, w1, w2⟩ := hh.1.2.1.stat hkN
    have a1 := p_isAwaited hkN hN17 w1 w2
    have a2 : s (101 + 6 * k + 3) = nI w := ((hr k hkN).2.2.2.1).trans w2
    by_cases cw : w ≤ 1
    · rw [if_pos cw] at a1
      obtain ⟨bg', b1, b2⟩ := m_begins s bg
      obtain ⟨ans, lots', lk', la', ll', us', sp', zt', zl', zc', dy', hu', cn', gn', cs', s', f1, f2⟩ := gone_loop (bg7 := bg') hkN (396 - d) 0 gFU gFU d l lk la ll us sp zt zl zc hu cn gn cs s (by omega) (Nat.zero_le _) (by unfold gFU; omega) (by unfold gFU; omega) (fun q => absurd q (by omega)) hh.1
      obtain ⟨s2, r1, r2⟩ := m_returns s' bg'
      refine ⟨ans, (lk', la', ll', lots', pk, pa, pd, nI pl.length, br, us', sp', zs, zd, zn, zt', zl', zc', nI N, sto, sg, dy', nI F, hu', cn', gn', cs'), s2, bg', ?_, ?_, fun j hj => (r2 j hj).trans (b2 j hj)⟩
      · have f1' : gX1_dayWhenGone (lk, la, ll, nI l.length, pk, pa, pd, nI pl.length, br, us, sp, zs, zd, zn, zt, zl, zc, nI N, sto, sg, nI d, nI F, hu, cn, gn, cs) (nI k) = some (ans, (lk', la', ll', lots', pk, pa, pd, nI pl.length, br, us', sp', zs, zd, zn, zt', zl', zc', nI N, sto, sg, dy', nI F, hu', cn', gn', cs')) := by
          show bd15 (fX1_dayWhenGone lk la ll (nI l.length) us sp zs zd zn zt zl zc (nI N) sto sg (nI d) hu cn gn cs (nI k)) _ = _
          unfold fX1_dayWhenGone
          rw [q_l0, f1]
          rfl
        rw [a1, bd1_e, if_neg d10, f1', bd2_e]
      · rw [q_l3, m_ofParty (by omega) (by omega), bd1_e, a2, q_l1, if_pos (by rw [q_le (by omega) (by omega)]; exact cw), b1, bd1_e, f2, r1, bd1_e]
    · rw [if_neg cw] at a1
      refine ⟨-2, xt, s, bg, ?_, ?_, fun _ _ => rfl⟩
      · rw [a1, bd1_e, if_pos rfl]
      · rw [q_l3, m_ofParty (by omega) (by omega), bd1_e, a2, q_l1, if_neg (by rw [q_le (by omega) (by omega)]; exact cw)]
  · have hv0 : v = nI 0 := by
      rw [← hv]
      by_cases q : p1 < 0
      · rw [if_pos q]
      · rw [if_neg q]
        by_cases q2 : nI N ≤ p1
        · rw [if_pos q2]
        · exact absurd ⟨Int32.not_lt.mp q, Int32.not_le.mp q2⟩ c
    subst hv0
    exact ⟨-1, xt, s, bg, by rw [q_l0, if_pos rfl], by rw [q_l0, if_pos rfl], fun _ _ => rfl⟩
theorem outOn_sim {x : HutS} {s : Nat → Int32} (xt : HutS) (bg : Nat → Int32) (p1 : Int32) (h : HR x s) : ∃ r xt' s' bg', fX6_outOn x xt p1 = some (r, xt') ∧ fX7_outOn s bg p1 = some (r, s', bg') ∧ ∀ j, j < 599 → s' j = s j := by
  have d10 : ¬ nI 1 = nI 0 := by decide
  have hc := h.copy xt
  obtain ⟨l, pl, N, d, F, lk, la, ll, us, sp, zs, zd, zn, zt, zl, zc, sto, sg, hu, cn, gn, cs, pk, pa, pd, br, hN, hd, rfl, hh⟩ := h
  unfold fX6_outOn fX7_outOn
  rw [hc]
  rcases kind_c p1 with ⟨k, k1, rfl, k2, k3⟩ | ⟨k2, k3⟩
  · obtain ⟨bg', b1, b2⟩ := m_begins s bg
    obtain ⟨ans, lots', lk', la', ll', us', sp', zt', zl', zc', dy', hu', cn', gn', cs', s', f1, f2⟩ := out_loop (bg4 := bg') k1 (396 - d) 0 gFU gFU d l lk la ll us sp zt zl zc hu cn gn cs s (by omega) (Nat.zero_le _) (by unfold gFU; omega) (by unfold gFU; omega) (fun q => absurd q (by omega)) hh.1
    obtain ⟨s2, r1, r2⟩ := m_returns s' bg'
    refine ⟨ans, (lk', la', ll', lots', pk, pa, pd, nI pl.length, br, us', sp', zs, zd, zn, zt', zl', zc', nI N, sto, sg, dy', nI F, hu', cn', gn', cs'), s2, bg', ?_, ?_, fun j hj => (r2 j hj).trans (b2 j hj)⟩
    · have f1' : gX1_dayWhenOut (lk, la, ll, nI l.length, pk, pa, pd, nI pl.length, br, us, sp, zs, zd, zn, zt, zl, zc, nI N, sto, sg, nI d, nI F, hu, cn, gn, cs) (nI k) = some (ans, (lk', la', ll', lots', pk, pa, pd, nI pl.length, br, us', sp', zs, zd, zn, zt', zl', zc', nI N, sto, sg, dy', nI F, hu', cn', gn', cs')) := by
        show bd15 (fX1_dayWhenOut lk la ll (nI l.length) us sp zs zd zn zt zl zc (nI N) sto sg (nI d) hu cn gn cs (nI k)) _ = _
        unfold fX1_dayWhenOut
        rw [q_l0, f1]
        rfl
      rw [k2, bd1_e, q_l0, if_neg d10, bd1_e, f1', bd2_e]
    · rw [q_l0, q_l2, k3, bd1_e, if_neg d10, b1, bd1_e, f2, r1, bd1_e]
  · exact ⟨-1, xt, s, bg, by rw [k2, bd1_e, q_l0, if_pos rfl], by rw [q_l0, q_l2, k3, bd1_e, if_pos rfl], fun _ _ => rfl⟩
theorem stay_c {s : Nat → Int32} {d : Nat} (p1 p2 : Int32) (hd : d ≤ 365) (h0 : s 0 = nI d) : (fX1_mayBeBooked (nI d) (nI 1) p1 p2 = some (nI 0) ∧ fX7_isStay s p1 p2 = some (nI 0)) ∨ (∃ b c, b ≤ 365 ∧ 1 ≤ c ∧ c ≤ 9 ∧ p1 = nI b ∧ p2 = nI c ∧ fX1_mayBeBooked (nI d) (nI 1) p1 p2 = some (nI 1) ∧ fX7_isStay s p1 p2 = some (nI 1)) := by
  have d10 : ¬ nI 1 = nI 0 := by decide
  have ka : ¬ 1 < 1 := by omega
  have ka2 : ¬ 6 < 1 := by omega
  have i0 : ∀ {α : Type} (x : Option α), gd (inB (nI 0) 599) x = x := fun x => q_gd (by omega) (by omega)
  unfold fX7_isStay
  rw [q_l0, i0, q_cl (by omega), h0, q_l365, q_l1, q_l9]
  rcases m_in p1 (lo := d) (hi := 365) (by omega) (by omega) with ⟨b1, b2⟩ | ⟨b, b1, rfl, b2, b3⟩
  · refine Or.inl ⟨?_, by rw [b2, bd1_e, if_pos rfl]⟩
    unfold fX1_mayBeBooked
    simp (disch := omega) only [q_l1, q_l6, q_lt, ka, ka2, if_false, b1, if_true, q_l0]
  · have kb : ¬ b < d := by omega
    by_cases cb : b ≤ 365
    · rw [if_pos cb] at b3
      have kb2 : ¬ 365 < b := by omega
      rw [b3, bd1_e, if_neg d10]
      rcases m_in p2 (lo := 1) (hi := 9) (by omega) (by omega) with ⟨c1, c2⟩ | ⟨c, c1, rfl, c2, c3⟩
      · refine Or.inl ⟨?_, by rw [c2, bd1_e, if_pos rfl]⟩
        unfold fX1_mayBeBooked
        simp (disch := omega) only [q_l1, q_l6, q_l365, q_lt, ka, ka2, kb, kb2, if_false, c1, if_true, q_l0]
      · have kc : ¬ c < 1 := by omega
        by_cases cc : c ≤ 9
        · rw [if_pos cc] at c3
          have kc2 : ¬ 9 < c := by omega
          refine Or.inr ⟨b, c, cb, c2, cc, rfl, rfl, ?_, by rw [c3, bd1_e, if_neg d10]⟩
          unfold fX1_mayBeBooked
          simp (disch := omega) only [q_l1, q_l6, q_l9, q_l365, q_lt, ka, ka2, kb, kb2, kc, kc2, if_false]
        · rw [if_neg cc] at c3
          have kc2 : 9 < c := by omega
          refine Or.inl ⟨?_, by rw [c3, bd1_e, if_pos rfl]⟩
          unfold fX1_mayBeBooked
          simp (disch := omega) only [q_l1, q_l6, q_l9, q_l365, q_lt, ka, ka2, kb, kb2, kc, kc2, if_false, if_true, q_l0]
    · rw [if_neg cb] at b3
      have kb2 : 365 < b := by omega
      refine Or.inl ⟨?_, by rw [b3, bd1_e, if_pos rfl]⟩
      unfold fX1_mayBeBooked
      simp (disch := omega) only [q_l1, q_l6, q_l365, q_lt, ka, ka2, kb, kb2, if_false, if_true, q_l0]
theorem most_loop {x : HutS} {s : Nat → Int32} {b c : Nat} (h : HR x s) (hb : b ≤ 365) (hc : 1 ≤ c ∧ c ≤ 9) : ∀ (k n m : Nat) (y : HutS) (s1 asd : Nat → Int32), k ≤ 6 → k < n → k < m → (∀ j, j < 599 → s1 j = s j) → ∃ r y' s' asd', gl2 (sX6_most_rec5 x (nI b) (nI c)) n (nI k) y = some (r, y') ∧ gl3 (sX7_most_rec6 (nI b) (nI c)) m (nI k) s1 asd = some (r, s', asd') ∧ ∀ j, j < 599 → s' j = s j := by
  have d10 : ¬ nI 1 = nI 0 := by decide
  intro k
  induction k with
  | zero =>
    intro n m y s1 asd _ hn hm e
    obtain ⟨n, rfl⟩ := Nat.exists_eq_succ_of_ne_zero (Nat.ne_of_gt hn)
    obtain ⟨m, rfl⟩ := Nat.exists_eq_succ_of_ne_zero (Nat.ne_of_gt hm)
    refine ⟨nI 0, y, s1, asd, ?_, ?_, e⟩
    · show sX6_most_rec5 x (nI b) (nI c) _ (nI 0) y = _
      unfold sX6_most_rec5
      rw [if_pos (by decide), q_l0]
    · show sX7_most_rec6 (nI b) (nI c) _ (nI 0) s1 asd = _
      unfold sX7_most_rec6
      rw [if_pos (by decide)]
  | succ k ih =>
    intro n m y s1 asd hk hn hm e
    obtain ⟨n, rfl⟩ := Nat.exists_eq_succ_of_ne_zero (by omega : n ≠ 0)
    obtain ⟨m, rfl⟩ := Nat.exists_eq_succ_of_ne_zero (by omega : m ≠ 0)
    have h1 := h.congr e
    obtain ⟨l, pl, N, d, F, lk, la, ll, us, sp, zs, zd, zn, zt, zl, zc, sto, sg, hu, cn, gn, cs, pk, pa, pd, br, hN, hd, rfl, hh⟩ := h1
    obtain ⟨ans, lots', lk', la', ll', us', sp', zs', zd', zn', zt', zl', zc', nm', dy', hu', cn', gn', cs', s', asd', f1, f2, f3, f4⟩ := taken_sim (asd := asd) hN hd hh.1 (a := k + 1) ⟨by omega, hk⟩ hb hc
    have fc := (HR.mk hN hd hh).copy y
    have f1' : gX1_wouldSuffice (lk, la, ll, nI l.length, pk, pa, pd, nI pl.length, br, us, sp, zs, zd, zn, zt, zl, zc, nI N, sto, sg, nI d, nI F, hu, cn, gn, cs) (nI (k + 1)) (nI b) (nI c) = some (ans, (lk', la', ll', lots', pk, pa, pd, nI pl.length, br, us', sp', zs', zd', zn', zt', zl', zc', nm', sto, sg, dy', nI F, hu', cn', gn', cs')) := by
      show bd19 (fX1_wouldSuffice lk la ll (nI l.length) us sp zs zd zn zt zl zc (nI N) sto sg (nI d) hu cn gn cs (nI (k + 1)) (nI b) (nI c)) _ = _
      rw [f1]
      rfl
    have n1 : ¬ nI (k + 1) < (1 : Int32) := by rw [q_l1, q_lt (by omega) (by omega)]; omega
    have n2 : ¬ nI (k + 1) ≤ 0 := by rw [q_l0, q_le (by omega) (by omega)]; omega
    have e' : ∀ j, j < 599 → s' j = s j := fun j hj => (f3 j hj).trans (e j hj)
    rcases f4 with rfl | rfl
    · obtain ⟨r, y', s2, asd2, w1, w2, w3⟩ := ih n m (lk', la', ll', lots', pk, pa, pd, nI pl.length, br, us', sp', zs', zd', zn', zt', zl', zc', nm', sto, sg, dy', nI F, hu', cn', gn', cs') s' asd' (by omega) (by omega) (by omega) e'
      refine ⟨r, y', s2, asd2, ?_, ?_, w3⟩
      · rw [← w1]
        show sX6_most_rec5 _ (nI b) (nI c) (gl2 (sX6_most_rec5 _ (nI b) (nI c)) n) (nI (k + 1)) y = _
        unfold sX6_most_rec5
        rw [if_neg n1, fc, bd1_e, f1', bd2_e, if_pos (by decide), q_jl, q_dec (by omega)]
      · rw [← w2]
        show sX7_most_rec6 (nI b) (nI c) (gl3 (sX7_most_rec6 (nI b) (nI c)) m) (nI (k + 1)) s1 asd = _
        unfold sX7_most_rec6
        rw [if_neg n2, f2, bd3_e, if_pos (by decide), q_jl, q_dec (by omega)]
    · refine ⟨nI (k + 1), (lk', la', ll', lots', pk, pa, pd, nI pl.length, br, us', sp', zs', zd', zn', zt', zl', zc', nm', sto, sg, dy', nI F, hu', cn', gn', cs'), s', asd', ?_, ?_, e'⟩
      · show sX6_most_rec5 _ (nI b) (nI c) (gl2 (sX6_most_rec5 _ (nI b) (nI c)) n) (nI (k + 1)) y = _
        unfold sX6_most_rec5
        rw [if_neg n1, fc, bd1_e, f1', bd2_e, if_neg (by decide)]
      · show sX7_most_rec6 (nI b) (nI c) (gl3 (sX7_most_rec6 (nI b) (nI c)) m) (nI (k + 1)) s1 asd = _
        unfold sX7_most_rec6
        rw [if_neg n2, f2, bd3_e, if_neg (by decide)]
theorem most_sim {x : HutS} {s : Nat → Int32} (xt : HutS) (asd : Nat → Int32) (p1 p2 : Int32) (h : HR x s) : ∃ r xt' s' asd', fX6_most x xt p1 p2 = some (r, xt') ∧ fX7_most s asd p1 p2 = some (r, s', asd') ∧ ∀ j, j < 599 → s' j = s j := by
  have d10 : ¬ nI 1 = nI 0 := by decide
  have hx := h
  obtain ⟨l, pl, N, d, F, lk, la, ll, us, sp, zs, zd, zn, zt, zl, zc, sto, sg, hu, cn, gn, cs, pk, pa, pd, br, hN, hd, e, hh⟩ := h
  have ey : x.2.2.2.2.2.2.2.2.2.2.2.2.2.2.2.2.2.2.2.2.1 = nI d := by rw [e]
  have en : x.2.2.2.2.2.2.2.2.2.2.2.2.2.2.2.2.2.1 = nI N := by rw [e]
  have h4 : s 4 = nI N := hh.1.2.1.2.1
  have i4 : ∀ {α : Type} (y : Option α), gd (inB (nI 4) 599) y = y := fun y => q_gd (by omega) (by omega)
  unfold fX6_most fX7_most
  rw [ey, en, q_l1]
  rcases stay_c p1 p2 hd hh.1.2.2.2.2.2.1 with ⟨a1, a2⟩ | ⟨b, c, hb, hc1, hc2, rfl, rfl, a1, a2⟩
  · exact ⟨-nI 1, xt, s, asd, by rw [a1, bd1_e, q_l0, if_pos rfl], by rw [a2, bd1_e, q_l0, if_pos rfl], fun _ _ => rfl⟩
  · rw [a1, a2, bd1_e, bd1_e, q_l0, if_neg d10, if_neg d10, q_l4, i4, q_cl (by omega), h4, show (16 : Int32) = nI 16 by decide, q_l6]
    by_cases c16 : N = 16
    · refine ⟨-3, xt, s, asd, ?_, ?_, fun _ _ => rfl⟩
      · rw [if_neg (by rw [q_lt (by omega) (by omega)]; omega)]
      · rw [if_pos (by rw [c16])]
    · rw [if_pos (show nI N < nI 16 by rw [q_lt (by omega) (by omega)]; omega), if_neg (show ¬ nI N = nI 16 by rw [q_eq (by omega) (by omega)]; omega)]
      exact most_loop hx hb ⟨hc1, hc2⟩ 6 gFU gFU xt s asd (Nat.le_refl _) (by unfold gFU; omega) (by unfold gFU; omega) (fun _ _ => rfl)
