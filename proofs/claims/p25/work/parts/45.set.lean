/-! ===== a party cancels ===== -/
theorem cancel_sim {N d : Nat} {zs zd zn zt zl zc s : Nat → Int32} (p : Int32) (h : ParR N d zs zd zn zt zl zc s) :
    ∃ ans zt' s', fX1_callOff zt (nI N) p = some (ans, zt') ∧ fX7_cancels s p = some (ans, s') ∧ ParR N d zs zd zn zt' zl zc s' ∧ (∀ j, (∀ k, k < N → j ≠ 101 + 6 * k + 3) → s' j = s j) ∧ ((0 ≤ ans ∧ ans ≤ nI 17) ∨ (ans < 0 ∧ s' = s)) := by
  have d10 : (nI 1 = nI 0) = False := by decide
  have nm1 : (-1 : Int32) < 0 := by decide
  have nm2 : (-2 : Int32) < 0 := by decide
  obtain ⟨hN, h4, hp, hr, hl⟩ := h
  have mP := m_isParty p h4 hN
  have pP := p_has (N := N) p
  generalize hv : (if p < 0 then nI 0 else if nI N ≤ p then nI 0 else nI 1) = v at mP pP
  by_cases c : 0 ≤ p ∧ p < nI N
  · have hp0 : ¬ p < 0 := Int32.not_lt.mpr c.1
    obtain ⟨k, hk, rfl⟩ := nI_of hp0
    have hkN : k < N := by
      have := c.2
      rw [q_lt hk (by omega)] at this
      exact this
    rw [if_neg hp0, if_neg (Int32.not_le.mpr c.2)] at hv
    subst hv
    obtain ⟨r1, r2, r3, r4, r5⟩ := hr k hkN
    by_cases c0 : zt k = nI 0
    · obtain ⟨b, b1, b2, b3, -⟩ := cnt_spec (g := upd zt k (nI 3)) (c := nI 0) N 0 0
      have h4' : (upd s (101 + 6 * k + 3) (nI 3)) 4 = nI N := by rw [pk_un (by omega)]; exact h4
      have hR' : RP N zs zd zn (upd zt k (nI 3)) zc (upd s (101 + 6 * k + 3) (nI 3)) := by
        intro j hj
        obtain ⟨x1, x2, x3, x4, x5⟩ := hr j hj
        by_cases e : j = k
        · subst e
          simp (disch := omega) only [pk_us, pk_un, x1, x2, x3, x5, and_self]
        · simp (disch := omega) only [pk_un, x1, x2, x3, x4, x5, and_self]
      have hcnt : sumS (fun _ => nI 1) (fun j => (upd s (101 + 6 * k + 3) (nI 3)) (101 + 6 * j + 3)) (nI 0) 0 N (nI 0) = nI b := by
        rw [← b1]
        exact sumS_congr N 0 (nI 0) (fun j _ hj => ⟨rfl, (hR' j (by omega)).2.2.2.1⟩)
      refine ⟨nI b, upd zt k (nI 3), upd s (101 + 6 * k + 3) (nI 3), ?_, ?_, ⟨hN, h4', fun j hj => ?_, hR', fun j hj => ?_⟩, fun j hj => pk_un (hj k hkN), Or.inl ⟨?_, ?_⟩⟩
      · unfold fX1_callOff
        simp (disch := omega) only [pP, bd1_e, q_l0, d10, if_false, q_gd, q_cl, c0, if_true, q_l3, q_jl, p_withStatus hN, b1]
      · unfold fX7_cancels
        simp (disch := omega) only [mP, bd1_e, q_l0, d10, if_false, q_l3, m_ofParty, r4, c0, if_true, m_setParty, m_partiesOf h4' hN, hcnt]
      · by_cases e : j = k
        · subst e
          obtain ⟨p1, p2⟩ := hp j hj
          obtain ⟨w1, w2⟩ := pOK_stat (hp j hj) c0
          rw [pk_us]
          exact ⟨p1, Or.inr (Or.inr (Or.inr ⟨rfl, w1, w2⟩))⟩
        · rw [pk_un e]
          exact hp j hj
      · rw [pk_un (by omega)]
        exact hl j hj
      · rw [q_l0, q_le (by omega) (by omega)]; omega
      · rw [q_le (by omega) (by omega)]; omega
    · refine ⟨-2, zt, s, ?_, ?_, ⟨hN, h4, hp, hr, hl⟩, fun _ _ => rfl, Or.inr ⟨nm2, rfl⟩⟩
      · unfold fX1_callOff
        simp (disch := omega) only [pP, bd1_e, q_l0, d10, if_false, q_gd, q_cl, c0]
      · unfold fX7_cancels
        simp (disch := omega) only [mP, bd1_e, q_l0, d10, if_false, q_l3, m_ofParty, r4, c0]
  · have hv0 : v = nI 0 := by
      rw [← hv]
      by_cases q : p < 0
      · rw [if_pos q]
      · rw [if_neg q]
        by_cases q2 : nI N ≤ p
        · rw [if_pos q2]
        · exact absurd ⟨Int32.not_lt.mp q, Int32.not_le.mp q2⟩ c
    subst hv0
    refine ⟨-1, zt, s, ?_, ?_, ⟨hN, h4, hp, hr, hl⟩, fun _ _ => rfl, Or.inr ⟨nm1, rfl⟩⟩
    · unfold fX1_callOff
      simp (disch := omega) only [pP, bd1_e, q_l0, if_true]
    · unfold fX7_cancels
      simp (disch := omega) only [mP, bd1_e, q_l0, if_true]
