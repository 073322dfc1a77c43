/-! ===== a booking ===== -/
theorem q_dec2 {i : Nat} (h : i < 2 ^ 20) : nI (i + 1) - nI 1 = nI i := q_subn (by omega) (by omega)
theorem book_sim {l : List LT} {N d : Nat} {lk la ll us sp zs zd zn zt zl zc sto sg s asd pk pa pd br : Nat → Int32} {onp fl hu cn gn cs : Int32} {olk ola oll opk opa opd obr ous osp ozs ozd ozn ozt ozl ozc osto osg : Nat → Int32} {olots oonp onm ody ofl ohu ocn ogn ocs : Int32} (p1 p2 p3 : Int32) (hN : N ≤ 16) (hd : d ≤ 365) (h : NightR l N d lk la ll us sp zs zd zn zt zl zc sto sg hu cn gn cs s) :
    ∃ ans zs' zd' zn' zt' zl' zc' N' tlk tla tll tlots tpk tpa tpd tonp tbr tus tsp tzs tzd tzn tzt tzl tzc tnm tsto tsg tdy tfl thu tcn tgn tcs s' asd', fX1_takeBooking lk la ll (nI l.length) pk pa pd onp br us sp zs zd zn zt zl zc (nI N) sto sg (nI d) fl hu cn gn cs olk ola oll olots opk opa opd oonp obr ous osp ozs ozd ozn ozt ozl ozc onm osto osg ody ofl ohu ocn ogn ocs p1 p2 p3 = some (ans, zs', zd', zn', zt', zl', zc', nI N', tlk, tla, tll, tlots, tpk, tpa, tpd, tonp, tbr, tus, tsp, tzs, tzd, tzn, tzt, tzl, tzc, tnm, tsto, tsg, tdy, tfl, thu, tcn, tgn, tcs) ∧ fX7_books s asd p1 p2 p3 = some (ans, s', asd') ∧ N' ≤ 16 ∧ NightR l N' d lk la ll us sp zs' zd' zn' zt' zl' zc' sto sg hu cn gn cs s' ∧ (∀ j, nightF j → j < 599 → s' j = s j) ∧ (ans < 0 ∨ (∃ A, A ≤ 15 ∧ ans = nI A)) ∧ (ans < 0 → N' = N ∧ zs' = zs ∧ zd' = zd ∧ zn' = zn ∧ zt' = zt ∧ zl' = zl ∧ zc' = zc) := by
  have d10 : (nI 1 = nI 0) = False := by decide
  have nm1 : (-1 : Int32) < 0 := by decide
  have nm2 : (-2 : Int32) < 0 := by decide
  have nm3 : (-3 : Int32) < 0 := by decide
  have h0 : s 0 = nI d := h.2.2.2.2.2.1
  -- out of range
  have bad : fX1_mayBeBooked (nI d) p1 p2 p3 = some (nI 0) → fX7_books s asd p1 p2 p3 = some (-1, s, asd) → ∃ ans zs' zd' zn' zt' zl' zc' N' tlk tla tll tlots tpk tpa tpd tonp tbr tus tsp tzs tzd tzn tzt tzl tzc tnm tsto tsg tdy tfl thu tcn tgn tcs s' asd', fX1_takeBooking lk la ll (nI l.length) pk pa pd onp br us sp zs zd zn zt zl zc (nI N) sto sg (nI d) fl hu cn gn cs olk ola oll olots opk opa opd oonp obr ous osp ozs ozd ozn ozt ozl ozc onm osto osg ody ofl ohu ocn ogn ocs p1 p2 p3 = some (ans, zs', zd', zn', zt', zl', zc', nI N', tlk, tla, tll, tlots, tpk, tpa, tpd, tonp, tbr, tus, tsp, tzs, tzd, tzn, tzt, tzl, tzc, tnm, tsto, tsg, tdy, tfl, thu, tcn, tgn, tcs) ∧ fX7_books s asd p1 p2 p3 = some (ans, s', asd') ∧ N' ≤ 16 ∧ NightR l N' d lk la ll us sp zs' zd' zn' zt' zl' zc' sto sg hu cn gn cs s' ∧ (∀ j, nightF j → j < 599 → s' j = s j) ∧ (ans < 0 ∨ (∃ A, A ≤ 15 ∧ ans = nI A)) ∧ (ans < 0 → N' = N ∧ zs' = zs ∧ zd' = zd ∧ zn' = zn ∧ zt' = zt ∧ zl' = zl ∧ zc' = zc) := by
    intro a b
    refine ⟨-1, zs, zd, zn, zt, zl, zc, N, olk, ola, oll, olots, opk, opa, opd, oonp, obr, ous, osp, ozs, ozd, ozn, ozt, ozl, ozc, onm, osto, osg, ody, ofl, ohu, ocn, ogn, ocs, s, asd, ?_, b, hN, h, fun _ _ _ => rfl, Or.inl nm1, fun _ => ⟨rfl, rfl, rfl, rfl, rfl, rfl, rfl⟩⟩
    unfold fX1_takeBooking
    rw [a, bd1_e, q_l0, if_pos rfl]
  rcases m_in p1 (lo := 1) (hi := 6) (by omega) (by omega) with ⟨a1, a2⟩ | ⟨a, a1, rfl, a2, a3⟩
  · refine bad ?_ ?_
    · unfold fX1_mayBeBooked
      rw [q_l1, if_pos a1, q_l0]
    · unfold fX7_books
      simp (disch := omega) only [q_l1, q_l6, a2, bd1_e, q_l0, if_true]
  · have ka : ¬ a < 1 := by omega
    by_cases ca : a ≤ 6
    · rw [if_pos ca] at a3
      have ka2 : ¬ 6 < a := by omega
      rcases m_in p2 (lo := d) (hi := 365) (by omega) (by omega) with ⟨b1, b2⟩ | ⟨b, b1, rfl, b2, b3⟩
      · refine bad ?_ ?_
        · unfold fX1_mayBeBooked
          simp (disch := omega) only [q_l1, q_l6, q_lt, ka, ka2, if_false, b1, if_true, q_l0]
        · unfold fX7_books fX7_isStay
          simp (disch := omega) only [q_l1, q_l6, q_l365, a3, bd1_e, q_l0, d10, if_false, q_gd, q_cl, h0, b2, if_true]
      · have kb : ¬ b < d := by omega
        by_cases cb : b ≤ 365
        · rw [if_pos cb] at b3
          have kb2 : ¬ 365 < b := by omega
          rcases m_in p3 (lo := 1) (hi := 9) (by omega) (by omega) with ⟨c1, c2⟩ | ⟨c, c1, rfl, c2, c3⟩
          · refine bad ?_ ?_
            · unfold fX1_mayBeBooked
              simp (disch := omega) only [q_l1, q_l6, q_l365, q_lt, ka, ka2, kb, kb2, if_false, c1, if_true, q_l0]
            · unfold fX7_books fX7_isStay
              simp (disch := omega) only [q_l1, q_l6, q_l9, q_l365, a3, bd1_e, q_l0, d10, if_false, q_gd, q_cl, h0, b3, c2, if_true]
          · have kc : ¬ c < 1 := by omega
            by_cases cc : c ≤ 9
            · rw [if_pos cc] at c3
              have kc2 : ¬ 9 < c := by omega
              have hM : fX1_mayBeBooked (nI d) (nI a) (nI b) (nI c) = some (nI 1) := by
                unfold fX1_mayBeBooked
                simp (disch := omega) only [q_l1, q_l6, q_l9, q_l365, q_lt, ka, ka2, kb, kb2, kc, kc2, if_false]
              obtain ⟨ans, lots', tlk, tla, tll, tus, tsp, tzs, tzd, tzn, tzt, tzl, tzc, tnm, tdy, thu, tcn, tgn, tcs, s1, asd', f1, f2, f3, f4⟩ := taken_sim (asd := asd) hN hd h ⟨a2, ca⟩ cb ⟨c2, cc⟩
              have h1 := h.congr (fun j hj _ => f3 j hj)
              have hz : ∀ k, k < 396 → sto k = 0 ∨ sto k = 1 := fun k hk => (h.2.2.2.2.1 k hk).2.1
              have hB : ∀ X, (bd3 (fX7_isTaken s asd (nI a) (nI b) (nI c)) fun r7 ss8 asd9 => if r7 = 0 then some ((-2 : Int32), ss8, asd9) else gd (inB (4 : Int32) 599) <| if (ss8 ((4 : Int32)).toNatClampNeg) = (16 : Int32) then some ((-3 : Int32), ss8, asd9) else bd1 (fX7_adds ss8 (nI a) (nI b) (nI c)) fun ss14 => some (((ss14 ((4 : Int32)).toNatClampNeg) - (1 : Int32)), ss14, asd9)) = X → fX7_books s asd (nI a) (nI b) (nI c) = X := by
                intro X e
                rw [← e]
                unfold fX7_books fX7_isStay
                have i0 : ∀ {α : Type} (x : Option α), gd (inB (0 : Int32) 599) x = x := fun x => by rw [show inB (0 : Int32) 599 = true by decide]; rfl
                have z0 : s ((0 : Int32).toNatClampNeg) = nI d := h0
                rw [q_l1, q_l6, a3, bd1_e, if_neg (by decide), i0, z0, q_l365, b3, bd1_e, if_neg (by decide), q_l9, c3, bd1_e, if_neg (by decide), bd1_e, if_neg (by decide)]
              have hf : ∀ j, nightF j → j < 599 → s1 j = s j := fun j _ hj => f3 j hj
              have i4 : ∀ {α : Type} (x : Option α), gd (inB (4 : Int32) 599) x = x := fun x => by rw [show inB (4 : Int32) 599 = true by decide]; rfl
              have z4 : s1 ((4 : Int32).toNatClampNeg) = nI N := h1.2.1.2.1
              have q16 : (16 : Int32) = nI 16 := by decide
              rcases f4 with rfl | rfl
              · refine ⟨-2, zs, zd, zn, zt, zl, zc, N, tlk, tla, tll, lots', pk, pa, pd, onp, br, tus, tsp, tzs, tzd, tzn, tzt, tzl, tzc, tnm, sto, sg, tdy, fl, thu, tcn, tgn, tcs, s1, asd', ?_, hB _ ?_, hN, h1, hf, Or.inl nm2, fun _ => ⟨rfl, rfl, rfl, rfl, rfl, rfl, rfl⟩⟩
                · unfold fX1_takeBooking
                  rw [hM, bd1_e, if_neg (by decide), p_copy hz, bd26_e, f1, bd19_e, if_pos (by decide)]
                · rw [f2, bd3_e, if_pos (by decide)]
              · by_cases c16 : N = 16
                · have e16 : ¬ (nI N < (16 : Int32)) := by rw [q16, q_lt (by omega) (by omega)]; omega
                  have e17 : nI N = (16 : Int32) := by rw [q16, c16]
                  refine ⟨-3, zs, zd, zn, zt, zl, zc, N, tlk, tla, tll, lots', pk, pa, pd, onp, br, tus, tsp, tzs, tzd, tzn, tzt, tzl, tzc, tnm, sto, sg, tdy, fl, thu, tcn, tgn, tcs, s1, asd', ?_, hB _ ?_, hN, h1, hf, Or.inl nm3, fun _ => ⟨rfl, rfl, rfl, rfl, rfl, rfl, rfl⟩⟩
                  · unfold fX1_takeBooking
                    rw [hM, bd1_e, if_neg (by decide), p_copy hz, bd26_e, f1, bd19_e, if_neg (by decide), if_neg e16]
                  · rw [f2, bd3_e, if_neg (by decide), i4, z4, if_pos e17]
                · have e16 : nI N < (16 : Int32) := by rw [q16, q_lt (by omega) (by omega)]; omega
                  have e17 : ¬ nI N = (16 : Int32) := by rw [q16, q_eq (by omega) (by omega)]; exact c16
                  obtain ⟨s2, g1, g2, g3, g4⟩ := add_sim hN h1 ⟨a2, ca⟩ cb ⟨c2, cc⟩
                  have y4 : s2 ((4 : Int32).toNatClampNeg) = nI (N + 1) := g4
                  have nn : ¬ nI N < 0 := by rw [q_l0, q_lt (by omega) (by omega)]; omega
                  refine ⟨nI N, _, _, _, _, _, _, N + 1, tlk, tla, tll, lots', pk, pa, pd, onp, br, tus, tsp, tzs, tzd, tzn, tzt, tzl, tzc, tnm, sto, sg, tdy, fl, thu, tcn, tgn, tcs, s2, asd', ?_, hB _ ?_, by omega, g2, fun j hj hj2 => (g3 j ?_ ?_).trans (hf j hj hj2), Or.inr ⟨N, by omega, rfl⟩, fun q => absurd q nn⟩
                  · unfold fX1_takeBooking
                    rw [hM, bd1_e, if_neg (by decide), p_copy hz, bd26_e, f1, bd19_e, if_neg (by decide), if_pos e16, p_add hN, bd7_e, q_l1, q_dec2 (by omega)]
                  · rw [f2, bd3_e, if_neg (by decide), i4, z4, if_neg e17, g1, bd1_e, y4, q_l1, q_dec2 (by omega)]
                  · unfold nightF at hj
                    omega
                  · unfold nightF at hj
                    omega
            · rw [if_neg cc] at c3
              have kc2 : 9 < c := by omega
              refine bad ?_ ?_
              · unfold fX1_mayBeBooked
                simp (disch := omega) only [q_l1, q_l6, q_l9, q_l365, q_lt, ka, ka2, kb, kb2, kc, kc2, if_false, if_true, q_l0]
              · unfold fX7_books fX7_isStay
                simp (disch := omega) only [q_l1, q_l6, q_l9, q_l365, a3, bd1_e, q_l0, d10, if_false, q_gd, q_cl, h0, b3, c3, if_true]
        · rw [if_neg cb] at b3
          have kb2 : 365 < b := by omega
          refine bad ?_ ?_
          · unfold fX1_mayBeBooked
            simp (disch := omega) only [q_l1, q_l6, q_l365, q_lt, ka, ka2, kb, kb2, if_false, if_true, q_l0]
          · unfold fX7_books fX7_isStay
            simp (disch := omega) only [q_l1, q_l6, q_l365, a3, bd1_e, q_l0, d10, if_false, q_gd, q_cl, h0, b3, if_true]
    · rw [if_neg ca] at a3
      have ka2 : 6 < a := by omega
      refine bad ?_ ?_
      · unfold fX1_mayBeBooked
        simp (disch := omega) only [q_l1, q_l6, q_lt, ka, ka2, if_false, if_true, q_l0]
      · unfold fX7_books
        simp (disch := omega) only [q_l1, q_l6, a3, bd1_e, q_l0, if_true]
