/-! ===== whether all of it suffices ===== -/
theorem q_addz {x : Int32} {a : Nat} (ha : a < 2 ^ 20) : (x + nI a = x) = (a = 0) := by
  apply propext
  constructor
  · intro h
    have h2 : nI a = nI 0 := by
      have e : nI a + x - x = nI a := Int32.add_sub_cancel ..
      rw [Int32.add_comm, h, Int32.sub_self, q_l0] at e
      exact e.symm
    rw [q_eq (by omega) (by omega)] at h2
    exact h2
  · intro h
    rw [h, q_z]
theorem m_back {asd ss : Nat → Int32} {v : Int32} (hv : nzB v = true) : ∃ s', gl2 (sX7_isTaken_rec23 asd v) gFU 0 ss = some (v, s', asd) ∧ (∀ j, j < 599 → s' j = asd j) ∧ (∀ j, 599 ≤ j → s' j = ss j) := by
  refine Exists.elim (scat_up (st := sX7_isTaken_rec23 asd v) (out := fun a => some (v, a, asd)) (fun k => k) (fun k _ => asd k) 0 599 (fun _ => True) (fun _ _ _ _ _ _ => trivial) (fun rec a _ => ?_) (fun rec i a _ hi _ => ?_) (fun _ _ _ _ h => h) (fun _ _ _ _ _ _ _ => rfl) 599 0 gFU ss (Nat.le_refl _) (by omega) (by unfold gFU; omega) trivial) (fun a ⟨g1, _, g2, g3⟩ => ?_)
  · simp (disch := omega) only [sX7_isTaken_rec23, q_l599, q_le, Nat.le_refl, if_true, hv]
    rfl
  · simp (disch := omega) only [sX7_isTaken_rec23, q_l599, q_le, if_neg (Nat.not_le.mpr hi), q_gd, q_cl, q_jl, q_l1, nI_add]
  · exact ⟨a, g1, fun j hj => g2 j (Nat.zero_le _) hj, fun j hj => g3 j (fun m _ hm => by omega)⟩
theorem take_loop2 {N : Nat} {sto sg zs zd zn asd : Nat → Int32} :
    ∀ (K i n m d : Nat) (l : List LT) (lk la ll us sp zt zl zc : Nat → Int32) (hu cn gn cs : Int32) (s : Nat → Int32), d + K = 396 → i ≤ d → K < n → K + 1 < m → (d = 396 → ∀ j, j < N → zt j ≠ nI 0 ∧ zt j ≠ nI 1) → s 5 = asd 5 → s 6 = asd 6 → s 9 = asd 9 → NightR l N d lk la ll us sp zs zd zn zt zl zc sto sg hu cn gn cs s →
      ∃ ans lots' lk' la' ll' us' sp' zt' zl' zc' dy' hu' cn' gn' cs' s', gl15 (sX1_wouldSuffice_rec9 sto sg zs zd zn (nI N)) n (nI i) lk la ll (nI l.length) us sp zt zl zc (nI d) hu cn gn cs = some (ans, lk', la', ll', lots', us', sp', zs, zd, zn, zt', zl', zc', nI N, dy', hu', cn', gn', cs') ∧ gl2 (sX7_isTaken_rec7 asd) m (nI 1) s = some (ans, s', asd) ∧ (∀ j, j < 599 → s' j = asd j) ∧ (ans = nI 0 ∨ ans = nI 1) := by
  have d10 : (nI 1 = nI 0) = False := by decide
  have b1 : nzB (nI 1) = true := by decide
  have b0 : nzB (nI 0) = true := by decide
  intro K
  have stop : ∀ (i n m d : Nat) (l : List LT) (lk la ll us sp zt zl zc : Nat → Int32) (hu cn gn cs : Int32) (s : Nat → Int32), i ≤ 396 → ¬ Awt N zt → NightR l N d lk la ll us sp zs zd zn zt zl zc sto sg hu cn gn cs s →
      ∃ ans lots' lk' la' ll' us' sp' zt' zl' zc' dy' hu' cn' gn' cs' s', gl15 (sX1_wouldSuffice_rec9 sto sg zs zd zn (nI N)) (n + 1) (nI i) lk la ll (nI l.length) us sp zt zl zc (nI d) hu cn gn cs = some (ans, lk', la', ll', lots', us', sp', zs, zd, zn, zt', zl', zc', nI N, dy', hu', cn', gn', cs') ∧ gl2 (sX7_isTaken_rec7 asd) (m + 1) (nI 1) s = some (ans, s', asd) ∧ (∀ j, j < 599 → s' j = asd j) ∧ (ans = nI 0 ∨ ans = nI 1) := by
    intro i n m d l lk la ll us sp zt zl zc hu cn gn cs s hi hA h
    rcases h.any with ⟨c1, _⟩ | ⟨_, a1, a2⟩
    · exact absurd c1 hA
    · obtain ⟨s', r1, r2, _⟩ := m_back (asd := asd) (ss := s) b1
      refine ⟨nI 1, nI l.length, lk, la, ll, us, sp, zt, zl, zc, nI d, hu, cn, gn, cs, s', ?_, ?_, r2, Or.inr rfl⟩
      · show sX1_wouldSuffice_rec9 sto sg zs zd zn (nI N) _ (nI i) lk la ll (nI l.length) us sp zt zl zc (nI d) hu cn gn cs = _
        simp (disch := omega) only [sX1_wouldSuffice_rec9, a1, bd1_e, q_l0, q_l1, if_true, ite_self]
      · show sX7_isTaken_rec7 asd _ (nI 1) s = _
        rw [q_l0] at r1
        simp (disch := omega) only [sX7_isTaken_rec7, q_mrg, q_l0, d10, if_false, a2, bd1_e, if_true, r1]
  induction K with
  | zero =>
    intro i n m d l lk la ll us sp zt zl zc hu cn gn cs s hd hi hn hm hA _ _ _ h
    obtain ⟨n, rfl⟩ := Nat.exists_eq_succ_of_ne_zero (Nat.ne_of_gt hn)
    obtain ⟨m, rfl⟩ := Nat.exists_eq_succ_of_ne_zero (by omega : m ≠ 0)
    exact stop i n m d l lk la ll us sp zt zl zc hu cn gn cs s (by omega) (fun ⟨j, hj, q⟩ => q.elim (hA (by omega) j hj).1 (hA (by omega) j hj).2) h
  | succ K ih =>
    intro i n m d l lk la ll us sp zt zl zc hu cn gn cs s hd hi hn hm hA h5 h6 h9 h
    obtain ⟨n, rfl⟩ := Nat.exists_eq_succ_of_ne_zero (by omega : n ≠ 0)
    obtain ⟨m, rfl⟩ := Nat.exists_eq_succ_of_ne_zero (by omega : m ≠ 0)
    obtain ⟨m, rfl⟩ := Nat.exists_eq_succ_of_ne_zero (by omega : m ≠ 0)
    rcases h.any with ⟨_, a1, a2⟩ | ⟨c1, _⟩
    · obtain ⟨ok, l1, lk1, la1, ll1, us1, sp1, zt1, zl1, zc1, cn1, gn1, cs1, s1, a, b, cc, e1, e2, h1, ha, k6, hb, k9, hcc, hok, -, hE⟩ := night_sim (by omega) h
      have k5 : s1 5 = s 5 + nI a := h1.2.2.2.2.2.2.1.trans (congrArg (· + nI a) h.2.2.2.2.2.2.1.symm)
      rw [h5] at k5
      rw [h6] at k6
      rw [h9] at k9
      have n2 : ¬ 1000 ≤ i := by omega
      by_cases c0 : a = 0 ∧ b = 0 ∧ cc = 0
      · rw [if_pos c0] at hok
        obtain ⟨rfl, rfl, rfl⟩ := c0
        rw [q_z] at k5 k6 k9
        obtain ⟨ans, lots', lk', la', ll', us', sp', zt', zl', zc', dy', hu', cn', gn', cs', s', f1, f2, f3, f4⟩ := ih (i + 1) n (m + 1) (d + 1) l1 lk1 la1 ll1 us1 sp1 zt1 zl1 zc1 (hu + nI 0) cn1 gn1 cs1 s1 (by omega) (by omega) (by omega) (by omega) (fun q => hE (by omega)) k5 k6 k9 h1
        refine ⟨ans, lots', lk', la', ll', us', sp', zt', zl', zc', dy', hu', cn', gn', cs', s', ?_, ?_, f3, f4⟩
        · rw [← f1]
          show sX1_wouldSuffice_rec9 sto sg zs zd zn (nI N) _ (nI i) lk la ll (nI l.length) us sp zt zl zc (nI d) hu cn gn cs = _
          simp (disch := omega) only [sX1_wouldSuffice_rec9, q_l1000, q_le, n2, if_false, a1, bd1_e, q_l0, d10, e1, bd15_e, hok, q_jl, q_l1, nI_add]
        · rw [← f2]
          show sX7_isTaken_rec7 asd (gl2 (sX7_isTaken_rec7 asd) (m + 1)) (nI 1) s = _
          simp (disch := omega) only [sX7_isTaken_rec7, q_mrg, q_l0, q_l1, q_l5, q_l6, q_l9, d10, if_false, a2, bd1_e, e2, q_gd, q_cl, k5, k6, k9, if_true]
      · rw [if_neg c0] at hok
        obtain ⟨s', r1, r2, _⟩ := m_back (asd := asd) (ss := s1) b0
        refine ⟨nI 0, nI l1.length, lk1, la1, ll1, us1, sp1, zt1, zl1, zc1, nI (d + 1), hu + nI a, cn1, gn1, cs1, s', ?_, ?_, r2, Or.inl rfl⟩
        · show sX1_wouldSuffice_rec9 sto sg zs zd zn (nI N) _ (nI i) lk la ll (nI l.length) us sp zt zl zc (nI d) hu cn gn cs = _
          simp (disch := omega) only [sX1_wouldSuffice_rec9, q_l1000, q_le, n2, if_false, a1, bd1_e, q_l0, d10, e1, bd15_e, hok, if_true]
        · show sX7_isTaken_rec7 asd (gl2 (sX7_isTaken_rec7 asd) (m + 1)) (nI 1) s = _
          have en : gl2 (sX7_isTaken_rec7 asd) (m + 1) (nI 0) s1 = some (nI 0, s', asd) := by
            show sX7_isTaken_rec7 asd _ (nI 0) s1 = _
            rw [q_l0] at r1
            simp (disch := omega) only [sX7_isTaken_rec7, q_mrg, q_l0, if_true, r1]
          have w5 : (s1 5 = asd 5) = (a = 0) := by rw [k5]; exact q_addz (by omega)
          have w6 : (s1 6 = asd 6) = (b = 0) := by rw [k6]; exact q_addz (by omega)
          have w9 : (s1 9 = asd 9) = (cc = 0) := by rw [k9]; exact q_addz (by omega)
          by_cases v5 : a = 0
          · by_cases v6 : b = 0
            · have v9 : ¬ cc = 0 := fun q => c0 ⟨v5, v6, q⟩
              simp (disch := omega) only [sX7_isTaken_rec7, q_mrg, q_l0, q_l1, q_l5, q_l6, q_l9, d10, if_false, a2, bd1_e, e2, q_gd, q_cl, w5, w6, w9, v5, v6, v9, if_true, en]
            · simp (disch := omega) only [sX7_isTaken_rec7, q_mrg, q_l0, q_l1, q_l5, q_l6, q_l9, d10, if_false, a2, bd1_e, e2, q_gd, q_cl, w5, w6, v5, v6, if_true, en]
          · simp (disch := omega) only [sX7_isTaken_rec7, q_mrg, q_l0, q_l1, q_l5, q_l6, q_l9, d10, if_false, a2, bd1_e, e2, q_gd, q_cl, w5, v5, en]
    · exact stop i n (m + 1) d l lk la ll us sp zt zl zc hu cn gn cs s (by omega) c1 h
