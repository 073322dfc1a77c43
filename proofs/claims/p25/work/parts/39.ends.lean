/-! ===== until a party is gone, until a store is out ===== -/
theorem ParR.stat {N d : Nat} {zs zd zn zt zl zc s : Nat → Int32} (h : ParR N d zs zd zn zt zl zc s) {p : Nat} (hp : p < N) : ∃ v, v ≤ 3 ∧ zt p = nI v := by
  rcases (h.2.2.1 p hp).2 with q | ⟨c, L, q, _⟩ | ⟨c, L, q, _⟩ | q
  · exact ⟨0, by omega, q.1⟩
  · exact ⟨1, by omega, q⟩
  · exact ⟨2, by omega, q⟩
  · exact ⟨3, by omega, q.1⟩
theorem p_hasN {N p : Nat} (hp : p < N) (hN : N ≤ 17) : fX2_has (nI N) (nI p) = some (nI 1) := by
  have hngt : ¬ N ≤ p := by omega
  have h0 : ¬ p < 0 := by omega
  unfold fX2_has
  simp (disch := omega) only [q_l0, q_lt, q_le, hngt, h0, if_false, q_l1]
theorem p_isAwaited {zt : Nat → Int32} {N p v : Nat} (hp : p < N) (hN : N ≤ 17) (hv : v ≤ 3) (h : zt p = nI v) : fX2_isAwaited zt (nI N) (nI p) = some (if v ≤ 1 then nI 1 else nI 0) := by
  have d10 : (nI 1 = nI 0) = False := by decide
  unfold fX2_isAwaited
  rcases (show v = 0 ∨ v = 1 ∨ 2 ≤ v by omega) with rfl | rfl | h2
  · simp (disch := omega) only [p_hasN hp, bd1_e, q_l0, q_l1, d10, if_false, q_gd, q_cl, h, if_true]
    rfl
  · simp (disch := omega) only [p_hasN hp, bd1_e, q_l0, q_l1, d10, if_false, q_gd, q_cl, h, if_true]
    rfl
  · have n0 : ¬ v = 0 := by omega
    have n1 : ¬ v = 1 := by omega
    rw [if_neg (show ¬ v ≤ 1 by omega)]
    simp (disch := omega) only [p_hasN hp, bd1_e, q_l0, q_l1, d10, if_false, q_gd, q_cl, h, q_eq, n0, n1]
theorem p_hasStatus {zt : Nat → Int32} {N p v c : Nat} (hp : p < N) (hN : N ≤ 17) (hv : v ≤ 3) (hc : c ≤ 3) (h : zt p = nI v) : fX2_hasStatus zt (nI N) (nI p) (nI c) = some (if v = c then nI 1 else nI 0) := by
  have d10 : (nI 1 = nI 0) = False := by decide
  unfold fX2_hasStatus
  by_cases e : v = c
  · simp (disch := omega) only [p_hasN hp, bd1_e, q_l0, q_l1, d10, if_false, q_gd, q_cl, h, q_eq, e, if_true]
  · simp (disch := omega) only [p_hasN hp, bd1_e, q_l0, q_l1, d10, if_false, q_gd, q_cl, h, q_eq, e]
theorem gone_end {N p v d n m : Nat} {i : Int32} {zs zd zn sto sg bg7 : Nat → Int32} {l : List LT} {lk la ll us sp zt zl zc : Nat → Int32} {hu cn gn cs : Int32} {s : Nat → Int32} (hp : p < N) (hv : v ≤ 3) (hv2 : 2 ≤ v) (hz : zt p = nI v) (h : NightR l N d lk la ll us sp zs zd zn zt zl zc sto sg hu cn gn cs s) :
    ∃ ans, gl15 (sX1_dayWhenGone_rec1 zs zd zn (nI N) sto sg (nI p)) (n + 1) i lk la ll (nI l.length) us sp zt zl zc (nI d) hu cn gn cs = some (ans, lk, la, ll, nI l.length, us, sp, zt, zl, zc, nI d, hu, cn, gn, cs) ∧ gl1 (sX7_goneOn_rec9 (nI p) bg7) (m + 1) s = (bd1 (fX7_returns s bg7) fun ss20 => some (ans, ss20, bg7)) := by
  have d10 : (nI 1 = nI 0) = False := by decide
  have hN : N ≤ 17 := h.2.1.1
  have h0 : s 0 = nI d := h.2.2.2.2.2.1
  have h3 : s (101 + 6 * p + 3) = nI v := (h.2.1.2.2.2.1 p hp).2.2.2.1.trans hz
  have a1 := p_isAwaited hp hN hv hz
  rw [if_neg (show ¬ v ≤ 1 by omega)] at a1
  have a2 := p_hasStatus (c := 2) hp hN hv (by omega) hz
  have n1 : 1 < v := by omega
  refine ⟨if v = 2 then nI d - nI 1 else -4, ?_, ?_⟩
  · show sX1_dayWhenGone_rec1 zs zd zn (nI N) sto sg (nI p) _ i lk la ll (nI l.length) us sp zt zl zc (nI d) hu cn gn cs = _
    by_cases c : v = 2
    · rw [if_pos c] at a2 ⊢
      simp (disch := omega) only [sX1_dayWhenGone_rec1, q_mrg, q_l2, a1, a2, bd1_e, q_l0, d10, if_true, if_false, q_l1, ite_self]
    · rw [if_neg c] at a2 ⊢
      simp (disch := omega) only [sX1_dayWhenGone_rec1, q_mrg, q_l2, a1, a2, bd1_e, q_l0, if_true, ite_self]
  · show sX7_goneOn_rec9 (nI p) bg7 _ s = _
    by_cases c : v = 2
    · rw [if_pos c]
      simp (disch := omega) only [sX7_goneOn_rec9, q_l3, m_ofParty, bd1_e, h3, q_l1, q_lt, n1, if_true, q_mrg, q_l2, q_eq, c, q_l0, q_gd, q_cl, h0]
      rfl
    · rw [if_neg c]
      simp (disch := omega) only [sX7_goneOn_rec9, q_l3, m_ofParty, bd1_e, h3, q_l1, q_lt, n1, if_true, q_mrg, q_l2, q_eq, c, if_false]
theorem gone_loop {N p : Nat} {zs zd zn sto sg bg7 : Nat → Int32} (hp : p < N) :
    ∀ (K i n m d : Nat) (l : List LT) (lk la ll us sp zt zl zc : Nat → Int32) (hu cn gn cs : Int32) (s : Nat → Int32), d + K = 396 → i ≤ d → K < n → K < m → (d = 396 → ∀ j, j < N → zt j ≠ nI 0 ∧ zt j ≠ nI 1) → NightR l N d lk la ll us sp zs zd zn zt zl zc sto sg hu cn gn cs s →
      ∃ ans lots' lk' la' ll' us' sp' zt' zl' zc' dy' hu' cn' gn' cs' s', gl15 (sX1_dayWhenGone_rec1 zs zd zn (nI N) sto sg (nI p)) n (nI i) lk la ll (nI l.length) us sp zt zl zc (nI d) hu cn gn cs = some (ans, lk', la', ll', lots', us', sp', zt', zl', zc', dy', hu', cn', gn', cs') ∧ gl1 (sX7_goneOn_rec9 (nI p) bg7) m s = (bd1 (fX7_returns s' bg7) fun ss20 => some (ans, ss20, bg7)) := by
  have d10 : (nI 1 = nI 0) = False := by decide
  intro K
  induction K with
  | zero =>
    intro i n m d l lk la ll us sp zt zl zc hu cn gn cs s hd hi hn hm hA h
    obtain ⟨n, rfl⟩ := Nat.exists_eq_succ_of_ne_zero (Nat.ne_of_gt hn)
    obtain ⟨m, rfl⟩ := Nat.exists_eq_succ_of_ne_zero (Nat.ne_of_gt hm)
    obtain ⟨v, hv, hz⟩ := h.2.1.stat hp
    obtain ⟨w1, w2⟩ := hA (by omega) p hp
    have hv2 : 2 ≤ v := by
      rcases (show v = 0 ∨ v = 1 ∨ 2 ≤ v by omega) with rfl | rfl | q
      · exact absurd hz w1
      · exact absurd hz w2
      · exact q
    obtain ⟨ans, e1, e2⟩ := gone_end (n := n) (m := m) (i := nI i) (bg7 := bg7) hp hv hv2 hz h
    exact ⟨ans, _, lk, la, ll, us, sp, zt, zl, zc, _, _, _, _, _, s, e1, e2⟩
  | succ K ih =>
    intro i n m d l lk la ll us sp zt zl zc hu cn gn cs s hd hi hn hm hA h
    obtain ⟨n, rfl⟩ := Nat.exists_eq_succ_of_ne_zero (by omega : n ≠ 0)
    obtain ⟨m, rfl⟩ := Nat.exists_eq_succ_of_ne_zero (by omega : m ≠ 0)
    obtain ⟨v, hv, hz⟩ := h.2.1.stat hp
    by_cases hv2 : 2 ≤ v
    · obtain ⟨ans, e1, e2⟩ := gone_end (n := n) (m := m) (i := nI i) (bg7 := bg7) hp hv hv2 hz h
      exact ⟨ans, _, lk, la, ll, us, sp, zt, zl, zc, _, _, _, _, _, s, e1, e2⟩
    · have hN : N ≤ 17 := h.2.1.1
      have h3 : s (101 + 6 * p + 3) = nI v := (h.2.1.2.2.2.1 p hp).2.2.2.1.trans hz
      have a1 := p_isAwaited hp hN hv hz
      rw [if_pos (show v ≤ 1 by omega)] at a1
      obtain ⟨ok, l1, lk1, la1, ll1, us1, sp1, zt1, zl1, zc1, cn1, gn1, cs1, s1, a, b, c, e1, e2, h1, -, -, -, -, -, -, -, hE⟩ := night_sim (by omega) h
      obtain ⟨ans, lots', lk', la', ll', us', sp', zt', zl', zc', dy', hu', cn', gn', cs', s', f1, f2⟩ := ih (i + 1) n m (d + 1) l1 lk1 la1 ll1 us1 sp1 zt1 zl1 zc1 (hu + nI a) cn1 gn1 cs1 s1 (by omega) (by omega) (by omega) (by omega) (fun q => hE (by omega)) h1
      have n1 : ¬ 1 < v := by omega
      have n2 : ¬ 1000 ≤ i := by omega
      refine ⟨ans, lots', lk', la', ll', us', sp', zt', zl', zc', dy', hu', cn', gn', cs', s', ?_, ?_⟩
      · rw [← f1]
        show sX1_dayWhenGone_rec1 zs zd zn (nI N) sto sg (nI p) (gl15 (sX1_dayWhenGone_rec1 zs zd zn (nI N) sto sg (nI p)) n) (nI i) lk la ll (nI l.length) us sp zt zl zc (nI d) hu cn gn cs = _
        simp (disch := omega) only [sX1_dayWhenGone_rec1, q_mrg, q_l1000, q_le, n2, if_false, a1, bd1_e, q_l0, d10, e1, bd15_e, q_jl, q_l1, nI_add]
      · rw [← f2]
        show sX7_goneOn_rec9 (nI p) bg7 (gl1 (sX7_goneOn_rec9 (nI p) bg7) m) s = _
        simp (disch := omega) only [sX7_goneOn_rec9, q_l3, m_ofParty, bd1_e, h3, q_l1, q_lt, n1, if_false, e2]
theorem NightR.stock {l : List LT} {N d c : Nat} {lk la ll us sp zs zd zn zt zl zc sto sg s : Nat → Int32} {hu cn gn cs : Int32} (h : NightR l N d lk la ll us sp zs zd zn zt zl zc sto sg hu cn gn cs s) (hc : c ≤ 2) : fX4_stock lk la (nI l.length) (nI c) = some (nI (stN c l)) ∧ fX7_stock s (nI c) = some (nI (stN c l)) ∧ stN c l ≤ 999 * 20 := by
  obtain ⟨⟨hl, hlb, hlz, hcl, hml⟩, _⟩ := h
  have e1 := sumS_CA hc l 0 0 (fun t ht => (hlb t ht).1) hcl
  have e2 := sumS_CA hc l 0 0 (fun t ht => (hlb t ht).1) hml.2
  rw [Nat.zero_add] at e1 e2
  refine ⟨by rw [p_stock hl]; exact congrArg some e1, by rw [m_stock hml.1 hl]; exact congrArg some e2, ?_⟩
  exact Nat.le_trans (stN_le l (fun t ht => (hlb t ht).2.1)) (Nat.mul_le_mul (Nat.le_refl _) hl)
theorem NightR.any {l : List LT} {N d : Nat} {lk la ll us sp zs zd zn zt zl zc sto sg s : Nat → Int32} {hu cn gn cs : Int32} (h : NightR l N d lk la ll us sp zs zd zn zt zl zc sto sg hu cn gn cs s) : (Awt N zt ∧ fX2_anyAwaited zt (nI N) = some (nI 1) ∧ fX7_isAny s = some (nI 1)) ∨ (¬ Awt N zt ∧ fX2_anyAwaited zt (nI N) = some (nI 0) ∧ fX7_isAny s = some (nI 0)) := by
  have hN : N ≤ 17 := h.2.1.1
  have m := m_isAny h.2.1.2.1 hN (fun j hj => (h.2.1.2.2.2.1 j hj).2.2.2.1)
  have p := p_any (zt := zt) hN
  rcases Classical.em (Awt N zt) with c | c
  · exact Or.inl ⟨c, p.1 c, m.1 c⟩
  · exact Or.inr ⟨c, p.2 c, m.2 c⟩
theorem out_loop {N c : Nat} {zs zd zn sto sg bg4 : Nat → Int32} (hc : c ≤ 2) :
    ∀ (K i n m d : Nat) (l : List LT) (lk la ll us sp zt zl zc : Nat → Int32) (hu cn gn cs : Int32) (s : Nat → Int32), d + K = 396 → i ≤ d → K < n → K + 1 < m → (d = 396 → ∀ j, j < N → zt j ≠ nI 0 ∧ zt j ≠ nI 1) → NightR l N d lk la ll us sp zs zd zn zt zl zc sto sg hu cn gn cs s →
      ∃ ans lots' lk' la' ll' us' sp' zt' zl' zc' dy' hu' cn' gn' cs' s', gl15 (sX1_dayWhenOut_rec1 zs zd zn (nI N) sto sg (nI c)) n (nI i) lk la ll (nI l.length) us sp zt zl zc (nI d) hu cn gn cs = some (ans, lk', la', ll', lots', us', sp', zt', zl', zc', dy', hu', cn', gn', cs') ∧ gl2 (sX7_outOn_rec6 (nI c) bg4) m (-4) s = (bd1 (fX7_returns s' bg4) fun ss20 => some (ans, ss20, bg4)) := by
  have d10 : (nI 1 = nI 0) = False := by decide
  have d4 : (nI 0 ≤ (-4 : Int32)) = False := by decide
  intro K
  have stop : ∀ (i n m d : Nat) (l : List LT) (lk la ll us sp zt zl zc : Nat → Int32) (hu cn gn cs : Int32) (s : Nat → Int32), i ≤ 396 → ¬ Awt N zt → NightR l N d lk la ll us sp zs zd zn zt zl zc sto sg hu cn gn cs s →
      ∃ ans lots' lk' la' ll' us' sp' zt' zl' zc' dy' hu' cn' gn' cs' s', gl15 (sX1_dayWhenOut_rec1 zs zd zn (nI N) sto sg (nI c)) (n + 1) (nI i) lk la ll (nI l.length) us sp zt zl zc (nI d) hu cn gn cs = some (ans, lk', la', ll', lots', us', sp', zt', zl', zc', dy', hu', cn', gn', cs') ∧ gl2 (sX7_outOn_rec6 (nI c) bg4) (m + 1) (-4) s = (bd1 (fX7_returns s' bg4) fun ss20 => some (ans, ss20, bg4)) := by
    intro i n m d l lk la ll us sp zt zl zc hu cn gn cs s hi hA h
    rcases h.any with ⟨c1, _⟩ | ⟨_, a1, a2⟩
    · exact absurd c1 hA
    · refine ⟨-4, nI l.length, lk, la, ll, us, sp, zt, zl, zc, nI d, hu, cn, gn, cs, s, ?_, ?_⟩
      · show sX1_dayWhenOut_rec1 zs zd zn (nI N) sto sg (nI c) _ (nI i) lk la ll (nI l.length) us sp zt zl zc (nI d) hu cn gn cs = _
        simp (disch := omega) only [sX1_dayWhenOut_rec1, a1, bd1_e, q_l0, if_true, ite_self]
      · show sX7_outOn_rec6 (nI c) bg4 _ (-4) s = _
        simp (disch := omega) only [sX7_outOn_rec6, q_mrg, d4, if_false, a2, bd1_e, q_l0, if_true]
  induction K with
  | zero =>
    intro i n m d l lk la ll us sp zt zl zc hu cn gn cs s hd hi hn hm hA h
    obtain ⟨n, rfl⟩ := Nat.exists_eq_succ_of_ne_zero (Nat.ne_of_gt hn)
    obtain ⟨m, rfl⟩ := Nat.exists_eq_succ_of_ne_zero (by omega : m ≠ 0)
    exact stop i n m d l lk la ll us sp zt zl zc hu cn gn cs s (by omega) (fun ⟨j, hj, q⟩ => q.elim (hA (by omega) j hj).1 (hA (by omega) j hj).2) h
  | succ K ih =>
    intro i n m d l lk la ll us sp zt zl zc hu cn gn cs s hd hi hn hm hA h
    obtain ⟨n, rfl⟩ := Nat.exists_eq_succ_of_ne_zero (by omega : n ≠ 0)
    obtain ⟨m, rfl⟩ := Nat.exists_eq_succ_of_ne_zero (by omega : m ≠ 0)
    obtain ⟨m, rfl⟩ := Nat.exists_eq_succ_of_ne_zero (by omega : m ≠ 0)
    rcases h.any with ⟨_, a1, a2⟩ | ⟨c1, _⟩
    · obtain ⟨ok, l1, lk1, la1, ll1, us1, sp1, zt1, zl1, zc1, cn1, gn1, cs1, s1, a, b, cc, e1, e2, h1, -, -, -, -, -, -, -, hE⟩ := night_sim (by omega) h
      obtain ⟨k1, k2, k3⟩ := h1.stock hc
      have n2 : ¬ 1000 ≤ i := by omega
      by_cases c2 : stN c l1 = 0
      · rw [c2] at k1 k2
        have h0 : s1 0 = nI (d + 1) := h1.2.2.2.2.2.1
        have ed : nI (d + 1) - nI 1 = nI d := q_subn (by omega) (by omega)
        have hp : (nI 0 ≤ nI d) = True := by rw [q_le (by omega) (by omega)]; exact eq_true (Nat.zero_le _)
        refine ⟨nI d, nI l1.length, lk1, la1, ll1, us1, sp1, zt1, zl1, zc1, nI (d + 1), hu + nI a, cn1, gn1, cs1, s1, ?_, ?_⟩
        rotate_left
        · show sX7_outOn_rec6 (nI c) bg4 (gl2 (sX7_outOn_rec6 (nI c) bg4) (m + 1)) (-4) s = _
          have en : gl2 (sX7_outOn_rec6 (nI c) bg4) (m + 1) (nI d) s1 = (bd1 (fX7_returns s1 bg4) fun ss20 => some (nI d, ss20, bg4)) := by
            show sX7_outOn_rec6 (nI c) bg4 _ (nI d) s1 = _
            simp (disch := omega) only [sX7_outOn_rec6, q_mrg, q_l0, hp, if_true]
          rw [← en]
          simp (disch := omega) only [sX7_outOn_rec6, q_mrg, d4, if_false, a2, bd1_e, q_l0, d10, e2, k2, if_true, q_gd, q_cl, h0, q_l1, ed, q_jl]
        · show sX1_dayWhenOut_rec1 zs zd zn (nI N) sto sg (nI c) _ (nI i) lk la ll (nI l.length) us sp zt zl zc (nI d) hu cn gn cs = _
          simp (disch := omega) only [sX1_dayWhenOut_rec1, q_l1000, q_le, n2, if_false, a1, bd1_e, q_l0, d10, e1, bd15_e, k1, if_true, q_l1, ed]
      · have c3 : ¬ nI (stN c l1) = nI 0 := by rw [q_eq (by omega) (by omega)]; exact c2
        obtain ⟨ans, lots', lk', la', ll', us', sp', zt', zl', zc', dy', hu', cn', gn', cs', s', f1, f2⟩ := ih (i + 1) n (m + 1) (d + 1) l1 lk1 la1 ll1 us1 sp1 zt1 zl1 zc1 (hu + nI a) cn1 gn1 cs1 s1 (by omega) (by omega) (by omega) (by omega) (fun q => hE (by omega)) h1
        refine ⟨ans, lots', lk', la', ll', us', sp', zt', zl', zc', dy', hu', cn', gn', cs', s', ?_, ?_⟩
        · rw [← f1]
          show sX1_dayWhenOut_rec1 zs zd zn (nI N) sto sg (nI c) _ (nI i) lk la ll (nI l.length) us sp zt zl zc (nI d) hu cn gn cs = _
          simp (disch := omega) only [sX1_dayWhenOut_rec1, q_l1000, q_le, n2, if_false, a1, bd1_e, q_l0, d10, e1, bd15_e, k1, c3, q_jl, q_l1, nI_add]
        · rw [← f2]
          show sX7_outOn_rec6 (nI c) bg4 (gl2 (sX7_outOn_rec6 (nI c) bg4) (m + 1)) (-4) s = _
          simp (disch := omega) only [sX7_outOn_rec6, q_mrg, d4, if_false, a2, bd1_e, q_l0, d10, e2, k2, c3]
    · exact stop i n (m + 1) d l lk la ll us sp zt zl zc hu cn gn cs s (by omega) c1 h
