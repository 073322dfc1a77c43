/-! ===== what would be, told of the class alone ===== -/
theorem gone_I {N p : Nat} {zs zd zn sto sg : Nat → Int32} (hp : p < N) :
    ∀ (K i n d : Nat) (l : List LT) (lk la ll us sp zt zl zc : Nat → Int32) (hu cn gn cs : Int32) (s : Nat → Int32), d + K = 396 → i ≤ d → K < n → (d = 396 → ∀ j, j < N → zt j ≠ nI 0 ∧ zt j ≠ nI 1) → NightR l N d lk la ll us sp zs zd zn zt zl zc sto sg hu cn gn cs s → ∀ {ans n' dy' hu' cn' gn' cs' : Int32} {lk' la' ll' us' sp' zt' zl' zc' : Nat → Int32}, gl15 (sX1_dayWhenGone_rec1 zs zd zn (nI N) sto sg (nI p)) n (nI i) lk la ll (nI l.length) us sp zt zl zc (nI d) hu cn gn cs = some (ans, lk', la', ll', n', us', sp', zt', zl', zc', dy', hu', cn', gn', cs') →
      (zt p = nI 2 → ans = nI d - nI 1) ∧ (zt p = nI 3 → ans = -4) ∧ (zt p = nI 0 → ans = -4 ∨ ∃ e, d ≤ e ∧ e < 400 ∧ ans = nI e) ∧ (zt p = nI 1 → ∃ e, d ≤ e ∧ e < 400 ∧ ans = nI e) := by
  have d10 : (nI 1 = nI 0) = False := by decide
  have stop : ∀ (n d v : Nat) (i : Int32) (l : List LT) (lk la ll us sp zt zl zc : Nat → Int32) (hu cn gn cs : Int32) (s : Nat → Int32), v ≤ 3 → 2 ≤ v → zt p = nI v → NightR l N d lk la ll us sp zs zd zn zt zl zc sto sg hu cn gn cs s → ∀ {ans n' dy' hu' cn' gn' cs' : Int32} {lk' la' ll' us' sp' zt' zl' zc' : Nat → Int32}, gl15 (sX1_dayWhenGone_rec1 zs zd zn (nI N) sto sg (nI p)) (n + 1) i lk la ll (nI l.length) us sp zt zl zc (nI d) hu cn gn cs = some (ans, lk', la', ll', n', us', sp', zt', zl', zc', dy', hu', cn', gn', cs') →
      (zt p = nI 2 → ans = nI d - nI 1) ∧ (zt p = nI 3 → ans = -4) ∧ (zt p = nI 0 → ans = -4 ∨ ∃ e, d ≤ e ∧ e < 400 ∧ ans = nI e) ∧ (zt p = nI 1 → ∃ e, d ≤ e ∧ e < 400 ∧ ans = nI e) := by
    intro n d v i l lk la ll us sp zt zl zc hu cn gn cs s hv hv2 hz h ans n' dy' hu' cn' gn' cs' lk' la' ll' us' sp' zt' zl' zc' e
    have hN : N ≤ 17 := h.2.1.1
    have a1 := p_isAwaited hp hN hv hz
    rw [if_neg (show ¬ v ≤ 1 by omega)] at a1
    have a2 := p_hasStatus (c := 2) hp hN hv (by omega) hz
    rcases (show v = 2 ∨ v = 3 by omega) with rfl | rfl
    · have e1 : gl15 (sX1_dayWhenGone_rec1 zs zd zn (nI N) sto sg (nI p)) (n + 1) i lk la ll (nI l.length) us sp zt zl zc (nI d) hu cn gn cs = some (nI d - nI 1, lk, la, ll, nI l.length, us, sp, zt, zl, zc, nI d, hu, cn, gn, cs) := by
        show sX1_dayWhenGone_rec1 zs zd zn (nI N) sto sg (nI p) _ i lk la ll (nI l.length) us sp zt zl zc (nI d) hu cn gn cs = _
        rw [if_pos rfl] at a2
        simp (disch := omega) only [sX1_dayWhenGone_rec1, q_mrg, q_l2, a1, a2, bd1_e, q_l0, d10, if_true, if_false, q_l1, ite_self]
      rw [e1] at e
      cases e
      rw [hz]
      exact ⟨fun _ => rfl, fun q => absurd q (by decide), fun q => absurd q (by decide), fun q => absurd q (by decide)⟩
    · have e1 : gl15 (sX1_dayWhenGone_rec1 zs zd zn (nI N) sto sg (nI p)) (n + 1) i lk la ll (nI l.length) us sp zt zl zc (nI d) hu cn gn cs = some (-4, lk, la, ll, nI l.length, us, sp, zt, zl, zc, nI d, hu, cn, gn, cs) := by
        show sX1_dayWhenGone_rec1 zs zd zn (nI N) sto sg (nI p) _ i lk la ll (nI l.length) us sp zt zl zc (nI d) hu cn gn cs = _
        rw [if_neg (by omega)] at a2
        simp (disch := omega) only [sX1_dayWhenGone_rec1, q_mrg, q_l2, a1, a2, bd1_e, q_l0, if_true, ite_self]
      rw [e1] at e
      cases e
      rw [hz]
      exact ⟨fun q => absurd q (by decide), fun _ => rfl, fun q => absurd q (by decide), fun q => absurd q (by decide)⟩
  intro K
  induction K with
  | zero =>
    intro i n d l lk la ll us sp zt zl zc hu cn gn cs s hd hi hn hA h ans n' dy' hu' cn' gn' cs' lk' la' ll' us' sp' zt' zl' zc' e
    obtain ⟨n, rfl⟩ := Nat.exists_eq_succ_of_ne_zero (Nat.ne_of_gt hn)
    obtain ⟨v, hv, hz⟩ := h.2.1.stat hp
    obtain ⟨w1, w2⟩ := hA (by omega) p hp
    have hv2 : 2 ≤ v := by
      rcases (show v = 0 ∨ v = 1 ∨ 2 ≤ v by omega) with rfl | rfl | q
      · exact absurd hz w1
      · exact absurd hz w2
      · exact q
    exact stop n d v (nI i) l lk la ll us sp zt zl zc hu cn gn cs s hv hv2 hz h e
  | succ K ih =>
    intro i n d l lk la ll us sp zt zl zc hu cn gn cs s hd hi hn hA h ans n' dy' hu' cn' gn' cs' lk' la' ll' us' sp' zt' zl' zc' e
    obtain ⟨n, rfl⟩ := Nat.exists_eq_succ_of_ne_zero (by omega : n ≠ 0)
    obtain ⟨v, hv, hz⟩ := h.2.1.stat hp
    by_cases hv2 : 2 ≤ v
    · exact stop n d v (nI i) l lk la ll us sp zt zl zc hu cn gn cs s hv hv2 hz h e
    · have hN : N ≤ 17 := h.2.1.1
      have a1 := p_isAwaited hp hN hv hz
      rw [if_pos (show v ≤ 1 by omega)] at a1
      obtain ⟨ok, l1, lk1, la1, ll1, us1, sp1, zt1, zl1, zc1, cn1, gn1, cs1, s1, a, b, c, e1, e2, h1, -, -, -, -, -, -, -, hE⟩ := night_sim (by omega) h
      obtain ⟨-, -, -, hT⟩ := night_I (br := us) (by omega) h e1
      have n2 : ¬ 1000 ≤ i := by omega
      have e3 : gl15 (sX1_dayWhenGone_rec1 zs zd zn (nI N) sto sg (nI p)) (n + 1) (nI i) lk la ll (nI l.length) us sp zt zl zc (nI d) hu cn gn cs = gl15 (sX1_dayWhenGone_rec1 zs zd zn (nI N) sto sg (nI p)) n (nI (i + 1)) lk1 la1 ll1 (nI l1.length) us1 sp1 zt1 zl1 zc1 (nI (d + 1)) (hu + nI a) cn1 gn1 cs1 := by
        show sX1_dayWhenGone_rec1 zs zd zn (nI N) sto sg (nI p) (gl15 (sX1_dayWhenGone_rec1 zs zd zn (nI N) sto sg (nI p)) n) (nI i) lk la ll (nI l.length) us sp zt zl zc (nI d) hu cn gn cs = _
        simp (disch := omega) only [sX1_dayWhenGone_rec1, q_mrg, q_l1000, q_le, n2, if_false, a1, bd1_e, q_l0, d10, e1, bd15_e, q_jl, q_l1, nI_add]
      rw [e3] at e
      obtain ⟨b2, b3, b0, b1⟩ := ih (i + 1) n (d + 1) l1 lk1 la1 ll1 us1 sp1 zt1 zl1 zc1 (hu + nI a) cn1 gn1 cs1 s1 (by omega) (by omega) (by omega) (fun q => hE (by omega)) h1 e
      have ed : nI (d + 1) - nI 1 = nI d := q_subn (by omega) (by omega)
      rw [ed] at b2
      refine ⟨fun q => ?_, fun q => ?_, fun q => ?_, fun q => ?_⟩
      · exfalso
        rw [hz, q_eq (by omega) (by omega)] at q
        omega
      · exfalso
        rw [hz, q_eq (by omega) (by omega)] at q
        omega
      · obtain ⟨v1, hv1, hz1⟩ := h1.2.1.stat hp
        rcases (show v1 = 0 ∨ v1 = 1 ∨ v1 = 2 ∨ v1 = 3 by omega) with rfl | rfl | rfl | rfl
        · rcases b0 hz1 with w | ⟨e5, w1, w2, w3⟩
          · exact Or.inl w
          · exact Or.inr ⟨e5, by omega, w2, w3⟩
        · obtain ⟨e5, w1, w2, w3⟩ := b1 hz1
          exact Or.inr ⟨e5, by omega, w2, w3⟩
        · exact Or.inr ⟨d, Nat.le_refl _, by omega, b2 hz1⟩
        · exact Or.inl (b3 hz1)
      · rcases hT p hp q with w | w
        · obtain ⟨e5, w1, w2, w3⟩ := b1 w
          exact ⟨e5, by omega, w2, w3⟩
        · exact ⟨d, Nat.le_refl _, by omega, b2 w⟩
theorem out_I {N c : Nat} {zs zd zn sto sg : Nat → Int32} (hc : c ≤ 2) :
    ∀ (K i n d : Nat) (l : List LT) (lk la ll us sp zt zl zc : Nat → Int32) (hu cn gn cs : Int32) (s : Nat → Int32), d + K = 396 → i ≤ d → K < n → (d = 396 → ∀ j, j < N → zt j ≠ nI 0 ∧ zt j ≠ nI 1) → NightR l N d lk la ll us sp zs zd zn zt zl zc sto sg hu cn gn cs s → ∀ {ans n' dy' hu' cn' gn' cs' : Int32} {lk' la' ll' us' sp' zt' zl' zc' : Nat → Int32}, gl15 (sX1_dayWhenOut_rec1 zs zd zn (nI N) sto sg (nI c)) n (nI i) lk la ll (nI l.length) us sp zt zl zc (nI d) hu cn gn cs = some (ans, lk', la', ll', n', us', sp', zt', zl', zc', dy', hu', cn', gn', cs') →
      ans = -4 ∨ (Awt N zt ∧ ∃ e, d ≤ e ∧ e < 400 ∧ ans = nI e) := by
  have d10 : (nI 1 = nI 0) = False := by decide
  have stop : ∀ (i n d : Nat) (l : List LT) (lk la ll us sp zt zl zc : Nat → Int32) (hu cn gn cs : Int32) (s : Nat → Int32), ¬ Awt N zt → NightR l N d lk la ll us sp zs zd zn zt zl zc sto sg hu cn gn cs s → ∀ {ans n' dy' hu' cn' gn' cs' : Int32} {lk' la' ll' us' sp' zt' zl' zc' : Nat → Int32}, gl15 (sX1_dayWhenOut_rec1 zs zd zn (nI N) sto sg (nI c)) (n + 1) (nI i) lk la ll (nI l.length) us sp zt zl zc (nI d) hu cn gn cs = some (ans, lk', la', ll', n', us', sp', zt', zl', zc', dy', hu', cn', gn', cs') → ans = -4 := by
    intro i n d l lk la ll us sp zt zl zc hu cn gn cs s hA h ans n' dy' hu' cn' gn' cs' lk' la' ll' us' sp' zt' zl' zc' e
    rcases h.any with ⟨c1, _⟩ | ⟨_, a1, a2⟩
    · exact absurd c1 hA
    · have e1 : gl15 (sX1_dayWhenOut_rec1 zs zd zn (nI N) sto sg (nI c)) (n + 1) (nI i) lk la ll (nI l.length) us sp zt zl zc (nI d) hu cn gn cs = some (-4, lk, la, ll, nI l.length, us, sp, zt, zl, zc, nI d, hu, cn, gn, cs) := by
        show sX1_dayWhenOut_rec1 zs zd zn (nI N) sto sg (nI c) _ (nI i) lk la ll (nI l.length) us sp zt zl zc (nI d) hu cn gn cs = _
        simp (disch := omega) only [sX1_dayWhenOut_rec1, a1, bd1_e, q_l0, if_true, ite_self]
      rw [e1] at e
      cases e
      rfl
  intro K
  induction K with
  | zero =>
    intro i n d l lk la ll us sp zt zl zc hu cn gn cs s hd hi hn hA h ans n' dy' hu' cn' gn' cs' lk' la' ll' us' sp' zt' zl' zc' e
    obtain ⟨n, rfl⟩ := Nat.exists_eq_succ_of_ne_zero (Nat.ne_of_gt hn)
    exact Or.inl (stop i n d l lk la ll us sp zt zl zc hu cn gn cs s (fun ⟨j, hj, q⟩ => q.elim (hA (by omega) j hj).1 (hA (by omega) j hj).2) h e)
  | succ K ih =>
    intro i n d l lk la ll us sp zt zl zc hu cn gn cs s hd hi hn hA h ans n' dy' hu' cn' gn' cs' lk' la' ll' us' sp' zt' zl' zc' e
    obtain ⟨n, rfl⟩ := Nat.exists_eq_succ_of_ne_zero (by omega : n ≠ 0)
    rcases h.any with ⟨c0, a1, a2⟩ | ⟨c1, _⟩
    · obtain ⟨ok, l1, lk1, la1, ll1, us1, sp1, zt1, zl1, zc1, cn1, gn1, cs1, s1, a, b, cc, e1, e2, h1, -, -, -, -, -, -, -, hE⟩ := night_sim (by omega) h
      obtain ⟨k1, k2, k3⟩ := h1.stock hc
      have n2 : ¬ 1000 ≤ i := by omega
      by_cases c2 : stN c l1 = 0
      · rw [c2] at k1 k2
        have ed : nI (d + 1) - nI 1 = nI d := q_subn (by omega) (by omega)
        have e3 : gl15 (sX1_dayWhenOut_rec1 zs zd zn (nI N) sto sg (nI c)) (n + 1) (nI i) lk la ll (nI l.length) us sp zt zl zc (nI d) hu cn gn cs = some (nI d, lk1, la1, ll1, nI l1.length, us1, sp1, zt1, zl1, zc1, nI (d + 1), hu + nI a, cn1, gn1, cs1) := by
          show sX1_dayWhenOut_rec1 zs zd zn (nI N) sto sg (nI c) _ (nI i) lk la ll (nI l.length) us sp zt zl zc (nI d) hu cn gn cs = _
          simp (disch := omega) only [sX1_dayWhenOut_rec1, q_l1000, q_le, n2, if_false, a1, bd1_e, q_l0, d10, e1, bd15_e, k1, if_true, q_l1, ed]
        rw [e3] at e
        cases e
        exact Or.inr ⟨c0, d, Nat.le_refl _, by omega, rfl⟩
      · have c3 : ¬ nI (stN c l1) = nI 0 := by rw [q_eq (by omega) (by omega)]; exact c2
        have e3 : gl15 (sX1_dayWhenOut_rec1 zs zd zn (nI N) sto sg (nI c)) (n + 1) (nI i) lk la ll (nI l.length) us sp zt zl zc (nI d) hu cn gn cs = gl15 (sX1_dayWhenOut_rec1 zs zd zn (nI N) sto sg (nI c)) n (nI (i + 1)) lk1 la1 ll1 (nI l1.length) us1 sp1 zt1 zl1 zc1 (nI (d + 1)) (hu + nI a) cn1 gn1 cs1 := by
          show sX1_dayWhenOut_rec1 zs zd zn (nI N) sto sg (nI c) _ (nI i) lk la ll (nI l.length) us sp zt zl zc (nI d) hu cn gn cs = _
          simp (disch := omega) only [sX1_dayWhenOut_rec1, q_l1000, q_le, n2, if_false, a1, bd1_e, q_l0, d10, e1, bd15_e, k1, c3, q_jl, q_l1, nI_add]
        rw [e3] at e
        rcases ih (i + 1) n (d + 1) l1 lk1 la1 ll1 us1 sp1 zt1 zl1 zc1 (hu + nI a) cn1 gn1 cs1 s1 (by omega) (by omega) (by omega) (fun q => hE (by omega)) h1 e with w | ⟨_, e5, w1, w2, w3⟩
        · exact Or.inl w
        · exact Or.inr ⟨c0, e5, by omega, w2, w3⟩
    · exact Or.inl (stop i n d l lk la ll us sp zt zl zc hu cn gn cs s c1 h e)
theorem gone_v {l pl : List LT} {N d F p : Nat} {lk la ll us sp zs zd zn zt zl zc sto sg pk pa pd br s : Nat → Int32} {hu cn gn cs : Int32} (hN : N ≤ 16) (hd : d ≤ 365) (hh : HutR l pl N d F lk la ll us sp zs zd zn zt zl zc sto sg hu cn gn cs pk pa pd br s) (hp : p < N) : ∃ r, (∀ xt, ∃ xt', fX6_goneOn (lk, la, ll, nI l.length, pk, pa, pd, nI pl.length, br, us, sp, zs, zd, zn, zt, zl, zc, nI N, sto, sg, nI d, nI F, hu, cn, gn, cs) xt (nI p) = some (r, xt')) ∧ ((zt p = nI 0 ∨ zt p = nI 1) → r ≠ -2) ∧ (zt p = nI 1 → nI d ≤ r) ∧ ((zt p = nI 2 ∨ zt p = nI 3) → r = -2) := by
  obtain ⟨v, v1, v2⟩ := hh.1.2.1.stat hp
  have a1 := p_isAwaited (by omega) (by omega) v1 v2 (N := N) (p := p)
  have aH := p_hasN hp (show N ≤ 17 by omega)
  by_cases cv : v ≤ 1
  · rw [if_pos cv] at a1
    obtain ⟨ans, lots', lk', la', ll', us', sp', zt', zl', zc', dy', hu', cn', gn', cs', s', f1, -⟩ := gone_loop (bg7 := s) hp (396 - d) 0 gFU gFU d l lk la ll us sp zt zl zc hu cn gn cs s (by omega) (Nat.zero_le _) (by unfold gFU; omega) (by unfold gFU; omega) (fun q => absurd q (by omega)) hh.1
    obtain ⟨-, -, g0, g1⟩ := gone_I hp (396 - d) 0 gFU d l lk la ll us sp zt zl zc hu cn gn cs s (by omega) (Nat.zero_le _) (by unfold gFU; omega) (fun q => absurd q (by omega)) hh.1 f1
    refine ⟨ans, fun xt => ?_, fun q => ?_, fun q => ?_, fun q => ?_⟩
    · have hc := (HR.mk hN hd hh).copy xt
      have f1' : gX1_dayWhenGone (lk, la, ll, nI l.length, pk, pa, pd, nI pl.length, br, us, sp, zs, zd, zn, zt, zl, zc, nI N, sto, sg, nI d, nI F, hu, cn, gn, cs) (nI p) = some (ans, (lk', la', ll', lots', pk, pa, pd, nI pl.length, br, us', sp', zs, zd, zn, zt', zl', zc', nI N, sto, sg, dy', nI F, hu', cn', gn', cs')) := by
        show bd15 (fX1_dayWhenGone lk la ll (nI l.length) us sp zs zd zn zt zl zc (nI N) sto sg (nI d) hu cn gn cs (nI p)) _ = _
        unfold fX1_dayWhenGone
        rw [q_l0, f1]
        rfl
      refine ⟨(lk', la', ll', lots', pk, pa, pd, nI pl.length, br, us', sp', zs, zd, zn, zt', zl', zc', nI N, sto, sg, dy', nI F, hu', cn', gn', cs'), ?_⟩
      unfold fX6_goneOn
      rw [hc]
      dsimp only
      rw [aH, bd1_e, if_neg (by decide), a1, bd1_e, if_neg (by decide), bd1_e, f1', bd2_e]
    · have hne : ∀ e : Nat, e < 400 → nI e ≠ -2 := by
        intro e he w
        have h9 := nI_nn (A := e) (by omega)
        rw [w] at h9
        exact h9 (by decide)
      rcases q with q | q
      · rcases g0 q with w | ⟨e, -, w2, w3⟩
        · rw [w]; decide
        · rw [w3]; exact hne e w2
      · obtain ⟨e, -, w2, w3⟩ := g1 q
        rw [w3]; exact hne e w2
    · obtain ⟨e, w1, w2, w3⟩ := g1 q
      rw [w3, q_le (by omega) (by omega)]
      exact w1
    · exfalso
      rcases q with q | q
      · rw [v2, q_eq (by omega) (by omega)] at q
        omega
      · rw [v2, q_eq (by omega) (by omega)] at q
        omega
  · rw [if_neg cv] at a1
    refine ⟨-2, fun xt => ⟨xt, ?_⟩, fun q => ?_, fun q => ?_, fun _ => rfl⟩
    · unfold fX6_goneOn
      dsimp only
      rw [aH, bd1_e, if_neg (by decide), a1, bd1_e, if_pos (by decide)]
    · exfalso
      rcases q with q | q
      · rw [v2, q_eq (by omega) (by omega)] at q
        omega
      · rw [v2, q_eq (by omega) (by omega)] at q
        omega
    · exfalso
      rw [v2, q_eq (by omega) (by omega)] at q
      omega
theorem out_v {l pl : List LT} {N d F c : Nat} {lk la ll us sp zs zd zn zt zl zc sto sg pk pa pd br s : Nat → Int32} {hu cn gn cs : Int32} (hN : N ≤ 16) (hd : d ≤ 365) (hh : HutR l pl N d F lk la ll us sp zs zd zn zt zl zc sto sg hu cn gn cs pk pa pd br s) (hc : c ≤ 2) (xt : HutS) : ∃ r xt', fX6_outOn (lk, la, ll, nI l.length, pk, pa, pd, nI pl.length, br, us, sp, zs, zd, zn, zt, zl, zc, nI N, sto, sg, nI d, nI F, hu, cn, gn, cs) xt (nI c) = some (r, xt') ∧ (r = -4 ∨ (Awt N zt ∧ r ≠ -4 ∧ nI d ≤ r)) := by
  obtain ⟨ans, lots', lk', la', ll', us', sp', zt', zl', zc', dy', hu', cn', gn', cs', s', f1, -⟩ := out_loop (bg4 := s) hc (396 - d) 0 gFU gFU d l lk la ll us sp zt zl zc hu cn gn cs s (by omega) (Nat.zero_le _) (by unfold gFU; omega) (by unfold gFU; omega) (fun q => absurd q (by omega)) hh.1
  have g := out_I hc (396 - d) 0 gFU d l lk la ll us sp zt zl zc hu cn gn cs s (by omega) (Nat.zero_le _) (by unfold gFU; omega) (fun q => absurd q (by omega)) hh.1 f1
  have hcp := (HR.mk hN hd hh).copy xt
  have f1' : gX1_dayWhenOut (lk, la, ll, nI l.length, pk, pa, pd, nI pl.length, br, us, sp, zs, zd, zn, zt, zl, zc, nI N, sto, sg, nI d, nI F, hu, cn, gn, cs) (nI c) = some (ans, (lk', la', ll', lots', pk, pa, pd, nI pl.length, br, us', sp', zs, zd, zn, zt', zl', zc', nI N, sto, sg, dy', nI F, hu', cn', gn', cs')) := by
    show bd15 (fX1_dayWhenOut lk la ll (nI l.length) us sp zs zd zn zt zl zc (nI N) sto sg (nI d) hu cn gn cs (nI c)) _ = _
    unfold fX1_dayWhenOut
    rw [q_l0, f1]
    rfl
  have kk : fX4_isKind (nI c) = some (nI 1) := by
    unfold fX4_isKind
    rw [if_neg (nI_nn (by omega)), if_neg (show ¬ (3 : Int32) ≤ nI c by rw [q_l3, q_le (by omega) (by omega)]; omega), q_l1]
  refine ⟨ans, (lk', la', ll', lots', pk, pa, pd, nI pl.length, br, us', sp', zs, zd, zn, zt', zl', zc', nI N, sto, sg, dy', nI F, hu', cn', gn', cs'), ?_, ?_⟩
  rotate_left
  · rcases g with w | ⟨w0, e, w1, w2, w3⟩
    · exact Or.inl w
    · refine Or.inr ⟨w0, fun q => ?_, ?_⟩
      · have h9 := nI_nn (A := e) (by omega)
        rw [← w3, q] at h9
        exact h9 (by decide)
      · rw [w3, q_le (by omega) (by omega)]
        exact w1
  · unfold fX6_outOn
    rw [hcp, kk, bd1_e, if_neg (by decide), bd1_e, f1', bd2_e]
