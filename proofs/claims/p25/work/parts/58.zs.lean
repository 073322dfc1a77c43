/-! ===== what holds: parties, stores ===== -/
theorem sub_nn {L n : Nat} (hL : L < 2 ^ 20) (hn : n < 2 ^ 20) : (if 0 < nI L - nI n then nI L - nI n else 0) = (if nI L ≤ nI n then 0 else nI L - nI n) := by
  by_cases c : nI L ≤ nI n
  · rw [if_pos c]
    rw [q_le (by omega) (by omega)] at c
    by_cases c2 : L = n
    · subst c2
      rw [Int32.sub_self, ite_self]
    · have h : nI L - nI n < 0 := pk_sneg (by omega) (by omega)
      rw [if_neg (Int32.not_lt.mpr (Int32.le_of_lt h))]
  · rw [if_neg c]
    rw [q_le (by omega) (by omega)] at c
    rw [if_pos (show 0 < nI L - nI n by rw [q_subn (by omega) (by omega), q_l0, q_lt (by omega) (by omega)]; omega)]
theorem vH_party {l pl : List LT} {N d F : Nat} {lk la ll us sp zs zd zn zt zl zc sto sg pk pa pd br s : Nat → Int32} {hu cn gn cs : Int32} {p : Nat} (hN : N ≤ 16) (hh : HutR l pl N d F lk la ll us sp zs zd zn zt zl zc sto sg hu cn gn cs pk pa pd br s) (hp : p < N) : fX6_partyOf (lk, la, ll, nI l.length, pk, pa, pd, nI pl.length, br, us, sp, zs, zd, zn, zt, zl, zc, nI N, sto, sg, nI d, nI F, hu, cn, gn, cs) (nI p) 0 = some (zs p) ∧ fX6_partyOf (lk, la, ll, nI l.length, pk, pa, pd, nI pl.length, br, us, sp, zs, zd, zn, zt, zl, zc, nI N, sto, sg, nI d, nI F, hu, cn, gn, cs) (nI p) 2 = some (zn p) ∧ fX6_partyOf (lk, la, ll, nI l.length, pk, pa, pd, nI pl.length, br, us, sp, zs, zd, zn, zt, zl, zc, nI N, sto, sg, nI d, nI F, hu, cn, gn, cs) (nI p) 3 = some (zt p) ∧ fX6_partyOf (lk, la, ll, nI l.length, pk, pa, pd, nI pl.length, br, us, sp, zs, zd, zn, zt, zl, zc, nI N, sto, sg, nI d, nI F, hu, cn, gn, cs) (nI p) 4 = some (zl p) ∧ fX6_partyOf (lk, la, ll, nI l.length, pk, pa, pd, nI pl.length, br, us, sp, zs, zd, zn, zt, zl, zc, nI N, sto, sg, nI d, nI F, hu, cn, gn, cs) (nI p) 5 = some (if 0 ≤ zc p then zc p else -4) ∧ fX6_partyOf (lk, la, ll, nI l.length, pk, pa, pd, nI pl.length, br, us, sp, zs, zd, zn, zt, zl, zc, nI N, sto, sg, nI d, nI F, hu, cn, gn, cs) (nI p) 6 = some (if 0 < zl p - zn p then zl p - zn p else 0) := v_party (by omega) hp
theorem vH_count {l pl : List LT} {N d F : Nat} {lk la ll us sp zs zd zn zt zl zc sto sg pk pa pd br s : Nat → Int32} {hu cn gn cs : Int32} {ke lnn tl : Int32} (hN : N ≤ 16) (hh : HutR l pl N d F lk la ll us sp zs zd zn zt zl zc sto sg hu cn gn cs pk pa pd br s) : fX6_count ke lnn tl (lk, la, ll, nI l.length, pk, pa, pd, nI pl.length, br, us, sp, zs, zd, zn, zt, zl, zc, nI N, sto, sg, nI d, nI F, hu, cn, gn, cs) 0 = some (nI N) ∧ fX6_count ke lnn tl (lk, la, ll, nI l.length, pk, pa, pd, nI pl.length, br, us, sp, zs, zd, zn, zt, zl, zc, nI N, sto, sg, nI d, nI F, hu, cn, gn, cs) 1 = some (sumS (fun _ => nI 1) zt (nI 0) 0 N (nI 0)) ∧ fX6_count ke lnn tl (lk, la, ll, nI l.length, pk, pa, pd, nI pl.length, br, us, sp, zs, zd, zn, zt, zl, zc, nI N, sto, sg, nI d, nI F, hu, cn, gn, cs) 2 = some (sumS (fun _ => nI 1) zt (nI 1) 0 N (nI 0)) ∧ fX6_count ke lnn tl (lk, la, ll, nI l.length, pk, pa, pd, nI pl.length, br, us, sp, zs, zd, zn, zt, zl, zc, nI N, sto, sg, nI d, nI F, hu, cn, gn, cs) 3 = some (sumS zs zt (nI 1) 0 N (nI 0)) ∧ fX6_count ke lnn tl (lk, la, ll, nI l.length, pk, pa, pd, nI pl.length, br, us, sp, zs, zd, zn, zt, zl, zc, nI N, sto, sg, nI d, nI F, hu, cn, gn, cs) 4 = some (nI d) ∧ fX6_count ke lnn tl (lk, la, ll, nI l.length, pk, pa, pd, nI pl.length, br, us, sp, zs, zd, zn, zt, zl, zc, nI N, sto, sg, nI d, nI F, hu, cn, gn, cs) 6 = some (nI F) ∧ fX6_count ke lnn tl (lk, la, ll, nI l.length, pk, pa, pd, nI pl.length, br, us, sp, zs, zd, zn, zt, zl, zc, nI N, sto, sg, nI d, nI F, hu, cn, gn, cs) 7 = some (nI pl.length) ∧ fX6_count ke lnn tl (lk, la, ll, nI l.length, pk, pa, pd, nI pl.length, br, us, sp, zs, zd, zn, zt, zl, zc, nI N, sto, sg, nI d, nI F, hu, cn, gn, cs) 8 = some hu ∧ fX6_count ke lnn tl (lk, la, ll, nI l.length, pk, pa, pd, nI pl.length, br, us, sp, zs, zd, zn, zt, zl, zc, nI N, sto, sg, nI d, nI F, hu, cn, gn, cs) 10 = some gn ∧ fX6_count ke lnn tl (lk, la, ll, nI l.length, pk, pa, pd, nI pl.length, br, us, sp, zs, zd, zn, zt, zl, zc, nI N, sto, sg, nI d, nI F, hu, cn, gn, cs) 12 = some lnn ∧ fX6_count ke lnn tl (lk, la, ll, nI l.length, pk, pa, pd, nI pl.length, br, us, sp, zs, zd, zn, zt, zl, zc, nI N, sto, sg, nI d, nI F, hu, cn, gn, cs) 13 = some tl ∧ fX6_count ke lnn tl (lk, la, ll, nI l.length, pk, pa, pd, nI pl.length, br, us, sp, zs, zd, zn, zt, zl, zc, nI N, sto, sg, nI d, nI F, hu, cn, gn, cs) 14 = some (if ke = 0 then 0 else 1) := v_count (by omega)
theorem vH_store {l pl : List LT} {N d F : Nat} {lk la ll us sp zs zd zn zt zl zc sto sg pk pa pd br s : Nat → Int32} {hu cn gn cs : Int32} {k : Nat} (hh : HutR l pl N d F lk la ll us sp zs zd zn zt zl zc sto sg hu cn gn cs pk pa pd br s) (hk : k ≤ 2) : fX6_storeOf (lk, la, ll, nI l.length, pk, pa, pd, nI pl.length, br, us, sp, zs, zd, zn, zt, zl, zc, nI N, sto, sg, nI d, nI F, hu, cn, gn, cs) (nI k) 0 = some (nI (stN k l)) ∧ fX6_storeOf (lk, la, ll, nI l.length, pk, pa, pd, nI pl.length, br, us, sp, zs, zd, zn, zt, zl, zc, nI N, sto, sg, nI d, nI F, hu, cn, gn, cs) (nI k) 1 = some (br k) ∧ fX6_storeOf (lk, la, ll, nI l.length, pk, pa, pd, nI pl.length, br, us, sp, zs, zd, zn, zt, zl, zc, nI N, sto, sg, nI d, nI F, hu, cn, gn, cs) (nI k) 2 = some (us k) ∧ fX6_storeOf (lk, la, ll, nI l.length, pk, pa, pd, nI pl.length, br, us, sp, zs, zd, zn, zt, zl, zc, nI N, sto, sg, nI d, nI F, hu, cn, gn, cs) (nI k) 3 = some (sp k) ∧ fX6_storeOf (lk, la, ll, nI l.length, pk, pa, pd, nI pl.length, br, us, sp, zs, zd, zn, zt, zl, zc, nI N, sto, sg, nI d, nI F, hu, cn, gn, cs) (nI k) 4 = some (sumS (fun _ => nI 1) lk (nI k) 0 l.length (nI 0)) := v_store hk hh.1
/-- one party: what is asked of it holds, and it is counted -/
theorem holds_one {l pl : List LT} {N d F : Nat} {lk la ll us sp zs zd zn zt zl zc sto sg pk pa pd br s : Nat → Int32} {hu cn gn cs : Int32} {ke lnn tl : Int32} (hN : N ≤ 16) (hd : d ≤ 365) (hh : HutR l pl N d F lk la ll us sp zs zd zn zt zl zc sto sg hu cn gn cs pk pa pd br s) (hQ : PI zn zt zl (nI N)) {i : Nat} (hi : i < N) (rc : Int32 → Int32 → Int32 → Int32 → Int32 → HutS → Option (Int32 × HutS)) (v3 v4 v5 v6 : Int32) (xt : HutS) : ∃ xt', sL_holds_rec1 ke lnn tl (lk, la, ll, nI l.length, pk, pa, pd, nI pl.length, br, us, sp, zs, zd, zn, zt, zl, zc, nI N, sto, sg, nI d, nI F, hu, cn, gn, cs) rc (nI i) v3 v4 v5 v6 xt = rc (nI (i + 1)) (v3 + zl i * zs i) (if zt i = nI 1 then v4 + zs i else v4) (if zt i = nI 1 then v5 + nI 1 else v5) (if zt i = nI 0 then v6 + nI 1 else v6) xt' := by
  obtain ⟨P0, P2, P3, P4, P5, P6⟩ := vH_party hN hh hi
  obtain ⟨c0, -, -, -, c4, -⟩ := vH_count (ke := ke) (lnn := lnn) (tl := tl) hN hh
  obtain ⟨r, g1, g2, g3, g4⟩ := gone_v hN hd hh hi
  obtain ⟨xt1, G1⟩ := g1 xt
  obtain ⟨xt2, G2⟩ := g1 xt1
  obtain ⟨⟨z, dd, nn, -, -, -, -, -, y1, y2, y3⟩, y4⟩ := hh.1.2.1.2.2.1 i hi
  have hq := hQ i (by rw [q_cl (by omega)]; exact hi)
  have n0 : ¬ nI N ≤ nI i := by rw [q_le (by omega) (by omega)]; omega
  have i1 : nI i + (1 : Int32) = nI (i + 1) := by rw [q_l1, nI_add]
  have hzl : ∃ L, L < 2 ^ 20 ∧ zl i = nI L := by
    rcases y4 with ⟨_, q, _⟩ | ⟨c, L, _, q, _, q2, _⟩ | ⟨c, L, _, q, _, _, q2⟩ | ⟨_, q, _⟩
    · exact ⟨0, by omega, q⟩
    · exact ⟨L, by omega, q⟩
    · exact ⟨L, by omega, q⟩
    · exact ⟨0, by omega, q⟩
  obtain ⟨L, hL, eL⟩ := hzl
  have P6' : fX6_partyOf (lk, la, ll, nI l.length, pk, pa, pd, nI pl.length, br, us, sp, zs, zd, zn, zt, zl, zc, nI N, sto, sg, nI d, nI F, hu, cn, gn, cs) (nI i) 6 = some (if zl i ≤ zn i then 0 else zl i - zn i) := by
    rw [P6, eL, y3, sub_nn hL (by omega)]
  have t00 : ((0 : Int32) = 0) = True := eq_self _
  have t11 : ((1 : Int32) = 1) = True := eq_self _
  have m4 : ∀ k : Nat, k < 400 → (nI k = (-4 : Int32)) = False := by
    intro k hk
    apply eq_false
    intro q
    have h9 := nI_nn (A := k) (by omega)
    rw [q] at h9
    exact h9 (by decide)
  have ex : ∀ c : Int32, zc i = c → fX6_partyOf (lk, la, ll, nI l.length, pk, pa, pd, nI pl.length, br, us, sp, zs, zd, zn, zt, zl, zc, nI N, sto, sg, nI d, nI F, hu, cn, gn, cs) (nI i) 5 = some (if 0 ≤ c then c else -4) := fun c q => by rw [P5, q]
  have mm : ((-4 : Int32) = -4) = True := eq_self _
  have rr : ((-2 : Int32) = -2) = True := eq_self _
  have hS : ∀ a : Int32, (a = a) = True := fun a => eq_self a
  rcases y4 with ⟨w1, w2, w3⟩ | ⟨c, L2, w1, w2, w3, w4, w5⟩ | ⟨c, L2, w1, w2, w3, w4, w5⟩ | ⟨w1, w2, w3⟩
  · -- booked
    have P5' : fX6_partyOf (lk, la, ll, nI l.length, pk, pa, pd, nI pl.length, br, us, sp, zs, zd, zn, zt, zl, zc, nI N, sto, sg, nI d, nI F, hu, cn, gn, cs) (nI i) 5 = some (-4) := by
      have e : zc i = -1 := by
        have e1 : zc i + nI 1 - nI 1 = zc i := Int32.add_sub_cancel ..
        rw [← e1, w3]
        decide
      rw [ex _ e]
      rfl
    have rn : (r = (-2 : Int32)) = False := eq_false (g2 (Or.inl w1))
    have b1 : (nI 0 = (0 : Int32)) = True := by decide
    have b2 : (nI 0 = (1 : Int32)) = False := by decide
    have b3 : (nI 0 ≤ (0 : Int32)) = True := by decide
    have b4 : (nI 0 = (2 : Int32)) = False := by decide
    have b5 : (nI 0 ≤ (1 : Int32)) = True := by decide
    have b6 : (nI 0 = nI 1) = False := by decide
    refine ⟨xt1, ?_⟩
    rw [w1] at P3
    rw [w2] at P4 P6'
    rw [sL_holds_rec1]
    rw [w1, w2]
    by_cases cL : nI 0 ≤ zn i
    · rw [if_pos cL] at P6'
      simp only [c0, bd1_e, n0, if_false, P3, P4, P0, P2, P5', P6', q_mrg, q_jl, b1, b2, b3, b4, b5, b6, cL, if_true, t00, t11, mm, rn, G1, bd2_e, hS, Int32.add_zero, i1]
      rfl
    · rw [y3, q_le (by omega) (by omega)] at cL
      omega
  · -- stays
    have P5' : fX6_partyOf (lk, la, ll, nI l.length, pk, pa, pd, nI pl.length, br, us, sp, zs, zd, zn, zt, zl, zc, nI N, sto, sg, nI d, nI F, hu, cn, gn, cs) (nI i) 5 = some (nI c) := by
      rw [ex _ w3, if_pos (show 0 ≤ nI c by rw [q_l0, q_le (by omega) (by omega)]; omega)]
    have mc := m4 c (by omega)
    have rn : (r = (-2 : Int32)) = False := eq_false (g2 (Or.inr w1))
    have rd : (nI d ≤ r) = True := eq_true (g3 w1)
    have b1 : (nI 1 = (0 : Int32)) = False := by decide
    have b2 : (nI 1 = (1 : Int32)) = True := by decide
    have b3 : (nI 1 ≤ (0 : Int32)) = False := by decide
    have b4 : (nI 1 = (2 : Int32)) = False := by decide
    have b5 : (nI 1 ≤ (1 : Int32)) = True := by decide
    have b6 : (nI 1 = nI 0) = False := by decide
    have b7 : (nI 1 < (3 : Int32)) = True := by decide
    have bl : (nI L2 = (0 : Int32)) = False := by
      have := hq.1 w1
      rw [w2, q_le (by omega) (by omega)] at this
      rw [q_l0, q_eq (by omega) (by omega)]
      exact eq_false (by omega)
    refine ⟨xt2, ?_⟩
    rw [w1] at P3
    rw [w2] at P4 P6'
    rw [sL_holds_rec1]
    rw [w1, w2]
    by_cases cL : nI L2 ≤ zn i
    · rw [if_pos cL] at P6'
      simp only [c0, c4, bd1_e, n0, if_false, P3, P4, P0, P2, P5', P6', q_mrg, q_jl, b1, b2, b3, b4, b5, b6, b7, bl, mc, cL, if_true, t00, t11, rn, rd, G1, G2, bd2_e, hS, Int32.add_zero, i1]
      rfl
    · rw [if_neg cL] at P6'
      simp only [c0, c4, bd1_e, n0, if_false, P3, P4, P0, P2, P5', P6', q_mrg, q_jl, b1, b2, b3, b4, b5, b6, b7, bl, mc, cL, if_true, t00, t11, rn, rd, G1, G2, bd2_e, hS, Int32.add_zero, i1]
      rfl
  · -- left
    have P5' : fX6_partyOf (lk, la, ll, nI l.length, pk, pa, pd, nI pl.length, br, us, sp, zs, zd, zn, zt, zl, zc, nI N, sto, sg, nI d, nI F, hu, cn, gn, cs) (nI i) 5 = some (nI c) := by
      rw [ex _ w3, if_pos (show 0 ≤ nI c by rw [q_l0, q_le (by omega) (by omega)]; omega)]
    have mc := m4 c (by omega)
    have rn : (r = (-2 : Int32)) = True := eq_true (g4 (Or.inl w1))
    have b1 : (nI 2 = (0 : Int32)) = False := by decide
    have b2 : (nI 2 = (1 : Int32)) = False := by decide
    have b3 : (nI 2 ≤ (0 : Int32)) = False := by decide
    have b4 : (nI 2 = (2 : Int32)) = True := by decide
    have b5 : (nI 2 ≤ (1 : Int32)) = False := by decide
    have b6 : (nI 2 = nI 0) = False := by decide
    have b8 : (nI 2 = nI 1) = False := by decide
    have b7 : (nI 2 < (3 : Int32)) = True := by decide
    have hle := hq.2 w1
    have bl : (nI L2 = (0 : Int32)) = False := by
      have h9 := hle
      rw [w2, y3, q_le (by omega) (by omega)] at h9
      rw [q_l0, q_eq (by omega) (by omega)]
      exact eq_false (by omega)
    have bn : (nI L2 < zn i) = False := by
      rw [← w2]
      exact eq_false (Int32.not_lt.mpr hle)
    refine ⟨xt1, ?_⟩
    rw [w1] at P3
    rw [w2] at P4 P6'
    rw [sL_holds_rec1]
    rw [w1, w2]
    by_cases cL : nI L2 ≤ zn i
    · rw [if_pos cL] at P6'
      simp only [c0, c4, bd1_e, n0, if_false, P3, P4, P0, P2, P5', P6', q_mrg, q_jl, b1, b2, b3, b4, b5, b6, b7, b8, bl, bn, mc, cL, if_true, t00, t11, rn, G1, bd2_e, hS, Int32.add_zero, i1]
    · rw [if_neg cL] at P6'
      simp only [c0, c4, bd1_e, n0, if_false, P3, P4, P0, P2, P5', P6', q_mrg, q_jl, b1, b2, b3, b4, b5, b6, b7, b8, bl, bn, mc, cL, if_true, t00, t11, rn, G1, bd2_e, hS, Int32.add_zero, i1]
  · -- called off
    have P5' : fX6_partyOf (lk, la, ll, nI l.length, pk, pa, pd, nI pl.length, br, us, sp, zs, zd, zn, zt, zl, zc, nI N, sto, sg, nI d, nI F, hu, cn, gn, cs) (nI i) 5 = some (-4) := by
      have e : zc i = -1 := by
        have e1 : zc i + nI 1 - nI 1 = zc i := Int32.add_sub_cancel ..
        rw [← e1, w3]
        decide
      rw [ex _ e]
      rfl
    have rn : (r = (-2 : Int32)) = True := eq_true (g4 (Or.inr w1))
    have b1 : (nI 3 = (0 : Int32)) = False := by decide
    have b2 : (nI 3 = (1 : Int32)) = False := by decide
    have b3 : (nI 3 ≤ (0 : Int32)) = False := by decide
    have b4 : (nI 3 = (2 : Int32)) = False := by decide
    have b5 : (nI 3 ≤ (1 : Int32)) = False := by decide
    have b6 : (nI 3 = nI 0) = False := by decide
    have b8 : (nI 3 = nI 1) = False := by decide
    have b7 : (nI 3 < (3 : Int32)) = False := by decide
    have b9 : (nI 0 = (0 : Int32)) = True := by decide
    refine ⟨xt1, ?_⟩
    rw [w1] at P3
    rw [w2] at P4 P6'
    rw [sL_holds_rec1]
    rw [w1, w2]
    by_cases cL : nI 0 ≤ zn i
    · rw [if_pos cL] at P6'
      simp only [c0, bd1_e, n0, if_false, P3, P4, P0, P2, P5', P6', q_mrg, q_jl, b1, b2, b3, b4, b5, b6, b7, b8, b9, cL, if_true, t00, t11, mm, rn, G1, bd2_e, hS, Int32.add_zero, i1]
    · rw [y3, q_le (by omega) (by omega)] at cL
      omega
theorem holds_party {l pl : List LT} {N d F : Nat} {lk la ll us sp zs zd zn zt zl zc sto sg pk pa pd br s : Nat → Int32} {hu cn gn cs : Int32} {ke lnn tl : Int32} (hN : N ≤ 16) (hd : d ≤ 365) (hh : HutR l pl N d F lk la ll us sp zs zd zn zt zl zc sto sg hu cn gn cs pk pa pd br s) (hQ : PI zn zt zl (nI N)) : ∀ (k i n : Nat) (v3 v4 v5 v6 : Int32) (xt : HutS), i + k = N → k < n → ∃ xt', gl6 (sL_holds_rec1 ke lnn tl (lk, la, ll, nI l.length, pk, pa, pd, nI pl.length, br, us, sp, zs, zd, zn, zt, zl, zc, nI N, sto, sg, nI d, nI F, hu, cn, gn, cs)) n (nI i) v3 v4 v5 v6 xt = gl3 (sL_holds_rec11 ke lnn tl (lk, la, ll, nI l.length, pk, pa, pd, nI pl.length, br, us, sp, zs, zd, zn, zt, zl, zc, nI N, sto, sg, nI d, nI F, hu, cn, gn, cs) (wS zl zs i k v3) (sumS zs zt (nI 1) i k v4) (sumS (fun _ => nI 1) zt (nI 1) i k v5) (sumS (fun _ => nI 1) zt (nI 0) i k v6)) gFU 0 0 xt' := by
  intro k
  induction k with
  | zero =>
    intro i n v3 v4 v5 v6 xt hi hn
    obtain ⟨n, rfl⟩ := Nat.exists_eq_succ_of_ne_zero (Nat.ne_of_gt hn)
    obtain ⟨c0, -⟩ := vH_count (ke := ke) (lnn := lnn) (tl := tl) hN hh
    refine ⟨xt, ?_⟩
    show sL_holds_rec1 ke lnn tl (lk, la, ll, nI l.length, pk, pa, pd, nI pl.length, br, us, sp, zs, zd, zn, zt, zl, zc, nI N, sto, sg, nI d, nI F, hu, cn, gn, cs) _ (nI i) v3 v4 v5 v6 xt = _
    rw [sL_holds_rec1]
    rw [c0, bd1_e, if_pos (show nI N ≤ nI i by rw [q_le (by omega) (by omega)]; omega)]
    rfl
  | succ k ih =>
    intro i n v3 v4 v5 v6 xt hi hn
    obtain ⟨n, rfl⟩ := Nat.exists_eq_succ_of_ne_zero (by omega : n ≠ 0)
    obtain ⟨xt1, e1⟩ := holds_one (ke := ke) (lnn := lnn) (tl := tl) hN hd hh hQ (show i < N by omega) (gl6 (sL_holds_rec1 ke lnn tl (lk, la, ll, nI l.length, pk, pa, pd, nI pl.length, br, us, sp, zs, zd, zn, zt, zl, zc, nI N, sto, sg, nI d, nI F, hu, cn, gn, cs)) n) v3 v4 v5 v6 xt
    obtain ⟨xt2, e2⟩ := ih (i + 1) n (v3 + zl i * zs i) (if zt i = nI 1 then v4 + zs i else v4) (if zt i = nI 1 then v5 + nI 1 else v5) (if zt i = nI 0 then v6 + nI 1 else v6) xt1 (by omega) (by omega)
    exact ⟨xt2, e1.trans e2⟩
def cK (c : Nat) : List LT → Nat
  | [] => 0
  | t :: r => (if t.1 = c then 1 else 0) + cK c r
theorem sumS_cK {f g h : Nat → Int32} {c : Nat} (hc : c ≤ 2) : ∀ (r : List LT) (i v : Nat), (∀ t ∈ r, t.1 ≤ 2) → CA f g h i r → sumS (fun _ => nI 1) f (nI c) i r.length (nI v) = nI (v + cK c r) := by
  intro r
  induction r with
  | nil => intro i v _ _; rfl
  | cons t r ih =>
    intro i v hb hc2
    obtain ⟨⟨d1, -, -⟩, d4⟩ := hc2
    have ht := hb t (List.mem_cons_self ..)
    show sumS (fun _ => nI 1) f (nI c) (i + 1) r.length (if f i = nI c then nI v + nI 1 else nI v) = nI (v + ((if t.1 = c then 1 else 0) + cK c r))
    rw [d1, nI_add]
    by_cases e : t.1 = c
    · rw [if_pos (congrArg nI e), if_pos e, ih (i + 1) (v + 1) (fun t ht => hb t (List.mem_cons_of_mem _ ht)) d4, Nat.add_assoc]
    · have ne : ¬ nI t.1 = nI c := by rw [q_eq (by omega) (by omega)]; exact e
      rw [if_neg ne, if_neg e, ih (i + 1) v (fun t ht => hb t (List.mem_cons_of_mem _ ht)) d4, Nat.zero_add]
theorem cK_sum : ∀ (r : List LT), (∀ t ∈ r, t.1 ≤ 2) → cK 0 r + cK 1 r + cK 2 r = r.length := by
  intro r
  induction r with
  | nil => intro _; rfl
  | cons t r ih =>
    intro hb
    have h := ih (fun t ht => hb t (List.mem_cons_of_mem _ ht))
    have ht := hb t (List.mem_cons_self ..)
    show (if t.1 = 0 then 1 else 0) + cK 0 r + ((if t.1 = 1 then 1 else 0) + cK 1 r) + ((if t.1 = 2 then 1 else 0) + cK 2 r) = r.length + 1
    rcases (show t.1 = 0 ∨ t.1 = 1 ∨ t.1 = 2 by omega) with q | q | q
    · rw [q, if_pos rfl, if_neg (by decide), if_neg (by decide)]
      omega
    · rw [q, if_neg (by decide), if_pos rfl, if_neg (by decide)]
      omega
    · rw [q, if_neg (by decide), if_neg (by decide), if_pos rfl]
      omega
theorem holds_kind {l pl : List LT} {N d F : Nat} {lk la ll us sp zs zd zn zt zl zc sto sg pk pa pd br s : Nat → Int32} {hu cn gn cs : Int32} {ke lnn tl : Int32} (hN : N ≤ 16) (hd : d ≤ 365) (hh : HutR l pl N d F lk la ll us sp zs zd zn zt zl zc sto sg hu cn gn cs pk pa pd br s) (hB : BI lk la (nI l.length) br us sp) {k a : Nat} (hk : k ≤ 2) (rc : Int32 → Int32 → HutS → Option (Int32 × HutS)) (v3 v4 : Int32) (xt : HutS) : ∃ xt', sL_holds_rec11 ke lnn tl (lk, la, ll, nI l.length, pk, pa, pd, nI pl.length, br, us, sp, zs, zd, zn, zt, zl, zc, nI N, sto, sg, nI d, nI F, hu, cn, gn, cs) v3 v4 (sumS (fun _ => nI 1) zt (nI 1) 0 N (nI 0)) (sumS (fun _ => nI 1) zt (nI 0) 0 N (nI 0)) rc (nI k) (nI a) xt = rc (nI (k + 1)) (nI (a + cK k l)) xt' := by
  obtain ⟨S0, S1, S2, S3, S4⟩ := vH_store hh hk
  obtain ⟨r, xt1, G, g⟩ := out_v hN hd hh hk xt
  obtain ⟨-, -, -, -, c4, -⟩ := vH_count (ke := ke) (lnn := lnn) (tl := tl) hN hh
  obtain ⟨hl, hlb, hlz, hcl, -⟩ := hh.1.1
  have hb := (BI_l hl (fun t ht => (hlb t ht).1) hcl).mp hB k hk
  rw [sumS_cK hk l 0 0 (fun t ht => (hlb t ht).1) hcl, Nat.zero_add] at S4
  have n3 : ¬ (3 : Int32) ≤ nI k := by rw [q_l3, q_le (by omega) (by omega)]; omega
  refine ⟨xt1, ?_⟩
  rw [sL_holds_rec11]
  rw [if_neg n3, S4, bd1_e, q_jl, G, bd2_e, S1, bd1_e, S0, bd1_e, S2, bd1_e, S3, bd1_e, if_pos hb, q_l1, nI_add, nI_add]
  rcases g with rfl | ⟨g1, g2, g3⟩
  · rw [if_pos rfl, q_jl]
  · rw [if_neg g2, c4, bd1_e, if_neg (Int32.not_lt.mpr g3), if_neg ?_, q_jl]
    obtain ⟨b0, e0, -, l0, z0⟩ := cnt_spec (g := zt) (c := nI 0) N 0 0
    obtain ⟨b1, e1, -, l1, z1⟩ := cnt_spec (g := zt) (c := nI 1) N 0 0
    rw [e0, e1, nI_add, q_l0, q_eq (by omega) (by omega)]
    intro q
    obtain ⟨j, j1, j2⟩ := g1
    rcases j2 with j2 | j2
    · exact z0.mp (by omega) j (Nat.zero_le _) (by omega) j2
    · exact z1.mp (by omega) j (Nat.zero_le _) (by omega) j2
theorem holds_v {x : HutS} {s : Nat → Int32} (ke lnn tl : Int32) (xt : HutS) (p2 : Int32) (h : HR x s) (hI : HI x) : ∃ xt', fL_holds ke lnn tl x xt p2 = some (1, xt') := by
  obtain ⟨l, pl, N, d, F, lk, la, ll, us, sp, zs, zd, zn, zt, zl, zc, sto, sg, hu, cn, gn, cs, pk, pa, pd, br, hN, hd, rfl, hh⟩ := h
  obtain ⟨hB, hQ, hG⟩ := hI
  have hB : BI lk la (nI l.length) br us sp := hB
  have hQ : PI zn zt zl (nI N) := hQ
  have hG : gn = wS zl zs 0 (nI N).toNatClampNeg (nI 0) := hG
  rw [q_cl (by omega)] at hG
  obtain ⟨c0, c1, c2, c3, c4, c6, c7, c8, c10, -⟩ := vH_count (ke := ke) (lnn := lnn) (tl := tl) hN hh
  obtain ⟨hl, hlb, hlz, hcl, -⟩ := hh.1.1
  have hsum := cK_sum l (fun t ht => (hlb t ht).1)
  have hp6 : pl.length ≤ 6 := hh.2.1.1
  unfold fL_holds
  rw [q_l0]
  obtain ⟨xt1, e1⟩ := holds_party (ke := ke) (lnn := lnn) (tl := tl) hN hd hh hQ N 0 gFU (nI 0) (nI 0) (nI 0) (nI 0) xt (Nat.zero_add _) (by unfold gFU; omega)
  rw [e1, ← hG]
  have hf : gFU = 4092 + 1 + 1 + 1 + 1 := rfl
  rw [hf]
  obtain ⟨xt2, e2⟩ := holds_kind (ke := ke) (lnn := lnn) (tl := tl) (k := 0) (a := 0) hN hd hh hB (by omega) (gl3 (sL_holds_rec11 ke lnn tl (lk, la, ll, nI l.length, pk, pa, pd, nI pl.length, br, us, sp, zs, zd, zn, zt, zl, zc, nI N, sto, sg, nI d, nI F, hu, cn, gn, cs) gn (sumS zs zt (nI 1) 0 N (nI 0)) (sumS (fun _ => nI 1) zt (nI 1) 0 N (nI 0)) (sumS (fun _ => nI 1) zt (nI 0) 0 N (nI 0))) (4092 + 1 + 1 + 1)) gn (sumS zs zt (nI 1) 0 N (nI 0)) xt1
  obtain ⟨xt3, e3⟩ := holds_kind (ke := ke) (lnn := lnn) (tl := tl) (k := 1) (a := 0 + cK 0 l) hN hd hh hB (by omega) (gl3 (sL_holds_rec11 ke lnn tl (lk, la, ll, nI l.length, pk, pa, pd, nI pl.length, br, us, sp, zs, zd, zn, zt, zl, zc, nI N, sto, sg, nI d, nI F, hu, cn, gn, cs) gn (sumS zs zt (nI 1) 0 N (nI 0)) (sumS (fun _ => nI 1) zt (nI 1) 0 N (nI 0)) (sumS (fun _ => nI 1) zt (nI 0) 0 N (nI 0))) (4092 + 1 + 1)) gn (sumS zs zt (nI 1) 0 N (nI 0)) xt2
  obtain ⟨xt4, e4⟩ := holds_kind (ke := ke) (lnn := lnn) (tl := tl) (k := 2) (a := 0 + cK 0 l + cK 1 l) hN hd hh hB (by omega) (gl3 (sL_holds_rec11 ke lnn tl (lk, la, ll, nI l.length, pk, pa, pd, nI pl.length, br, us, sp, zs, zd, zn, zt, zl, zc, nI N, sto, sg, nI d, nI F, hu, cn, gn, cs) gn (sumS zs zt (nI 1) 0 N (nI 0)) (sumS (fun _ => nI 1) zt (nI 1) 0 N (nI 0)) (sumS (fun _ => nI 1) zt (nI 0) 0 N (nI 0))) (4092 + 1)) gn (sumS zs zt (nI 1) 0 N (nI 0)) xt3
  refine ⟨xt4, ?_⟩
  refine Eq.trans e2 (Eq.trans e3 (Eq.trans e4 ?_))
  show sL_holds_rec11 ke lnn tl (lk, la, ll, nI l.length, pk, pa, pd, nI pl.length, br, us, sp, zs, zd, zn, zt, zl, zc, nI N, sto, sg, nI d, nI F, hu, cn, gn, cs) gn (sumS zs zt (nI 1) 0 N (nI 0)) (sumS (fun _ => nI 1) zt (nI 1) 0 N (nI 0)) (sumS (fun _ => nI 1) zt (nI 0) 0 N (nI 0)) _ (nI 3) (nI (0 + cK 0 l + cK 1 l + cK 2 l)) xt4 = _
  rw [sL_holds_rec11]
  rw [if_pos (show (3 : Int32) ≤ nI 3 by decide), c1, bd1_e, if_pos rfl, c2, bd1_e, if_pos rfl, c3, bd1_e, if_pos rfl, c10, bd1_e, if_pos rfl, if_neg (show ¬ (20 : Int32) < nI (0 + cK 0 l + cK 1 l + cK 2 l) by rw [q_l20, q_lt (by omega) (by omega)]; omega), c7, bd1_e, if_neg (show ¬ (6 : Int32) < nI pl.length by rw [q_l6, q_lt (by omega) (by omega)]; omega)]
