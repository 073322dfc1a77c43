/-! ===== what there is: lots, stores, parties, counts ===== -/
theorem in_c (p : Int32) {lo hi : Nat} (hlo : lo < 2 ^ 20) (hhi : hi < 2 ^ 20) : (∃ k, lo ≤ k ∧ k ≤ hi ∧ p = nI k ∧ fX7_in p (nI lo) (nI hi) = some (nI 1)) ∨ (fX7_in p (nI lo) (nI hi) = some (nI 0) ∧ (p < nI lo ∨ nI hi < p)) := by
  rcases m_in p hlo hhi with ⟨a1, a2⟩ | ⟨k, a1, rfl, a2, a3⟩
  · exact Or.inr ⟨a2, Or.inl a1⟩
  · by_cases c : k ≤ hi
    · rw [if_pos c] at a3
      exact Or.inl ⟨k, a2, c, rfl, a3⟩
    · rw [if_neg c] at a3
      exact Or.inr ⟨a3, Or.inr (by rw [q_lt (by omega) a1]; omega)⟩
theorem kind_c (p : Int32) : (∃ k, k ≤ 2 ∧ p = nI k ∧ fX4_isKind p = some (nI 1) ∧ fX7_in p (nI 0) (nI 2) = some (nI 1)) ∨ (fX4_isKind p = some (nI 0) ∧ fX7_in p (nI 0) (nI 2) = some (nI 0)) := by
  unfold fX4_isKind
  rcases m_in p (lo := 0) (hi := 2) (by omega) (by omega) with ⟨a1, a2⟩ | ⟨k, a1, rfl, a2, a3⟩
  · refine Or.inr ⟨?_, a2⟩
    rw [q_l0, if_pos a1]
  · have k0 : ¬ k < 0 := by omega
    by_cases c : k ≤ 2
    · rw [if_pos c] at a3
      have k1 : ¬ 3 ≤ k := by omega
      refine Or.inl ⟨k, c, rfl, ?_, a3⟩
      simp (disch := omega) only [q_l0, q_l1, q_l3, q_lt, q_le, k0, k1, if_false]
    · rw [if_neg c] at a3
      have k1 : 3 ≤ k := by omega
      refine Or.inr ⟨?_, a3⟩
      simp (disch := omega) only [q_l0, q_l1, q_l3, q_lt, q_le, k0, k1, if_false, if_true]
theorem CA_get2 {f g h f2 g2 h2 : Nat → Int32} : ∀ (r : List LT) (i : Nat), CA f g h i r → CA f2 g2 h2 i r → ∀ j, j < r.length → ∃ t, t ∈ r ∧ (f (i + j) = nI t.1 ∧ g (i + j) = nI t.2.1 ∧ h (i + j) = nI t.2.2) ∧ f2 (i + j) = nI t.1 ∧ g2 (i + j) = nI t.2.1 ∧ h2 (i + j) = nI t.2.2 := by
  intro r
  induction r with
  | nil => intro i _ _ j hj; exact absurd hj (by simp)
  | cons t r ih =>
    intro i c1 c2 j hj
    obtain ⟨a1, a2⟩ := c1
    obtain ⟨b1, b2⟩ := c2
    by_cases e : j = 0
    · subst e
      exact ⟨t, List.mem_cons_self .., a1, b1⟩
    · have hl : (t :: r).length = r.length + 1 := rfl
      obtain ⟨u, u1, u2, u3⟩ := ih (i + 1) a2 b2 (j - 1) (by omega)
      have ej : i + 1 + (j - 1) = i + j := by omega
      rw [ej] at u2 u3
      exact ⟨u, List.mem_cons_of_mem _ u1, u2, u3⟩
theorem LotR.get {l : List LT} {lk la ll s : Nat → Int32} (h : LotR l lk la ll s) {k : Nat} (hk : k < l.length) : ∃ t, lotB t ∧ (lk k = nI t.1 ∧ la k = nI t.2.1 ∧ ll k = nI t.2.2) ∧ s (41 + 3 * k) = nI t.1 ∧ s (41 + 3 * k + 1) = nI t.2.1 ∧ s (41 + 3 * k + 2) = nI t.2.2 := by
  obtain ⟨hl, hlb, hlz, hcl, hml⟩ := h
  obtain ⟨t, t1, t2, t3⟩ := CA_get2 l 0 hcl hml.2 k hk
  rw [Nat.zero_add] at t2 t3
  exact ⟨t, hlb t t1, t2, t3⟩
theorem lot_sim {x : HutS} {s : Nat → Int32} (p1 p2 p3 : Int32) (h : HR x s) : ∃ r, fX6_lotOf x p1 p2 p3 = some r ∧ fX7_lotOf s p1 p2 p3 = some r := by
  have d10 : ¬ nI 1 = nI 0 := by decide
  obtain ⟨l, pl, N, d, F, lk, la, ll, us, sp, zs, zd, zn, zt, zl, zc, sto, sg, hu, cn, gn, cs, pk, pa, pd, br, hN, hd, rfl, hh⟩ := h
  have hL := hh.1.1
  have hl20 : l.length ≤ 20 := hL.1
  unfold fX6_lotOf fX7_lotOf
  dsimp only
  rcases kind_c p1 with ⟨k, k1, rfl, k2, k3⟩ | ⟨k2, k3⟩
  · rw [k2, bd1_e, q_l0, if_neg d10, q_l2, k3, bd1_e, if_neg d10]
    by_cases c2 : p2 < nI 0
    · refine ⟨-1, ?_, if_pos c2⟩
      have n2 : ¬ nI 0 ≤ p2 := Int32.not_le.mpr c2
      simp only [n2, if_false, ite_self]
    · obtain ⟨P, hP, rfl⟩ := nI_of (show ¬ p2 < 0 by rw [q_l0]; exact c2)
      rw [if_neg c2]
      rcases in_c p3 (lo := 0) (hi := 1) (by omega) (by omega) with ⟨j, j1, j2, rfl, j3⟩ | ⟨j3, j4⟩
      · have z1 : ¬ j < 0 := by omega
        have z2 : ¬ 1 < j := by omega
        have z3 : 0 ≤ P := by omega
        obtain ⟨f, g, f1, f2, f3⟩ := find_loop (N := l.length) (c := k) (P := P) (j := j) (lk := lk) (s := s) hl20 k1 hP j2 hL.2.2.2.2.1 (fun q hq => by
          obtain ⟨t, t1, t2, t3⟩ := hL.get hq
          exact ⟨t.1, t1.1, t2.1, t3.1⟩) l.length 0 gFU gFU 0 P (Nat.zero_add _) (by unfold gFU; omega) (by unfold gFU; omega) (Nat.zero_add _)
        have f1' : fX4_find lk (nI l.length) (nI k) (nI P) = some f := by
          unfold fX4_find
          rw [q_l0]
          exact f1
        rw [q_l1, j3, bd1_e, if_neg d10, f1', bd1_e]
        rw [if_neg (show ¬ nI j < nI 0 by rw [q_lt (by omega) (by omega)]; exact z1), if_neg (show ¬ nI 1 < nI j by rw [q_lt (by omega) (by omega)]; exact z2), if_pos (show nI 0 ≤ nI P by rw [q_le (by omega) (by omega)]; exact z3)]
        rcases f3 with ⟨rfl, rfl⟩ | ⟨z, hz, rfl, hg⟩
        · exact ⟨-4, by rw [if_neg (by decide)], f2⟩
        · rw [if_pos (show nI 0 ≤ nI z by rw [q_le (by omega) (by omega)]; omega)]
          obtain ⟨t, t1, ⟨t2, t3, t4⟩, t5, t6, t7⟩ := hL.get hz
          by_cases ej : j = 0
          · subst ej
            refine ⟨la z, ?_, ?_⟩
            · rw [if_pos rfl, q_gd (by omega) (by omega), q_cl (by omega)]
            · rw [f2, hg, t3]
              exact congrArg some t6
          · have e1 : j = 1 := by omega
            subst e1
            refine ⟨ll z, ?_, ?_⟩
            · rw [if_neg (by decide), q_gd (by omega) (by omega), q_cl (by omega)]
            · rw [f2, hg, t4]
              exact congrArg some t7
      · refine ⟨-1, ?_, ?_⟩
        · rcases j4 with j4 | j4
          · rw [if_pos j4]
          · by_cases j5 : p3 < nI 0
            · rw [if_pos j5]
            · rw [if_neg j5, q_l1, if_pos j4]
        · rw [q_l1, j3, bd1_e, if_pos rfl]
  · exact ⟨-1, by rw [k2, bd1_e, q_l0, if_pos rfl], by rw [q_l0, q_l2, k3, bd1_e, if_pos rfl]⟩
theorem store_sim {x : HutS} {s : Nat → Int32} (p1 p2 : Int32) (h : HR x s) : ∃ r, fX6_storeOf x p1 p2 = some r ∧ fX7_storeOf s p1 p2 = some r := by
  have d10 : ¬ nI 1 = nI 0 := by decide
  obtain ⟨l, pl, N, d, F, lk, la, ll, us, sp, zs, zd, zn, zt, zl, zc, sto, sg, hu, cn, gn, cs, pk, pa, pd, br, hN, hd, rfl, hh⟩ := h
  have hL := hh.1.1
  have hl20 : l.length ≤ 20 := hL.1
  unfold fX6_storeOf fX7_storeOf
  dsimp only
  rcases kind_c p1 with ⟨k, k1, rfl, k2, k3⟩ | ⟨k2, k3⟩
  · rw [k2, bd1_e, q_l0, if_neg d10, q_l2, k3, bd1_e, if_neg d10]
    obtain ⟨t1, t2, t3⟩ := hh.1.stock k1
    rcases in_c p2 (lo := 0) (hi := 5) (by omega) (by omega) with ⟨w, w1, w2, rfl, w3⟩ | ⟨w3, w4⟩
    · rw [q_l5, w3, bd1_e, if_neg d10]
      rcases (show w = 0 ∨ w = 1 ∨ w = 2 ∨ w = 3 ∨ w = 4 ∨ w = 5 by omega) with rfl | rfl | rfl | rfl | rfl | rfl
      · exact ⟨nI (stN k l), by rw [if_pos rfl, t1, bd1_e], by rw [if_pos rfl, t2, bd1_e]⟩
      · refine ⟨br k, ?_, ?_⟩
        · rw [if_neg (by decide), if_pos (by decide), q_gd (by omega) (by omega), q_cl (by omega)]
        · rw [if_neg (by decide), if_pos (by decide)]
          have e : (14 : Int32) + 3 * nI 1 - 3 = nI 14 := by decide
          rw [e, nI_add, q_gd (by omega) (by omega), q_cl (by omega)]
          exact congrArg some (hh.2.2.1 k k1)
      · refine ⟨us k, ?_, ?_⟩
        · rw [if_neg (by decide), if_neg (by decide), if_pos (by decide), q_gd (by omega) (by omega), q_cl (by omega)]
        · rw [if_neg (by decide), if_neg (by decide), if_pos (by decide)]
          have e : (14 : Int32) + 3 * nI 2 - 3 = nI 17 := by decide
          rw [e, nI_add, q_gd (by omega) (by omega), q_cl (by omega)]
          exact congrArg some (hh.1.2.2.1 k k1).1
      · refine ⟨sp k, ?_, ?_⟩
        · rw [if_neg (by decide), if_neg (by decide), if_neg (by decide), if_pos (by decide), q_gd (by omega) (by omega), q_cl (by omega)]
        · rw [if_neg (by decide), if_neg (by decide), if_neg (by decide), if_pos (by decide)]
          have e : (14 : Int32) + 3 * nI 3 - 3 = nI 20 := by decide
          rw [e, nI_add, q_gd (by omega) (by omega), q_cl (by omega)]
          exact congrArg some (hh.1.2.2.1 k k1).2
      · refine ⟨sumS (fun _ => nI 1) lk (nI k) 0 l.length (nI 0), ?_, ?_⟩
        · rw [if_neg (by decide), if_neg (by decide), if_neg (by decide), if_neg (by decide), if_pos (by decide), p_lotsOfKind hl20, bd1_e]
        · rw [if_neg (by decide), if_neg (by decide), if_neg (by decide), if_neg (by decide), if_pos (by decide), m_lotsOf hL.2.2.2.2.1 hl20, bd1_e]
          refine congrArg some (sumS_congr _ 0 _ (fun j _ hj => ⟨rfl, ?_⟩))
          obtain ⟨t, _, y1, y2⟩ := hL.get (k := j) (by omega)
          exact y2.1.trans y1.1.symm
      · have hp6 : pl.length ≤ 6 := hh.2.1.1
        refine ⟨sumS pa pk (nI k) 0 pl.length (nI 0), ?_, ?_⟩
        · rw [if_neg (by decide), if_neg (by decide), if_neg (by decide), if_neg (by decide), if_neg (by decide), if_pos (by decide), p_amountOnPallet hp6, bd1_e]
        · rw [if_neg (by decide), if_neg (by decide), if_neg (by decide), if_neg (by decide), if_neg (by decide), m_loadedOf hh.2.1.2.2.2.1 hp6, bd1_e]
          refine congrArg some (sumS_congr _ 0 _ (fun j _ hj => ?_))
          obtain ⟨t, _, y1, y2⟩ := CA_get2 pl 0 hh.2.1.2.2.1 hh.2.1.2.2.2.2 j (by omega)
          rw [Nat.zero_add] at y1 y2
          exact ⟨y2.2.1.trans y1.2.1.symm, y2.1.trans y1.1.symm⟩
    · refine ⟨-1, ?_, by rw [q_l5, w3, bd1_e, if_pos rfl]⟩
      have no : ∀ v, v ≤ 5 → p2 ≠ nI v := by
        rintro v hv rfl
        rcases w4 with w4 | w4
        · rw [q_lt (by omega) (by omega)] at w4; omega
        · rw [q_lt (by omega) (by omega)] at w4; omega
      rw [if_neg (no 0 (by omega)), q_l1, if_neg (no 1 (by omega)), if_neg (no 2 (by omega)), q_l3, if_neg (no 3 (by omega)), q_l4, if_neg (no 4 (by omega)), q_l5, if_neg (no 5 (by omega))]
  · exact ⟨-1, by rw [k2, bd1_e, q_l0, if_pos rfl], by rw [q_l0, q_l2, k3, bd1_e, if_pos rfl]⟩
theorem party_sim {x : HutS} {s : Nat → Int32} (p1 p2 : Int32) (h : HR x s) : ∃ r, fX6_partyOf x p1 p2 = some r ∧ fX7_partyOf s p1 p2 = some r := by
  have d10 : ¬ nI 1 = nI 0 := by decide
  obtain ⟨l, pl, N, d, F, lk, la, ll, us, sp, zs, zd, zn, zt, zl, zc, sto, sg, hu, cn, gn, cs, pk, pa, pd, br, hN, hd, rfl, hh⟩ := h
  obtain ⟨hN17, h4, hp, hr, hl⟩ := hh.1.2.1
  unfold fX6_partyOf fX7_partyOf
  dsimp only
  have mP := m_isParty p1 h4 hN17
  have pP := p_has (N := N) p1
  generalize hv : (if p1 < 0 then nI 0 else if nI N ≤ p1 then nI 0 else nI 1) = v at mP pP
  rw [mP, pP, bd1_e, bd1_e]
  by_cases c : 0 ≤ p1 ∧ p1 < nI N
  · have hp0 : ¬ p1 < 0 := Int32.not_lt.mpr c.1
    obtain ⟨k, hk, rfl⟩ := nI_of hp0
    have hkN : k < N := by
      have := c.2
      rw [q_lt hk (by omega)] at this
      exact this
    rw [if_neg hp0, if_neg (Int32.not_le.mpr c.2)] at hv
    subst hv
    rw [q_l0, if_neg d10, if_neg d10]
    obtain ⟨r1, r2, r3, r4, r5⟩ := hr k hkN
    have r6 := hl k hkN
    have gk : ∀ {α : Type} (y : Option α), gd (inB (nI k) 17) y = y := fun y => q_gd (by omega) (by omega)
    have ck : (nI k).toNatClampNeg = k := q_cl (by omega)
    rcases in_c p2 (lo := 0) (hi := 6) (by omega) (by omega) with ⟨w, w1, w2, rfl, w3⟩ | ⟨w3, w4⟩
    · rw [q_l6, w3, bd1_e, if_neg d10, q_l4, m_ofParty (by omega) (by omega), bd1_e, q_l2, m_ofParty (by omega) (by omega), bd1_e, q_jl, r6, r3, ck]
      rcases (show w = 0 ∨ w = 1 ∨ w = 2 ∨ w = 3 ∨ w = 4 ∨ w = 5 ∨ w = 6 by omega) with rfl | rfl | rfl | rfl | rfl | rfl | rfl
      · refine ⟨zs k, by rw [if_pos rfl, gk], ?_⟩
        rw [if_neg (by decide), if_neg (by decide), m_ofParty (by omega) (by omega), bd1_e]
        exact congrArg some r1
      · refine ⟨zd k, by rw [if_neg (by decide), if_pos (by decide), gk], ?_⟩
        rw [if_neg (by decide), if_neg (by decide), m_ofParty (by omega) (by omega), bd1_e]
        exact congrArg some r2
      · refine ⟨zn k, by rw [if_neg (by decide), if_neg (by decide), if_pos (by decide), gk], ?_⟩
        rw [if_neg (by decide), if_neg (by decide), m_ofParty (by omega) (by omega), bd1_e]
        exact congrArg some r3
      · refine ⟨zt k, by rw [if_neg (by decide), if_neg (by decide), if_neg (by decide), if_pos (by decide), gk], ?_⟩
        rw [if_neg (by decide), if_neg (by decide), m_ofParty (by omega) (by omega), bd1_e]
        exact congrArg some r4
      · refine ⟨zl k, by rw [if_neg (by decide), if_neg (by decide), if_neg (by decide), if_neg (by decide), if_pos (by decide), gk], ?_⟩
        rw [if_neg (by decide), if_neg (by decide), m_ofParty (by omega) (by omega), bd1_e]
        exact congrArg some r6
      · rw [if_neg (by decide), if_neg (by decide), if_neg (by decide), if_neg (by decide), if_neg (by decide), if_pos (show nI 5 = (5 : Int32) by decide), gk, if_pos (show nI 5 = (5 : Int32) by decide), q_l5, m_ofParty (by omega) (by omega), bd1_e, r5]
        have hz : zc k + nI 1 = nI 0 ∨ ∃ c, c ≤ 374 ∧ zc k = nI c := by
          rcases (hp k hkN).2 with ⟨_, _, q⟩ | ⟨c, L, _, _, q, _, q2⟩ | ⟨c, L, _, _, q, q2, _⟩ | ⟨_, _, q⟩
          · exact Or.inl q
          · exact Or.inr ⟨c, by omega, q⟩
          · exact Or.inr ⟨c, by omega, q⟩
          · exact Or.inl q
        rcases hz with q | ⟨c, q1, q2⟩
        · have e : zc k = -1 := by
            have e1 : zc k + nI 1 - nI 1 = zc k := Int32.add_sub_cancel ..
            rw [← e1, q]
            decide
          refine ⟨-nI 4, ?_, by rw [if_pos q]⟩
          rw [if_neg (show ¬ nI 0 ≤ zc k by rw [e]; decide)]
        · refine ⟨nI c, ?_, ?_⟩
          · rw [if_pos (show nI 0 ≤ zc k by rw [q2, q_le (by omega) (by omega)]; omega), q2]
          · rw [q2, nI_add, if_neg (by rw [q_eq (by omega) (by omega)]; omega), bd1_e, q_l1, q_dec2 (by omega)]
      · rw [if_neg (by decide), if_neg (by decide), if_neg (by decide), if_neg (by decide), if_neg (by decide), if_neg (by decide), if_pos (by decide), gk, if_neg (show ¬ nI 6 = (5 : Int32) by decide), if_pos (show nI 6 = nI 6 from rfl)]
        obtain ⟨⟨z, dd, nn, _, _, _, _, _, y1, y2, y3⟩, y4⟩ := hp k hkN
        have hz : ∃ L, L ≤ 365 ∧ zl k = nI L := by
          rcases y4 with ⟨_, q, _⟩ | ⟨c, L, _, q, _, q2, _⟩ | ⟨c, L, _, q, _, _, q2⟩ | ⟨_, q, _⟩
          · exact ⟨0, by omega, q⟩
          · exact ⟨L, by omega, q⟩
          · exact ⟨L, by omega, q⟩
          · exact ⟨0, by omega, q⟩
        obtain ⟨L, hL1, hL2⟩ := hz
        by_cases cL : nn ≤ L
        · have hz : zl k - zn k = nI (L - nn) := by rw [hL2, y3, q_subn cL (by omega)]
          refine ⟨nI (L - nn), ?_, ?_⟩
          · by_cases c0 : 0 < L - nn
            · rw [if_pos (show nI 0 < zl k - zn k by rw [hz, q_lt (by omega) (by omega)]; exact c0), hz]
            · rw [if_neg (show ¬ nI 0 < zl k - zn k by rw [hz, q_lt (by omega) (by omega)]; exact c0), show L - nn = 0 by omega]
          · rw [if_pos (show nI 0 ≤ zl k - zn k by rw [hz, q_le (by omega) (by omega)]; omega), hz]
        · have hneg : zl k - zn k < nI 0 := by
            rw [hL2, y3, ← q_l0]
            exact pk_sneg (by omega) (by omega)
          refine ⟨nI 0, ?_, ?_⟩
          · rw [if_neg (show ¬ nI 0 < zl k - zn k from Int32.not_lt.mpr (Int32.le_of_lt hneg))]
          · rw [if_neg (show ¬ nI 0 ≤ zl k - zn k from Int32.not_le.mpr hneg)]
    · refine ⟨-1, ?_, by rw [q_l6, w3, bd1_e, if_pos rfl]⟩
      have no : ∀ v, v ≤ 6 → p2 ≠ nI v := by
        rintro v hv rfl
        rcases w4 with w4 | w4
        · rw [q_lt (by omega) (by omega)] at w4; omega
        · rw [q_lt (by omega) (by omega)] at w4; omega
      rw [if_neg (no 0 (by omega)), q_l1, if_neg (no 1 (by omega)), q_l2, if_neg (no 2 (by omega)), q_l3, if_neg (no 3 (by omega)), q_l4, if_neg (no 4 (by omega)), q_l5, if_neg (no 5 (by omega)), q_l6, if_neg (no 6 (by omega))]
  · have hv0 : v = nI 0 := by
      rw [← hv]
      by_cases q : p1 < 0
      · rw [if_pos q]
      · rw [if_neg q]
        by_cases q2 : nI N ≤ p1
        · rw [if_pos q2]
        · exact absurd ⟨Int32.not_lt.mp q, Int32.not_le.mp q2⟩ c
    subst hv0
    exact ⟨-1, by rw [q_l0, if_pos rfl], by rw [q_l0, if_pos rfl]⟩
