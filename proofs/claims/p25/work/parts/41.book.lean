/-! ===== bookings ===== -/
/-- what both hold stays the same where the reference's numbers do -/
theorem NightR.congr {l : List LT} {N d : Nat} {lk la ll us sp zs zd zn zt zl zc sto sg s s' : Nat → Int32} {hu cn gn cs : Int32} (h : NightR l N d lk la ll us sp zs zd zn zt zl zc sto sg hu cn gn cs s) (e : ∀ j, j < 599 → j ≠ 9 → s' j = s j) : NightR l N d lk la ll us sp zs zd zn zt zl zc sto sg hu cn gn cs s' := by
  obtain ⟨⟨hl, hlb, hlz, hcl, hml⟩, ⟨hN, h4, hp, hr, hl4⟩, hU, ⟨hS, hS2⟩, hT, h0, h5, h6, h7, h8⟩ := h
  refine ⟨⟨hl, hlb, hlz, hcl, ML_congr hl (e 2 (by omega) (by omega)) (fun j _ _ => e j (by omega) (by omega)) hml⟩, ⟨hN, (e 4 (by omega) (by omega)).trans h4, hp, fun j hj => ?_, fun j hj => (e _ (by omega) (by omega)).trans (hl4 j hj)⟩, fun k hk => ?_, ⟨fun k hk => (e _ (by omega) (by omega)).trans (hS k hk), hS2⟩, fun k hk => ?_, (e 0 (by omega) (by omega)).trans h0, (e 5 (by omega) (by omega)).trans h5, (e 6 (by omega) (by omega)).trans h6, (e 7 (by omega) (by omega)).trans h7, (e 8 (by omega) (by omega)).trans h8⟩
  · obtain ⟨a1, a2, a3, a4, a5⟩ := hr j hj
    exact ⟨(e _ (by omega) (by omega)).trans a1, (e _ (by omega) (by omega)).trans a2, (e _ (by omega) (by omega)).trans a3, (e _ (by omega) (by omega)).trans a4, (e _ (by omega) (by omega)).trans a5⟩
  · exact ⟨(e _ (by omega) (by omega)).trans (hU k hk).1, (e _ (by omega) (by omega)).trans (hU k hk).2⟩
  · exact ⟨(e _ (by omega) (by omega)).trans (hT k hk).1, (hT k hk).2⟩
theorem m_adds {s : Nat → Int32} {N : Nat} {p1 p2 p3 : Int32} (h4 : s 4 = nI N) (hN : N ≤ 16) : fX7_adds s p1 p2 p3 = some (upd (upd (upd (upd (upd (upd (upd s 4 (nI (N + 1))) (101 + 6 * N) p1) (101 + 6 * N + 1) p2) (101 + 6 * N + 2) p3) (101 + 6 * N + 3) (nI 0)) (101 + 6 * N + 4) (nI 0)) (101 + 6 * N + 5) (nI 0)) := by
  unfold fX7_adds
  simp (disch := omega) only [q_l4, q_gd, q_cl, h4, q_jl, q_l1, nI_add, q_l0, q_l2, q_l3, q_l5, m_setParty, bd1_e, Nat.add_zero]
theorem p_add {zs zd zn zt zl zc : Nat → Int32} {N : Nat} {p1 p2 p3 : Int32} (hN : N ≤ 16) : fX2_add zs zd zn zt zl zc (nI N) p1 p2 p3 = some (upd zs N p1, upd zd N p2, upd zn N p3, upd zt N (nI 0), upd zl N (nI 0), upd zc N (-1), nI (N + 1)) := by
  have ngt : ¬ 17 ≤ N := by omega
  have lt : N < 17 := by omega
  unfold fX2_add
  simp (disch := omega) only [q_l17, q_le, q_lt, ngt, lt, if_false, if_true, q_gd, q_cl, q_jl, q_l0, q_l1, nI_add]
theorem add_sim {l : List LT} {N d a b c : Nat} {lk la ll us sp zs zd zn zt zl zc sto sg s : Nat → Int32} {hu cn gn cs : Int32} (hN : N ≤ 16) (h : NightR l N d lk la ll us sp zs zd zn zt zl zc sto sg hu cn gn cs s) (ha : 1 ≤ a ∧ a ≤ 6) (hb : b ≤ 365) (hc : 1 ≤ c ∧ c ≤ 9) :
    ∃ s', fX7_adds s (nI a) (nI b) (nI c) = some s' ∧ NightR l (N + 1) d lk la ll us sp (upd zs N (nI a)) (upd zd N (nI b)) (upd zn N (nI c)) (upd zt N (nI 0)) (upd zl N (nI 0)) (upd zc N (-1)) sto sg hu cn gn cs s' ∧ (∀ j, j ≠ 4 → j < 101 ∨ 203 ≤ j → s' j = s j) ∧ s' 4 = nI (N + 1) := by
  obtain ⟨⟨hl, hlb, hlz, hcl, hml⟩, ⟨hN17, h4, hp, hr, hl4⟩, hU, ⟨hS, hS2⟩, hT, h0, h5, h6, h7, h8⟩ := h
  have hm1 : (-1 : Int32) + nI 1 = nI 0 := by decide
  refine ⟨_, m_adds h4 hN, ⟨⟨hl, hlb, hlz, hcl, ML_congr hl ?_ (fun j _ _ => ?_) hml⟩, ⟨by omega, ?_, fun j hj => ?_, fun j hj => ?_, fun j hj => ?_⟩, fun k hk => ⟨?_, ?_⟩, ⟨fun k hk => ?_, hS2⟩, fun k hk => ⟨?_, (hT k hk).2⟩, ?_, ?_, ?_, ?_, ?_⟩, fun j j1 j2 => ?_, ?_⟩
  · simp (disch := omega) only [pk_un]
  · simp (disch := omega) only [pk_un]
  · simp (disch := omega) only [pk_un, pk_us]
  · by_cases e : j = N
    · subst e
      simp (disch := omega) only [pk_us]
      exact ⟨⟨a, b, c, ha.1, ha.2, rfl, hb, rfl, hc.1, hc.2, rfl⟩, Or.inl ⟨rfl, rfl, hm1⟩⟩
    · simp (disch := omega) only [pk_un]
      exact hp j (by omega)
  · by_cases e : j = N
    · subst e
      simp (disch := omega) only [pk_us, pk_un, hm1, and_self]
    · obtain ⟨a1, a2, a3, a4, a5⟩ := hr j (by omega)
      simp (disch := omega) only [pk_un, a1, a2, a3, a4, a5, and_self]
  · by_cases e : j = N
    · subst e
      simp (disch := omega) only [pk_us, pk_un]
    · simp (disch := omega) only [pk_un]
      exact hl4 j (by omega)
  · simp (disch := omega) only [pk_un]
    exact (hU k hk).1
  · simp (disch := omega) only [pk_un]
    exact (hU k hk).2
  · simp (disch := omega) only [pk_un]
    exact hS k hk
  · simp (disch := omega) only [pk_un]
    exact (hT k hk).1
  · simp (disch := omega) only [pk_un]
    exact h0
  · simp (disch := omega) only [pk_un]
    exact h5
  · simp (disch := omega) only [pk_un]
    exact h6
  · simp (disch := omega) only [pk_un]
    exact h7
  · simp (disch := omega) only [pk_un]
    exact h8
  · simp (disch := omega) only [pk_un]
  · simp (disch := omega) only [pk_un, pk_us]
/-- a hut is copied as it is -/
theorem p_copy {sto lk la ll pk pa pd br us sp zs zd zn zt zl zc sg : Nat → Int32} {lots onp nm dy fl hu cn gn cs : Int32} (h : ∀ k, k < 396 → sto k = 0 ∨ sto k = 1) : fX1_copyFrom lk la ll lots pk pa pd onp br us sp zs zd zn zt zl zc nm sto sg dy fl hu cn gn cs = some (lk, la, ll, lots, pk, pa, pd, onp, br, us, sp, zs, zd, zn, zt, zl, zc, nm, sto, sg, dy, fl, hu, cn, gn, cs) := by
  have hz : fzB sto 396 = true := by
    unfold fzB
    rw [List.all_eq_true]
    intro k hk
    rcases h k (List.mem_range.mp hk) with w | w
    · rw [w]; decide
    · rw [w]; decide
  unfold fX1_copyFrom fX4_copyFrom fX2_copyFrom
  rw [bd11_e, bd7_e, hz]
  rfl
/-- whether a booking is taken: both programs -/
theorem taken_sim {l : List LT} {N d a b c : Nat} {lk la ll us sp zs zd zn zt zl zc sto sg s asd : Nat → Int32} {hu cn gn cs : Int32} (hN : N ≤ 16) (hd : d ≤ 365) (h : NightR l N d lk la ll us sp zs zd zn zt zl zc sto sg hu cn gn cs s) (ha : 1 ≤ a ∧ a ≤ 6) (hb : b ≤ 365) (hc : 1 ≤ c ∧ c ≤ 9) :
    ∃ ans lots' lk' la' ll' us' sp' zs' zd' zn' zt' zl' zc' nm' dy' hu' cn' gn' cs' s' asd', fX1_wouldSuffice lk la ll (nI l.length) us sp zs zd zn zt zl zc (nI N) sto sg (nI d) hu cn gn cs (nI a) (nI b) (nI c) = some (ans, lk', la', ll', lots', us', sp', zs', zd', zn', zt', zl', zc', nm', dy', hu', cn', gn', cs') ∧ fX7_isTaken s asd (nI a) (nI b) (nI c) = some (ans, s', asd') ∧ (∀ j, j < 599 → s' j = s j) ∧ (ans = nI 0 ∨ ans = nI 1) := by
  -- the reference sets all of it aside
  obtain ⟨asd', q1, q2⟩ : ∃ asd', fX7_isTaken s asd (nI a) (nI b) (nI c) = (bd1 (fX7_adds s (nI a) (nI b) (nI c)) fun ss5 => gl2 (sX7_isTaken_rec7 asd') gFU (1 : Int32) ss5) ∧ (∀ j, j < 599 → asd' j = s j) := by
    refine Exists.elim (scat_up (st := sX7_isTaken_rec1 s (nI a) (nI b) (nI c)) (out := fun asd3 => bd1 (fX7_adds s (nI a) (nI b) (nI c)) fun ss5 => gl2 (sX7_isTaken_rec7 asd3) gFU (1 : Int32) ss5) (fun k => k) (fun k _ => s k) 0 599 (fun _ => True) (fun _ _ _ _ _ _ => trivial) (fun rec a _ => ?_) (fun rec i a _ hi _ => ?_) (fun _ _ _ _ h => h) (fun _ _ _ _ _ _ _ => rfl) 599 0 gFU asd (Nat.le_refl _) (by omega) (by unfold gFU; omega) trivial) (fun a ⟨g1, _, g2, g3⟩ => ?_)
    · simp (disch := omega) only [sX7_isTaken_rec1, q_l599, q_le, Nat.le_refl, if_true]
    · simp (disch := omega) only [sX7_isTaken_rec1, q_l599, q_le, if_neg (Nat.not_le.mpr hi), q_gd, q_cl, q_jl, q_l1, nI_add]
    · refine ⟨a, ?_, fun j hj => g2 j (Nat.zero_le _) hj⟩
      unfold fX7_isTaken
      rw [q_l0]
      exact g1
  obtain ⟨s1, e1, e2, e3, e4⟩ := add_sim hN h ha hb hc
  obtain ⟨ans, lots', lk', la', ll', us', sp', zt', zl', zc', dy', hu', cn', gn', cs', s', f1, f2, f3, f4⟩ := take_loop2 (asd := asd') (396 - d) 0 gFU gFU d l lk la ll us sp _ _ _ hu cn gn cs s1 (by omega) (Nat.zero_le _) (by unfold gFU; omega) (by unfold gFU; omega) (fun q => absurd q (by omega)) ((e3 5 (by omega) (by omega)).trans (q2 5 (by omega)).symm) ((e3 6 (by omega) (by omega)).trans (q2 6 (by omega)).symm) ((e3 9 (by omega) (by omega)).trans (q2 9 (by omega)).symm) e2
  refine ⟨ans, lots', lk', la', ll', us', sp', upd zs N (nI a), upd zd N (nI b), upd zn N (nI c), zt', zl', zc', nI (N + 1), dy', hu', cn', gn', cs', s', asd', ?_, ?_, fun j hj => (f3 j hj).trans (q2 j hj), f4⟩
  · unfold fX1_wouldSuffice
    rw [p_add hN, bd7_e, ← f1, q_l0]
  · rw [q1, e1, bd1_e, q_l1]
    exact f2
