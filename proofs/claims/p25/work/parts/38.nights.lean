/-! ===== nights one after the other ===== -/
theorem cnt_spec {g : Nat → Int32} {c : Int32} : ∀ (k i a : Nat), ∃ b, sumS (fun _ => nI 1) g c i k (nI a) = nI b ∧ a ≤ b ∧ b ≤ a + k ∧ (b = a ↔ ∀ j, i ≤ j → j < i + k → g j ≠ c) := by
  intro k
  induction k with
  | zero => intro i a; exact ⟨a, rfl, Nat.le_refl _, Nat.le_refl _, fun _ j h1 h2 => absurd h2 (by omega), fun _ => rfl⟩
  | succ k ih =>
    intro i a
    show ∃ b, sumS (fun _ => nI 1) g c (i + 1) k (if g i = c then nI a + nI 1 else nI a) = nI b ∧ _
    by_cases h : g i = c
    · rw [if_pos h, nI_add]
      obtain ⟨b, h1, h2, h3, h4⟩ := ih (i + 1) (a + 1)
      exact ⟨b, h1, by omega, by omega, fun q => absurd q (by omega), fun q => absurd h (q i (Nat.le_refl _) (by omega))⟩
    · rw [if_neg h]
      obtain ⟨b, h1, h2, h3, h4⟩ := ih (i + 1) a
      refine ⟨b, h1, h2, by omega, fun q j j1 j2 => ?_, fun q => h4.mpr (fun j j1 j2 => q j (by omega) (by omega))⟩
      by_cases e : j = i
      · rw [e]; exact h
      · exact h4.mp q j (by omega) (by omega)
def Awt (N : Nat) (zt : Nat → Int32) : Prop := ∃ j, j < N ∧ (zt j = nI 0 ∨ zt j = nI 1)
theorem m_isAny {s zt : Nat → Int32} {N : Nat} (h4 : s 4 = nI N) (hN : N ≤ 17) (hr : ∀ j, j < N → s (101 + 6 * j + 3) = zt j) : (Awt N zt → fX7_isAny s = some (nI 1)) ∧ (¬ Awt N zt → fX7_isAny s = some (nI 0)) := by
  obtain ⟨a, a1, -, a3, a4⟩ := cnt_spec (g := fun k => s (101 + 6 * k + 3)) (c := nI 0) N 0 0
  obtain ⟨b, b1, -, b3, b4⟩ := cnt_spec (g := fun k => s (101 + 6 * k + 3)) (c := nI 1) N 0 0
  have e : fX7_isAny s = some (if a + b ≤ 0 then nI 0 else nI 1) := by
    unfold fX7_isAny
    by_cases c : a + b ≤ 0
    · simp (disch := omega) only [q_l0, q_l1, m_partiesOf h4 hN, a1, b1, bd1_e, nI_add, q_le, c, if_true]
    · simp (disch := omega) only [q_l0, q_l1, m_partiesOf h4 hN, a1, b1, bd1_e, nI_add, q_le, c, if_false]
  rw [e]
  constructor
  · rintro ⟨j, hj, q⟩
    rw [if_neg]
    intro c
    rcases q with q | q
    · exact a4.mp (by omega) j (Nat.zero_le _) (by omega) ((hr j hj).trans q)
    · exact b4.mp (by omega) j (Nat.zero_le _) (by omega) ((hr j hj).trans q)
  · intro hn
    rw [if_pos]
    have q1 : a = 0 := a4.mpr (fun j _ hj q => hn ⟨j, by omega, Or.inl ((hr j (by omega)).symm.trans q)⟩)
    have q2 : b = 0 := b4.mpr (fun j _ hj q => hn ⟨j, by omega, Or.inr ((hr j (by omega)).symm.trans q)⟩)
    omega
theorem any_loop {zt : Nat → Int32} {N : Nat} (hN : N ≤ 17) : ∀ (k i n : Nat), i + k = N → k < n → ((∃ j, i ≤ j ∧ j < N ∧ (zt j = nI 0 ∨ zt j = nI 1)) → gl1 (sX2_anyAwaited_rec1 zt (nI N)) n (nI i) = some (nI 1)) ∧ ((¬ ∃ j, i ≤ j ∧ j < N ∧ (zt j = nI 0 ∨ zt j = nI 1)) → gl1 (sX2_anyAwaited_rec1 zt (nI N)) n (nI i) = some (nI 0)) := by
  intro k
  induction k with
  | zero =>
    intro i n hi hn
    obtain ⟨n, rfl⟩ := Nat.exists_eq_succ_of_ne_zero (Nat.ne_of_gt hn)
    have : i = N := hi
    subst this
    refine ⟨fun ⟨j, h1, h2, _⟩ => absurd h2 (by omega), fun _ => ?_⟩
    show sX2_anyAwaited_rec1 zt (nI i) _ (nI i) = _
    simp (disch := omega) only [sX2_anyAwaited_rec1, q_le, Nat.le_refl, if_true, q_l0]
  | succ k ih =>
    intro i n hi hn
    obtain ⟨n, rfl⟩ := Nat.exists_eq_succ_of_ne_zero (by omega : n ≠ 0)
    have ngt : ¬ N ≤ i := by omega
    show (_ → sX2_anyAwaited_rec1 zt (nI N) (gl1 (sX2_anyAwaited_rec1 zt (nI N)) n) (nI i) = _) ∧ (_ → sX2_anyAwaited_rec1 zt (nI N) (gl1 (sX2_anyAwaited_rec1 zt (nI N)) n) (nI i) = _)
    have d10 : (nI 1 = nI 0) = False := by decide
    by_cases h0 : zt i = nI 0
    · have e : sX2_anyAwaited_rec1 zt (nI N) (gl1 (sX2_anyAwaited_rec1 zt (nI N)) n) (nI i) = some (nI 1) := by
        simp (disch := omega) only [sX2_anyAwaited_rec1, q_le, ngt, if_false, q_gd, q_cl, q_l0, q_l1, h0, if_true]
      exact ⟨fun _ => e, fun q => absurd ⟨i, Nat.le_refl _, by omega, Or.inl h0⟩ q⟩
    · by_cases h1 : zt i = nI 1
      · have e : sX2_anyAwaited_rec1 zt (nI N) (gl1 (sX2_anyAwaited_rec1 zt (nI N)) n) (nI i) = some (nI 1) := by
          simp (disch := omega) only [sX2_anyAwaited_rec1, q_le, ngt, if_false, q_gd, q_cl, q_l0, q_l1, h1, d10, if_true]
        exact ⟨fun _ => e, fun q => absurd ⟨i, Nat.le_refl _, by omega, Or.inr h1⟩ q⟩
      · have e : sX2_anyAwaited_rec1 zt (nI N) (gl1 (sX2_anyAwaited_rec1 zt (nI N)) n) (nI i) = gl1 (sX2_anyAwaited_rec1 zt (nI N)) n (nI (i + 1)) := by
          simp (disch := omega) only [sX2_anyAwaited_rec1, q_le, ngt, if_false, q_gd, q_cl, q_l0, q_l1, h0, h1, q_jl, nI_add]
        rw [e]
        obtain ⟨w1, w2⟩ := ih (i + 1) n (by omega) (by omega)
        refine ⟨fun ⟨j, j1, j2, j3⟩ => w1 ⟨j, ?_, j2, j3⟩, fun q => w2 (fun ⟨j, j1, j2, j3⟩ => q ⟨j, by omega, j2, j3⟩)⟩
        by_cases hj : j = i
        · subst hj
          exact absurd j3 (fun z => z.elim h0 h1)
        · omega
theorem p_any {zt : Nat → Int32} {N : Nat} (hN : N ≤ 17) : (Awt N zt → fX2_anyAwaited zt (nI N) = some (nI 1)) ∧ (¬ Awt N zt → fX2_anyAwaited zt (nI N) = some (nI 0)) := by
  obtain ⟨w1, w2⟩ := any_loop (zt := zt) hN N 0 gFU (Nat.zero_add _) (by unfold gFU; omega)
  unfold fX2_anyAwaited
  rw [q_l0]
  exact ⟨fun ⟨j, h1, h2⟩ => w1 ⟨j, Nat.zero_le _, h1, h2⟩, fun h => w2 (fun ⟨j, _, h1, h2⟩ => h ⟨j, h1, h2⟩)⟩
theorem sleeps_loop {N P : Nat} {zs zd zn sto sg : Nat → Int32} {hu0 v7 : Int32} (hP : P ≤ 60) :
    ∀ (k i n m d : Nat) (l : List LT) (lk la ll us sp zt zl zc : Nat → Int32) (hu cn gn cs : Int32) (s : Nat → Int32), i + k = P → d + k ≤ 365 → k < n → k < m → NightR l N d lk la ll us sp zs zd zn zt zl zc sto sg hu cn gn cs s →
      ∃ l' lk' la' ll' us' sp' zt' zl' zc' cn' gn' cs' s' A, gl15 (sX1_passNights_rec4 zs zd zn (nI N) sto sg hu0 (nI P)) n (nI i) lk la ll (nI l.length) us sp zt zl zc (nI d) hu cn gn cs = some (hu + nI A - hu0, lk', la', ll', nI (List.length l'), us', sp', zt', zl', zc', nI (d + k), hu + nI A, cn', gn', cs') ∧ gl2 (sX7_sleeps_rec8 (nI P) v7) m (nI i) s = some (hu + nI A - v7, s') ∧ NightR l' N (d + k) lk' la' ll' us' sp' zs zd zn zt' zl' zc' sto sg (hu + nI A) cn' gn' cs' s' ∧ A ≤ 102 * k ∧ (∀ j, nightF j → s' j = s j) := by
  intro k
  induction k with
  | zero =>
    intro i n m d l lk la ll us sp zt zl zc hu cn gn cs s hi hd hn hm h
    obtain ⟨n, rfl⟩ := Nat.exists_eq_succ_of_ne_zero (Nat.ne_of_gt hn)
    obtain ⟨m, rfl⟩ := Nat.exists_eq_succ_of_ne_zero (Nat.ne_of_gt hm)
    have : i = P := hi
    subst this
    refine ⟨l, lk, la, ll, us, sp, zt, zl, zc, cn, gn, cs, s, 0, ?_, ?_, by rw [q_z]; exact h, Nat.le_refl _, fun _ _ => rfl⟩
    · show sX1_passNights_rec4 zs zd zn (nI N) sto sg hu0 (nI i) _ (nI i) lk la ll (nI l.length) us sp zt zl zc (nI d) hu cn gn cs = _
      rw [q_z]
      simp (disch := omega) only [sX1_passNights_rec4, q_le, Nat.le_refl, if_true, Nat.add_zero]
    · show sX7_sleeps_rec8 (nI i) v7 _ (nI i) s = _
      have h5 : s 5 = hu := h.2.2.2.2.2.2.1
      rw [q_z]
      simp (disch := omega) only [sX7_sleeps_rec8, q_le, Nat.le_refl, if_true, q_l5, q_cl, h5]
  | succ k ih =>
    intro i n m d l lk la ll us sp zt zl zc hu cn gn cs s hi hd hn hm h
    obtain ⟨n, rfl⟩ := Nat.exists_eq_succ_of_ne_zero (by omega : n ≠ 0)
    obtain ⟨m, rfl⟩ := Nat.exists_eq_succ_of_ne_zero (by omega : m ≠ 0)
    obtain ⟨ok, l1, lk1, la1, ll1, us1, sp1, zt1, zl1, zc1, cn1, gn1, cs1, s1, a, b, c, e1, e2, h1, ha, -, -, -, -, -, hf, -⟩ := night_sim (by omega) h
    obtain ⟨l', lk', la', ll', us', sp', zt', zl', zc', cn', gn', cs', s', A, f1, f2, f3, f4, f5⟩ := ih (i + 1) n m (d + 1) l1 lk1 la1 ll1 us1 sp1 zt1 zl1 zc1 (hu + nI a) cn1 gn1 cs1 s1 (by omega) (by omega) (by omega) (by omega) h1
    have eA : hu + nI a + nI A = hu + nI (a + A) := by rw [Int32.add_assoc, nI_add]
    have ed : d + 1 + k = d + (k + 1) := by omega
    rw [eA, ed] at f1 f3
    rw [eA] at f2
    have ngt : ¬ P ≤ i := by omega
    refine ⟨l', lk', la', ll', us', sp', zt', zl', zc', cn', gn', cs', s', a + A, ?_, ?_, f3, by omega, fun j hj => (f5 j hj).trans (hf j hj)⟩
    · rw [← f1]
      show sX1_passNights_rec4 zs zd zn (nI N) sto sg hu0 (nI P) (gl15 (sX1_passNights_rec4 zs zd zn (nI N) sto sg hu0 (nI P)) n) (nI i) lk la ll (nI l.length) us sp zt zl zc (nI d) hu cn gn cs = _
      simp (disch := omega) only [sX1_passNights_rec4, q_le, ngt, if_false, e1, bd15_e, q_jl, q_l1, nI_add]
    · rw [← f2]
      show sX7_sleeps_rec8 (nI P) v7 (gl2 (sX7_sleeps_rec8 (nI P) v7) m) (nI i) s = _
      simp (disch := omega) only [sX7_sleeps_rec8, q_le, ngt, if_false, e2, bd1_e, q_jl, q_l1, nI_add]
