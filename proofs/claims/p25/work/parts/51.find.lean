/-! ===== the lots of a kind, one by one ===== -/
theorem find_loop {N c P j : Nat} {lk s : Nat → Int32} (hN : N ≤ 20) (hc : c ≤ 2) (hP : P < 2 ^ 31) (hj : j ≤ 1) (h2 : s 2 = nI N) (hr : ∀ k, k < N → ∃ q, q ≤ 2 ∧ lk k = nI q ∧ s (41 + 3 * k) = nI q) :
    ∀ (k i n m v w : Nat), i + k = N → k < n → k < m → v + w = P → ∃ f g, gl2 (sX4_find_rec1 lk (nI N) (nI c) (nI P)) n (nI i) (nI v) = some f ∧ gl2 (sX7_lotOf_rec8 s (nI c) (nI j)) m (nI i) (nI w) = some g ∧ ((f = -1 ∧ g = -4) ∨ ∃ z, z < N ∧ f = nI z ∧ g = s (41 + 3 * z + (j + 1))) := by
  have d10 : (nI 1 = nI 0) = False := by decide
  intro k
  induction k with
  | zero =>
    intro i n m v w hi hn hm hv
    obtain ⟨n, rfl⟩ := Nat.exists_eq_succ_of_ne_zero (Nat.ne_of_gt hn)
    obtain ⟨m, rfl⟩ := Nat.exists_eq_succ_of_ne_zero (Nat.ne_of_gt hm)
    have : i = N := hi
    subst this
    refine ⟨-1, -4, ?_, ?_, Or.inl ⟨rfl, rfl⟩⟩
    · show sX4_find_rec1 lk (nI i) (nI c) (nI P) _ (nI i) (nI v) = _
      simp (disch := omega) only [sX4_find_rec1, q_le, Nat.le_refl, if_true]
    · show sX7_lotOf_rec8 s (nI c) (nI j) _ (nI i) (nI w) = _
      simp (disch := omega) only [sX7_lotOf_rec8, q_l2, q_gd, q_cl, h2, q_le, Nat.le_refl, if_true]
  | succ k ih =>
    intro i n m v w hi hn hm hv
    obtain ⟨n, rfl⟩ := Nat.exists_eq_succ_of_ne_zero (by omega : n ≠ 0)
    obtain ⟨m, rfl⟩ := Nat.exists_eq_succ_of_ne_zero (by omega : m ≠ 0)
    have ngt : ¬ N ≤ i := by omega
    obtain ⟨q, hq, r1, r2⟩ := hr i (by omega)
    show ∃ f g, sX4_find_rec1 lk (nI N) (nI c) (nI P) (gl2 (sX4_find_rec1 lk (nI N) (nI c) (nI P)) n) (nI i) (nI v) = some f ∧ sX7_lotOf_rec8 s (nI c) (nI j) (gl2 (sX7_lotOf_rec8 s (nI c) (nI j)) m) (nI i) (nI w) = some g ∧ _
    by_cases hqc : q = c
    · by_cases hvP : v = P
      · have w0 : w = 0 := by omega
        refine ⟨nI i, s (41 + 3 * i + (j + 1)), ?_, ?_, Or.inr ⟨i, by omega, rfl, rfl⟩⟩
        · simp (disch := omega) only [sX4_find_rec1, q_le, ngt, if_false, q_gd, q_cl, r1, hqc, if_true, q_eq, hvP]
        · simp (disch := omega) only [sX7_lotOf_rec8, q_l2, q_gd, q_cl, h2, q_le, ngt, if_false, q_l0, m_ofLot, Nat.add_zero, bd1_e, r2, hqc, if_true, q_mrg, q_l1, d10, w0, nI_add]
      · have w0 : ¬ w = 0 := by omega
        obtain ⟨f, g, f1, f2, f3⟩ := ih (i + 1) n m (v + 1) (w - 1) (by omega) (by omega) (by omega) (by omega)
        refine ⟨f, g, ?_, ?_, f3⟩
        · rw [← f1]
          simp (disch := omega) only [sX4_find_rec1, q_le, ngt, if_false, q_gd, q_cl, r1, hqc, if_true, q_eq, hvP, q_jl, q_l1, nI_add]
        · rw [← f2]
          simp (disch := omega) only [sX7_lotOf_rec8, q_l2, q_gd, q_cl, h2, q_le, ngt, if_false, q_l0, m_ofLot, Nat.add_zero, bd1_e, r2, hqc, if_true, q_mrg, q_l1, d10, q_eq, w0, q_jl, q_subn, nI_add]
    · obtain ⟨f, g, f1, f2, f3⟩ := ih (i + 1) n m v w (by omega) (by omega) (by omega) hv
      refine ⟨f, g, ?_, ?_, f3⟩
      · rw [← f1]
        simp (disch := omega) only [sX4_find_rec1, q_le, ngt, if_false, q_gd, q_cl, r1, q_eq, hqc, q_jl, q_l1, nI_add]
      · rw [← f2]
        have ew : nI w - nI 0 = nI w := by rw [q_subn (by omega) (by omega)]; rfl
        simp (disch := omega) only [sX7_lotOf_rec8, q_l2, q_gd, q_cl, h2, q_le, ngt, if_false, q_l0, m_ofLot, Nat.add_zero, bd1_e, r2, q_eq, hqc, q_mrg, q_l1, if_true, q_jl, ew, nI_add]
