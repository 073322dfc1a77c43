/-! ===== texts: signs and numbers ===== -/
def TxtR (t : Nat) (ch tx : Nat → Int32) : Prop := t ≤ 60 ∧ ∀ i, i < t → ∃ c, 32 ≤ c ∧ c ≤ 126 ∧ ch i = nI c ∧ tx i = nI c
theorem q_nc {c : Nat} (h : c < 65536) : ncB (nI c) = true := by
  unfold ncB
  rw [nI_toInt (by omega), Bool.and_eq_true, decide_eq_true_eq, decide_eq_true_eq]
  omega
theorem look {t i : Nat} {ch tx : Nat → Int32} (h : TxtR t ch tx) (hi : i < 2 ^ 20) : (∃ c, 32 ≤ c ∧ c ≤ 126 ∧ i < t ∧ fX5_at ch (nI t) (nI i) = some (nI c) ∧ fX7_here tx (nI t) (nI i) = some (nI c)) ∨ (t ≤ i ∧ fX5_at ch (nI t) (nI i) = some (nI 0) ∧ fX7_here tx (nI t) (nI i) = some (-1)) := by
  obtain ⟨ht, hc⟩ := h
  have i0 : ¬ i < 0 := by omega
  by_cases c : t ≤ i
  · refine Or.inr ⟨c, ?_, ?_⟩
    · unfold fX5_at
      simp (disch := omega) only [q_l0, q_lt, q_le, i0, c, if_false, if_true]
    · unfold fX7_here
      simp (disch := omega) only [q_le, c, if_true]
  · obtain ⟨z, z1, z2, z3, z4⟩ := hc i (by omega)
    refine Or.inl ⟨z, z1, z2, by omega, ?_, ?_⟩
    · unfold fX5_at
      simp (disch := omega) only [q_l0, q_lt, q_le, i0, c, if_false, q_gd, q_cl, z3, q_nc, q_gt]
    · unfold fX7_here
      simp (disch := omega) only [q_le, c, if_false, q_gd, q_cl, z4]
theorem g_nz1 {α : Type} (x : Option α) : gd (nzB (nI 1)) x = x := by rw [show nzB (nI 1) = true by decide]; rfl
theorem g_nz0 {α : Type} (x : Option α) : gd (nzB (nI 0)) x = x := by rw [show nzB (nI 0) = true by decide]; rfl
theorem sign_sim {t i q : Nat} {ch tx : Nat → Int32} (h : TxtR t ch tx) (hi : i < 2 ^ 20) (hq : 1 ≤ q ∧ q ≤ 126) : (fX5_passes ch (nI t) (nI i) (nI q) = some (nI 1, nI (i + 1)) ∧ fX7_takesSign tx (nI t) (nI i) (nI 1) (nI q) = some (nI (i + 1), nI 1)) ∨ (fX5_passes ch (nI t) (nI i) (nI q) = some (nI 0, nI i) ∧ fX7_takesSign tx (nI t) (nI i) (nI 1) (nI q) = some (nI i, nI 0)) := by
  have d10 : ¬ nI 1 = nI 0 := by decide
  unfold fX5_passes fX7_takesSign
  rcases look h hi with ⟨c, c1, c2, c3, c4, c5⟩ | ⟨c3, c4, c5⟩
  · by_cases e : c = q
    · subst e
      refine Or.inl ⟨?_, ?_⟩
      · rw [c4, bd1_e, if_pos rfl, q_jl, q_l1, nI_add]
      · simp (disch := omega) only [q_mrg, q_l0, q_l1, d10, if_false, c5, bd1_e, if_true, g_nz1, q_jl, nI_add]
    · have n : ¬ nI c = nI q := by rw [q_eq (by omega) (by omega)]; exact e
      refine Or.inr ⟨?_, ?_⟩
      · rw [c4, bd1_e, if_neg n, q_l0]
      · simp (disch := omega) only [q_mrg, q_l0, q_l1, d10, if_false, c5, bd1_e, n, if_true, g_nz0, q_jl, nI_add, Nat.add_zero]
  · have n : ¬ nI 0 = nI q := by rw [q_eq (by omega) (by omega)]; omega
    have n2 : ¬ (-1 : Int32) = nI q := fun e => by
      have hneg : (-1 : Int32) < nI 0 := by decide
      rw [e, q_lt (by omega) (by omega)] at hneg
      omega
    refine Or.inr ⟨?_, ?_⟩
    · rw [c4, bd1_e, if_neg n, q_l0]
    · rw [q_l1] at n2
      rw [q_l1] at c5
      simp (disch := omega) only [q_mrg, q_l0, q_l1, d10, if_false, c5, bd1_e, n2, if_true, g_nz0, q_jl, nI_add, Nat.add_zero]
theorem sign0 {tx : Nat → Int32} {ln q : Int32} {i : Nat} : fX7_takesSign tx ln (nI i) (nI 0) q = some (nI i, nI 0) := by
  unfold fX7_takesSign
  simp only [q_mrg, q_l0, if_true, g_nz0, q_jl, nI_add, Nat.add_zero]
theorem digit_c {t i : Nat} {ch tx : Nat → Int32} (h : TxtR t ch tx) (hi : i < 2 ^ 20) : (∃ c, 48 ≤ c ∧ c ≤ 57 ∧ i < t ∧ fX5_at ch (nI t) (nI i) = some (nI c) ∧ fX7_here tx (nI t) (nI i) = some (nI c) ∧ fX7_isDigit tx (nI t) (nI i) = some (nI 1)) ∨ (∃ z, z ≤ 126 ∧ (z < 48 ∨ 57 < z) ∧ fX5_at ch (nI t) (nI i) = some (nI z) ∧ fX7_isDigit tx (nI t) (nI i) = some (nI 0)) := by
  have q48 : (48 : Int32) = nI 48 := by decide
  have q57 : (57 : Int32) = nI 57 := by decide
  unfold fX7_isDigit
  rw [q48, q57]
  rcases look h hi with ⟨c, c1, c2, c3, c4, c5⟩ | ⟨c3, c4, c5⟩
  · rcases m_in (nI c) (lo := 48) (hi := 57) (by omega) (by omega) with ⟨a1, a2⟩ | ⟨k, k1, k2, k3, k4⟩
    · rw [q_lt (by omega) (by omega)] at a1
      exact Or.inr ⟨c, c2, Or.inl a1, c4, by rw [c5, bd1_e, a2, bd1_e, g_nz0]⟩
    · have e : c = k := by
        rw [q_eq (by omega) k1] at k2
        exact k2
      subst e
      by_cases w : c ≤ 57
      · rw [if_pos w] at k4
        exact Or.inl ⟨c, k3, w, c3, c4, c5, by rw [c5, bd1_e, k4, bd1_e, g_nz1]⟩
      · rw [if_neg w] at k4
        exact Or.inr ⟨c, c2, Or.inr (by omega), c4, by rw [c5, bd1_e, k4, bd1_e, g_nz0]⟩
  · refine Or.inr ⟨0, by omega, Or.inl (by omega), c4, ?_⟩
    have a : fX7_in (-1) (nI 48) (nI 57) = some (nI 0) := by
      unfold fX7_in
      rw [if_pos (by decide), q_l0]
    rw [c5, bd1_e, a, bd1_e, g_nz0]
theorem number_loop {t : Nat} {ch tx : Nat → Int32} (h : TxtR t ch tx) : ∀ (k j n m v i : Nat), j + k = 3 → k < n → k < m → v < 10 ^ j → 1 ≤ j → i < 2 ^ 19 → ∃ v' e, v' < 1000 ∧ i ≤ e ∧ e ≤ i + k ∧ gl3 (sX5_readNumber_rec1 ch (nI t)) n (nI j) (nI v) (nI i) = some (nI v', nI e) ∧ gl3 (sX7_number_rec8 tx (nI t) (nI 1)) m (nI j) (nI v) (nI i) = some (nI v', nI e, nI 1) := by
  have d10 : ¬ nI 1 = nI 0 := by decide
  have ht : t ≤ 60 := h.1
  have q48 : (48 : Int32) = nI 48 := by decide
  have q57 : (57 : Int32) = nI 57 := by decide
  intro k
  induction k with
  | zero =>
    intro j n m v i hj hn hm hv _ _
    obtain ⟨n, rfl⟩ := Nat.exists_eq_succ_of_ne_zero (Nat.ne_of_gt hn)
    obtain ⟨m, rfl⟩ := Nat.exists_eq_succ_of_ne_zero (Nat.ne_of_gt hm)
    have : j = 3 := hj
    subst this
    refine ⟨v, i, by omega, Nat.le_refl _, Nat.le_refl _, ?_, ?_⟩
    · show sX5_readNumber_rec1 ch (nI t) _ (nI 3) (nI v) (nI i) = _
      simp (disch := omega) only [sX5_readNumber_rec1, q_l3, q_le, Nat.le_refl, if_true]
    · show sX7_number_rec8 tx (nI t) (nI 1) _ (nI 3) (nI v) (nI i) = _
      simp (disch := omega) only [sX7_number_rec8, q_l3, q_le, Nat.le_refl, if_true]
  | succ k ih =>
    intro j n m v i hj hn hm hv hj1 hi
    obtain ⟨n, rfl⟩ := Nat.exists_eq_succ_of_ne_zero (by omega : n ≠ 0)
    obtain ⟨m, rfl⟩ := Nat.exists_eq_succ_of_ne_zero (by omega : m ≠ 0)
    have n3 : ¬ 3 ≤ j := by omega
    have hv3 : v < 1000 := by
      rcases (show j = 1 ∨ j = 2 by omega) with rfl | rfl <;> omega
    show ∃ v' e, v' < 1000 ∧ i ≤ e ∧ e ≤ i + (k + 1) ∧ sX5_readNumber_rec1 ch (nI t) (gl3 (sX5_readNumber_rec1 ch (nI t)) n) (nI j) (nI v) (nI i) = some (nI v', nI e) ∧ sX7_number_rec8 tx (nI t) (nI 1) (gl3 (sX7_number_rec8 tx (nI t) (nI 1)) m) (nI j) (nI v) (nI i) = some (nI v', nI e, nI 1)
    rcases digit_c h (i := i) (by omega) with ⟨c, c1, c2, c3, c4, c5, c6⟩ | ⟨z, z1, z2, z3, z4⟩
    · have a1 : ¬ c < 48 := by omega
      have v0 : ¬ v < 0 := by omega
      have hp : 10 * v + c - 48 < 10 ^ (j + 1) := by
        rcases (show j = 1 ∨ j = 2 by omega) with rfl | rfl <;> omega
      obtain ⟨v', e, w1, w2, w3, w4, w5⟩ := ih (j + 1) n m (10 * v + c - 48) (i + 1) (by omega) (by omega) (by omega) hp (by omega) (by omega)
      refine ⟨v', e, w1, by omega, by omega, ?_, ?_⟩
      · rw [← w4]
        have e1 : v * 10 + (c - 48) = 10 * v + c - 48 := by omega
        simp (disch := omega) only [sX5_readNumber_rec1, q_l3, q_le, n3, if_false, c4, bd1_e, q48, q57, q_lt, a1, c2, if_true, q_l0, v0, show (10 : Int32) = nI 10 by decide, pk_mul, q_subn, nI_add, q_jl, q_l1, e1]
      · rw [← w5]
        simp (disch := omega) only [sX7_number_rec8, q_l3, q_le, n3, if_false, q_l0, d10, c6, bd1_e, c5, show (10 : Int32) = nI 10 by decide, q48, pk_mul, nI_add, q_subn, q_jl, q_l1]
    · refine ⟨v, i, hv3, Nat.le_refl _, by omega, ?_, ?_⟩
      · rcases z2 with z2 | z2
        · simp (disch := omega) only [sX5_readNumber_rec1, q_l3, q_le, n3, if_false, z3, bd1_e, q48, q_lt, z2, if_true]
        · have b1 : ¬ z < 48 := by omega
          have b2 : ¬ z ≤ 57 := by omega
          simp (disch := omega) only [sX5_readNumber_rec1, q_l3, q_le, n3, if_false, z3, bd1_e, q48, q57, q_lt, b1, b2]
      · simp (disch := omega) only [sX7_number_rec8, q_l3, q_le, n3, if_false, q_l0, d10, z4, bd1_e, if_true]
theorem number_sim {t i : Nat} {ch tx : Nat → Int32} (h : TxtR t ch tx) (hi : i < 2 ^ 18) : (∃ v e, v < 1000 ∧ i < e ∧ e ≤ i + 3 ∧ fX5_readNumber ch (nI t) (nI i) = some (nI v, nI e) ∧ fX7_number tx (nI t) (nI i) (nI 1) = some (nI v, nI e, nI 1)) ∨ (fX5_readNumber ch (nI t) (nI i) = some (-1, nI i) ∧ fX7_number tx (nI t) (nI i) (nI 1) = some (nI 0, nI i, nI 0)) := by
  have d10 : ¬ nI 1 = nI 0 := by decide
  have q48 : (48 : Int32) = nI 48 := by decide
  have q57 : (57 : Int32) = nI 57 := by decide
  have q10 : (10 : Int32) = nI 10 := by decide
  have ht : t ≤ 60 := h.1
  have hf : gFU = 4095 + 1 := rfl
  have n3 : ¬ 3 ≤ 0 := by omega
  unfold fX5_readNumber fX7_number
  rw [hf]
  rcases digit_c h (i := i) (by omega) with ⟨c, c1, c2, c3, c4, c5, c6⟩ | ⟨z, z1, z2, z3, z4⟩
  · have a1 : ¬ c < 48 := by omega
    obtain ⟨v', e, w1, w2, w3, w4, w5⟩ := number_loop h 2 1 4095 4095 (c - 48) (i + 1) rfl (by omega) (by omega) (by omega) (by omega) (by omega)
    refine Or.inl ⟨v', e, w1, by omega, by omega, ?_, ?_⟩
    · rw [← w4]
      show sX5_readNumber_rec1 ch (nI t) (gl3 (sX5_readNumber_rec1 ch (nI t)) 4095) 0 (-1) (nI i) = _
      have e1 : (if (-1 : Int32) < 0 then (0 : Int32) else -1) = nI 0 := by decide
      unfold sX5_readNumber_rec1
      rw [if_neg (show ¬ (3 : Int32) ≤ 0 by decide), c4, bd1_e, q48, if_neg (show ¬ nI c < nI 48 by rw [q_lt (by omega) (by omega)]; exact a1), q57, if_pos (show nI c ≤ nI 57 by rw [q_le (by omega) (by omega)]; exact c2), e1, q10, pk_mul, q_subn c1 (by omega), nI_add, q_jl, q_l1, nI_add, q_jl, q_l0, nI_add, q_jl, Nat.zero_mul, Nat.zero_add, Nat.zero_add]
    · rw [← w5]
      simp only [q_mrg, q_l0, d10, if_false, c6, bd1_e, q_l1, g_nz1]
      show sX7_number_rec8 tx (nI t) (nI 1) (gl3 (sX7_number_rec8 tx (nI t) (nI 1)) 4095) (nI 0) (nI 0) (nI i) = _
      have e1 : 10 * 0 + c - 48 = c - 48 := by omega
      simp (disch := omega) only [sX7_number_rec8, q_l3, q_le, n3, if_false, q_l0, d10, c6, bd1_e, c5, q10, q48, pk_mul, nI_add, q_subn, q_jl, q_l1, e1, Nat.zero_add]
  · refine Or.inr ⟨?_, ?_⟩
    · show sX5_readNumber_rec1 ch (nI t) (gl3 (sX5_readNumber_rec1 ch (nI t)) 4095) 0 (-1) (nI i) = _
      unfold sX5_readNumber_rec1
      rw [if_neg (show ¬ (3 : Int32) ≤ 0 by decide), z3, bd1_e, q48, q57]
      rcases z2 with z2 | z2
      · rw [if_pos (show nI z < nI 48 by rw [q_lt (by omega) (by omega)]; exact z2)]
      · rw [if_neg (show ¬ nI z < nI 48 by rw [q_lt (by omega) (by omega)]; omega), if_neg (show ¬ nI z ≤ nI 57 by rw [q_le (by omega) (by omega)]; omega)]
    · simp only [q_mrg, q_l0, d10, if_false, z4, bd1_e, if_true, g_nz0]
      show sX7_number_rec8 tx (nI t) (nI 0) (gl3 (sX7_number_rec8 tx (nI t) (nI 0)) 4095) (nI 0) (nI 0) (nI i) = _
      simp (disch := omega) only [sX7_number_rec8, q_l3, q_le, n3, if_false, q_l0, if_true]
theorem number0 {tx : Nat → Int32} {ln : Int32} {i : Nat} : fX7_number tx ln (nI i) (nI 0) = some (nI 0, nI i, nI 0) := by
  have n3 : ¬ 3 ≤ 0 := by omega
  have hf : gFU = 4095 + 1 := rfl
  unfold fX7_number
  rw [hf]
  simp only [q_mrg, q_l0, if_true, g_nz0]
  show sX7_number_rec8 tx ln (nI 0) (gl3 (sX7_number_rec8 tx ln (nI 0)) 4095) (nI 0) (nI 0) (nI i) = _
  simp (disch := omega) only [sX7_number_rec8, q_l3, q_le, n3, if_false, q_l0, if_true]
