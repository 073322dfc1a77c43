/-! ===== settings ===== -/
theorem SetR.put {sg s : Nat → Int32} {k v : Nat} (h : SetR sg s) (hk : k ≤ 3) (hv : (k = 0 ∧ 1 ≤ v ∧ v ≤ 40) ∨ (k = 1 ∧ 1 ≤ v ∧ v ≤ 3) ∨ (2 ≤ k ∧ v ≤ 9)) : SetR (upd sg k (nI v)) (upd s (10 + k) (nI v)) := by
  obtain ⟨hS, B, R, Q, F, a1, a2, a3, a4, a5, a6, a7, a8, a9, a10⟩ := h
  refine ⟨fun j hj => ?_, ?_⟩
  · by_cases e : j = k
    · subst e; rw [pk_us, pk_us]
    · rw [pk_un (by omega), pk_un e]; exact hS j hj
  · rcases (show k = 0 ∨ k = 1 ∨ k = 2 ∨ k = 3 by omega) with rfl | rfl | rfl | rfl
    · exact ⟨v, R, Q, F, pk_us, by omega, by omega, (pk_un (by omega)).trans a4, a5, a6, (pk_un (by omega)).trans a7, a8, (pk_un (by omega)).trans a9, a10⟩
    · exact ⟨B, v, Q, F, (pk_un (by omega)).trans a1, a2, a3, pk_us, by omega, by omega, (pk_un (by omega)).trans a7, a8, (pk_un (by omega)).trans a9, a10⟩
    · exact ⟨B, R, v, F, (pk_un (by omega)).trans a1, a2, a3, (pk_un (by omega)).trans a4, a5, a6, pk_us, by omega, (pk_un (by omega)).trans a9, a10⟩
    · exact ⟨B, R, Q, v, (pk_un (by omega)).trans a1, a2, a3, (pk_un (by omega)).trans a4, a5, a6, (pk_un (by omega)).trans a7, a8, pk_us, by omega⟩
theorem SetR.val {sg s : Nat → Int32} {k : Nat} (h : SetR sg s) (hk : k ≤ 3) : ∃ old, old ≤ 40 ∧ sg k = nI old ∧ s (10 + k) = nI old := by
  obtain ⟨hS, B, R, Q, F, a1, a2, a3, a4, a5, a6, a7, a8, a9, a10⟩ := h
  rcases (show k = 0 ∨ k = 1 ∨ k = 2 ∨ k = 3 by omega) with rfl | rfl | rfl | rfl
  · exact ⟨B, a3, a1, (hS 0 hk).trans a1⟩
  · exact ⟨R, by omega, a4, (hS 1 hk).trans a4⟩
  · exact ⟨Q, by omega, a7, (hS 2 hk).trans a7⟩
  · exact ⟨F, by omega, a9, (hS 3 hk).trans a9⟩
theorem set_at {sg s : Nat → Int32} {k lo hi : Nat} (p2 : Int32) (h : SetR sg s) (hk : k ≤ 3) (hlo : gLowN k = nI lo) (hhi : gHighN k = nI hi) (hl : lo ≤ 1) (hh : hi ≤ 40) (hkk : ∀ v, lo ≤ v → v ≤ hi → (k = 0 ∧ 1 ≤ v ∧ v ≤ 40) ∨ (k = 1 ∧ 1 ≤ v ∧ v ≤ 3) ∨ (2 ≤ k ∧ v ≤ 9)) :
    (fX1_changeSetting sg (nI k) p2 = some (-1, sg) ∧ fX7_in p2 (nI lo) (nI hi) = some (nI 0)) ∨ (∃ v old, p2 = nI v ∧ old ≤ 40 ∧ fX1_changeSetting sg (nI k) p2 = some (nI old, upd sg k p2) ∧ fX7_in p2 (nI lo) (nI hi) = some (nI 1) ∧ s (10 + k) = nI old ∧ SetR (upd sg k p2) (upd s (10 + k) p2)) := by
  have k1 : ¬ k < 0 := by omega
  have k2 : ¬ 4 ≤ k := by omega
  rcases m_in p2 (lo := lo) (hi := hi) (by omega) (by omega) with ⟨a1, a2⟩ | ⟨v, a1, rfl, a2, a3⟩
  · refine Or.inl ⟨?_, a2⟩
    unfold fX1_changeSetting
    simp (disch := omega) only [q_l0, q_l4, q_lt, q_le, k1, k2, if_false, q_gd, q_cl, hlo, a1, if_true]
  · have v1 : ¬ v < lo := by omega
    by_cases c : v ≤ hi
    · rw [if_pos c] at a3
      obtain ⟨old, o1, o2, o3⟩ := h.val hk
      refine Or.inr ⟨v, old, rfl, o1, ?_, a3, o3, h.put hk (hkk v a2 c)⟩
      unfold fX1_changeSetting
      simp (disch := omega) only [q_l0, q_l4, q_lt, q_le, k1, k2, if_false, q_gd, q_cl, hlo, hhi, v1, c, if_true, q_jl, o2]
    · rw [if_neg c] at a3
      refine Or.inl ⟨?_, a3⟩
      unfold fX1_changeSetting
      simp (disch := omega) only [q_l0, q_l4, q_lt, q_le, k1, k2, if_false, q_gd, q_cl, hlo, hhi, v1, c]
theorem set_sim {sg s : Nat → Int32} (p1 p2 : Int32) (h : SetR sg s) : (fX1_changeSetting sg p1 p2 = some (-1, sg) ∧ fX7_isSetting p1 p2 = some (nI 0)) ∨ (∃ k v old, k ≤ 3 ∧ p1 = nI k ∧ p2 = nI v ∧ old ≤ 40 ∧ fX1_changeSetting sg p1 p2 = some (nI old, upd sg k p2) ∧ fX7_isSetting p1 p2 = some (nI 1) ∧ s (10 + k) = nI old ∧ SetR (upd sg k p2) (upd s (10 + k) p2)) := by
  have d10 : (nI 1 = nI 0) = False := by decide
  have g1 : ∀ {α : Type} (x : Option α), gd (nzB (nI 1)) x = x := fun x => by rw [show nzB (nI 1) = true by decide]; rfl
  have g0 : ∀ {α : Type} (x : Option α), gd (nzB (nI 0)) x = x := fun x => by rw [show nzB (nI 0) = true by decide]; rfl
  by_cases h0 : p1 < 0
  · refine Or.inl ⟨?_, ?_⟩
    · unfold fX1_changeSetting
      rw [if_pos h0]
    · have n0 : ¬ p1 = nI 0 := fun q => by rw [q] at h0; exact absurd h0 (by decide)
      have n1 : ¬ p1 = nI 1 := fun q => by rw [q] at h0; exact absurd h0 (by decide)
      have n2 : p1 < nI 2 := Int32.lt_trans h0 (by decide)
      unfold fX7_isSetting fX7_in
      simp (disch := omega) only [q_l0, q_l1, q_l2, q_l3, n0, n1, if_false, n2, if_true, bd1_e]
  · obtain ⟨k, hk, rfl⟩ := nI_of h0
    by_cases hk3 : k ≤ 3
    · rcases (show k = 0 ∨ k = 1 ∨ 2 ≤ k by omega) with rfl | rfl | hk2
      · rcases set_at (lo := 1) (hi := 40) p2 h hk3 (by decide) (by decide) (by omega) (by omega) (fun v a b => Or.inl ⟨rfl, a, b⟩) with ⟨a, b⟩ | ⟨v, old, a1, a2, a3, a4, a5, a6⟩
        · refine Or.inl ⟨a, ?_⟩
          unfold fX7_isSetting
          simp (disch := omega) only [q_l0, q_l1, q_l40, if_true, b, bd1_e, g0]
        · refine Or.inr ⟨0, v, old, hk3, rfl, a1, a2, a3, ?_, a5, a6⟩
          unfold fX7_isSetting
          simp (disch := omega) only [q_l0, q_l1, q_l40, if_true, a4, bd1_e, g1]
      · rcases set_at (lo := 1) (hi := 3) p2 h hk3 (by decide) (by decide) (by omega) (by omega) (fun v a b => Or.inr (Or.inl ⟨rfl, a, b⟩)) with ⟨a, b⟩ | ⟨v, old, a1, a2, a3, a4, a5, a6⟩
        · refine Or.inl ⟨a, ?_⟩
          unfold fX7_isSetting
          simp (disch := omega) only [q_l0, q_l1, q_l3, d10, if_false, if_true, b, bd1_e, g0]
        · refine Or.inr ⟨1, v, old, hk3, rfl, a1, a2, a3, ?_, a5, a6⟩
          unfold fX7_isSetting
          simp (disch := omega) only [q_l0, q_l1, q_l3, d10, if_false, if_true, a4, bd1_e, g1]
      · have n0 : ¬ k = 0 := by omega
        have n1 : ¬ k = 1 := by omega
        have n2 : ¬ k < 2 := by omega
        have n3 : ¬ 3 < k := by omega
        have hlo : gLowN k = nI 0 := by
          rcases (show k = 2 ∨ k = 3 by omega) with rfl | rfl <;> decide
        have hhi : gHighN k = nI 9 := by
          rcases (show k = 2 ∨ k = 3 by omega) with rfl | rfl <;> decide
        have e : fX7_in (nI k) (nI 2) (nI 3) = some (nI 1) := by
          unfold fX7_in
          simp (disch := omega) only [q_lt, n2, n3, if_false, q_l1]
        rcases set_at (lo := 0) (hi := 9) p2 h hk3 hlo hhi (by omega) (by omega) (fun v a b => Or.inr (Or.inr ⟨hk2, b⟩)) with ⟨a, b⟩ | ⟨v, old, a1, a2, a3, a4, a5, a6⟩
        · refine Or.inl ⟨a, ?_⟩
          unfold fX7_isSetting
          simp (disch := omega) only [q_l0, q_l1, q_l2, q_l3, q_l9, q_eq, n0, n1, d10, if_false, if_true, e, b, bd1_e]
        · refine Or.inr ⟨k, v, old, hk3, rfl, a1, a2, a3, ?_, a5, a6⟩
          unfold fX7_isSetting
          simp (disch := omega) only [q_l0, q_l1, q_l2, q_l3, q_l9, q_eq, n0, n1, d10, if_false, e, a4, bd1_e]
    · refine Or.inl ⟨?_, ?_⟩
      · have k1 : ¬ k < 0 := by omega
        have k2 : 4 ≤ k := by omega
        unfold fX1_changeSetting
        simp (disch := omega) only [q_l0, q_l4, q_lt, q_le, k1, k2, if_false, if_true]
      · have n0 : ¬ k = 0 := by omega
        have n1 : ¬ k = 1 := by omega
        have n2 : ¬ k < 2 := by omega
        have n3 : 3 < k := by omega
        unfold fX7_isSetting fX7_in
        simp (disch := omega) only [q_l0, q_l1, q_l2, q_l3, q_eq, q_lt, n0, n1, n2, n3, if_false, if_true, bd1_e]
