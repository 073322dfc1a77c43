/-! ===== a storm that doesn't come; lots told ===== -/
theorem calm_sim {sto s : Nat → Int32} {d : Nat} (p1 : Int32) (hd : d ≤ 365) (hT : StoR sto s) : (fX1_tellCalm sto (nI d) p1 = some (-1, sto) ∧ fX7_in p1 (nI d) (nI 395) = some (nI 0)) ∨ (∃ k v, k < 396 ∧ p1 = nI k ∧ v ≤ 1 ∧ fX1_tellCalm sto (nI d) p1 = some (nI v, upd sto k (nI 0)) ∧ fX7_in p1 (nI d) (nI 395) = some (nI 1) ∧ s (203 + k) = nI v ∧ StoR (upd sto k (nI 0)) (upd s (203 + k) (nI 0))) := by
  have d10 : (nI 1 = nI 0) = False := by decide
  have hn : vp_nar .boolean (0 : Int32) = nI 0 := by decide
  rcases m_in p1 (lo := d) (hi := 395) (by omega) (by omega) with ⟨a1, a2⟩ | ⟨k, a1, rfl, a2, a3⟩
  · refine Or.inl ⟨?_, a2⟩
    unfold fX1_tellCalm
    rw [if_pos a1]
  · have k1 : ¬ k < d := by omega
    by_cases c : k ≤ 395
    · rw [if_pos c] at a3
      obtain ⟨t1, t2, t3⟩ := hT k (by omega)
      have hS : StoR (upd sto k (nI 0)) (upd s (203 + k) (nI 0)) := by
        intro j hj
        by_cases e : j = k
        · subst e
          rw [pk_us, pk_us]
          exact ⟨rfl, Or.inl rfl, fun _ => rfl⟩
        · rw [pk_un (by omega), pk_un e]
          exact hT j hj
      have hc : fX1_tellCalm sto (nI d) (nI k) = (if sto k = nI 0 then some (nI 0, upd sto k (nI 0)) else some (nI 1, upd sto k (nI 0))) := by
        unfold fX1_tellCalm
        rw [hn]
        simp (disch := omega) only [q_lt, k1, if_false, q_l395, q_le, c, if_true, q_gd, q_cl, q_jl, q_l0, q_l1]
      rcases t2 with t2 | t2
      · rw [if_pos t2] at hc
        exact Or.inr ⟨k, 0, by omega, rfl, by omega, hc, a3, t1.trans t2, hS⟩
      · rw [if_neg (by rw [t2]; decide)] at hc
        exact Or.inr ⟨k, 1, by omega, rfl, by omega, hc, a3, t1.trans t2, hS⟩
    · rw [if_neg c] at a3
      refine Or.inl ⟨?_, a3⟩
      unfold fX1_tellCalm
      simp (disch := omega) only [q_lt, k1, if_false, q_l395, q_le, c]
