/-! ===== parties: who leaves, who sleeps ===== -/
theorem m_isParty {s : Nat → Int32} {N : Nat} (p : Int32) (h4 : s 4 = nI N) (hN : N ≤ 17) : fX7_isParty s p = some (if p < 0 then nI 0 else if nI N ≤ p then nI 0 else nI 1) := by
  unfold fX7_isParty
  simp (disch := omega) only [q_l4, q_gd, q_cl, h4]
  unfold fX7_in
  by_cases h0 : p < (0 : Int32)
  · rw [if_pos h0, if_pos h0]; rfl
  · rw [if_neg h0, if_neg h0]
    have e : (nI N - (1 : Int32) < p) = (nI N ≤ p) := by
      obtain ⟨j, hj, rfl⟩ := nI_of h0
      apply propext
      rw [Int32.lt_iff_toInt_lt, Int32.le_iff_toInt_le, q_l1]
      simp (disch := omega) only [pk_sub_toInt, nI_toInt]
      omega
    simp only [e]
    split <;> rfl
theorem p_has {N : Nat} (p : Int32) : fX2_has (nI N) p = some (if p < 0 then nI 0 else if nI N ≤ p then nI 0 else nI 1) := by
  unfold fX2_has
  split
  · rfl
  · split <;> rfl
theorem p_isStorm {sto : Nat → Int32} {d : Nat} (hd : d < 1000) (hz : d < 396 → sto d = nI 0 ∨ sto d = nI 1) : fX1_isStorm sto (nI d) = some (if d < 396 ∧ sto d = nI 1 then nI 1 else nI 0) := by
  unfold fX1_isStorm
  by_cases h : d < 396
  · simp (disch := omega) only [q_l396, q_le, q_lt, q_gd, q_cl, if_pos h, if_neg (Nat.not_le.mpr h), q_l0, q_l1]
    rcases hz h with h1 | h1
    · rw [if_pos h1, if_neg (fun q => by rw [h1] at q; exact absurd q.2 (by decide))]
    · rw [if_neg (fun q => by rw [h1] at q; exact absurd q (by decide)), if_pos ⟨h, h1⟩]
  · simp (disch := omega) only [q_l396, q_le, q_lt, if_neg h, if_pos (Nat.not_lt.mp h), q_l0, q_l1]
    rw [if_neg (fun q => h q.1)]
theorem m_isStorm {s : Nat → Int32} {d : Nat} (hd : d < 1000) : fX7_isStorm s (nI d) = some (if d < 396 ∧ s (203 + d) = nI 1 then nI 1 else nI 0) := by
  unfold fX7_isStorm
  by_cases h : d < 396
  · simp (disch := omega) only [q_l396, q_l203, nI_add, q_le, q_gd, q_cl, if_neg (Nat.not_le.mpr h)]
    simp only [q_l0, q_l1]
    by_cases h1 : s (203 + d) = nI 1
    · rw [if_pos h1, if_pos ⟨h, h1⟩]
    · rw [if_neg h1, if_neg (fun q => h1 q.2)]
  · simp (disch := omega) only [q_l396, q_le, if_pos (Nat.not_lt.mp h), q_l0]
    rw [if_neg (fun q => h q.1)]
theorem p_leave {zn zt zl : Nat → Int32} {N : Nat} (hN : N ≤ 17) : ∃ zt', fX2_leave zn zt zl (nI N) = some zt' ∧ (∀ k, k < N → zt' k = if zt k = nI 1 ∧ zn k ≤ zl k then nI 2 else zt k) ∧ (∀ j, N ≤ j → zt' j = zt j) := by
  unfold fX2_leave
  refine Exists.elim (scat_loop (st := sX2_leave_rec1 zn zl (nI N)) (out := some) (fun k => k) (fun k a => if a k = nI 1 ∧ zn k ≤ zl k then nI 2 else a k) N (fun _ => True) (fun _ _ _ _ _ => trivial) (fun rec a _ => ?_) (fun rec i a hi _ => ?_) (fun _ _ _ _ h => h) (fun i m a v _ _ h => ?_) N 0 gFU zt (by omega) (by unfold gFU; omega) trivial) (fun a ⟨h1, _, h2, h3⟩ => ?_)
  · simp (disch := omega) only [sX2_leave_rec1, q_le, Nat.le_refl, if_true]
  · simp (disch := omega) only [sX2_leave_rec1, q_le, if_neg (Nat.not_le.mpr hi), q_gd, q_cl, q_jl, q_l1, q_l2, nI_add]
    by_cases c1 : a i = nI 1
    · by_cases c2 : zl i < zn i
      · rw [if_pos c1, if_pos c2, if_neg (fun q => Int32.not_le.mpr c2 q.2), upd_same]
      · rw [if_pos c1, if_neg c2, if_pos ⟨c1, Int32.not_lt.mp c2⟩]
    · rw [if_neg c1, if_neg (fun q => c1 q.1), upd_same]
  · simp only [pk_un (Ne.symm h)]
  · exact ⟨a, h1, fun k hk => h2 k (Nat.zero_le _) hk, fun j hj => h3 j (fun m _ hm => by omega)⟩
theorem m_leave {s : Nat → Int32} {N : Nat} (h4 : s 4 = nI N) (hN : N ≤ 17) : ∃ s', fX7_leave s = some s' ∧ (∀ k, k < N → s' (101 + 6 * k + 3) = if s (101 + 6 * k + 3) = nI 1 ∧ s (101 + 6 * k + 2) ≤ s (101 + 6 * k + 4) then nI 2 else s (101 + 6 * k + 3)) ∧ (∀ j, (∀ k, k < N → j ≠ 101 + 6 * k + 3) → s' j = s j) := by
  unfold fX7_leave
  refine Exists.elim (scat_loop (st := sX7_leave_rec1) (out := some) (fun k => 101 + 6 * k + 3) (fun k a => if a (101 + 6 * k + 3) = nI 1 ∧ a (101 + 6 * k + 2) ≤ a (101 + 6 * k + 4) then nI 2 else a (101 + 6 * k + 3)) N (fun a => a 4 = nI N) (fun a i v ha hi => (pk_un (by omega)).trans ha) (fun rec a ha => ?_) (fun rec i a hi ha => ?_) (fun i m _ _ h => by omega) (fun i m a v _ _ h => ?_) N 0 gFU s (by omega) (by unfold gFU; omega) h4) (fun a ⟨h1, _, h2, h3⟩ => ?_)
  · simp (disch := omega) only [sX7_leave_rec1, q_l4, q_gd, q_cl, ha, q_le, Nat.le_refl, if_true]
  · simp (disch := omega) only [sX7_leave_rec1, q_l4, q_l3, q_l2, q_l1, q_gd, q_cl, ha, q_le, if_neg (Nat.not_le.mpr hi), m_ofParty, m_setParty, bd1_e, q_jl, nI_add]
    by_cases c1 : a (101 + 6 * i + 3) = nI 1
    · by_cases c2 : a (101 + 6 * i + 4) < a (101 + 6 * i + 2)
      · rw [if_pos c1, if_pos c2, if_neg (fun q => Int32.not_le.mpr c2 q.2), upd_same]
      · rw [if_pos c1, if_neg c2, if_pos ⟨c1, Int32.not_lt.mp c2⟩]
    · rw [if_neg c1, if_neg (fun q => c1 q.1), upd_same]
  · simp (disch := omega) only [pk_un]
  · exact ⟨a, h1, fun k hk => h2 k (Nat.zero_le _) hk, fun j hj => h3 j (fun m _ hm => hj m hm)⟩
theorem p_sleepOnce {zt zl : Nat → Int32} {N : Nat} (hN : N ≤ 17) : ∃ zl', fX2_sleepOnce zt zl (nI N) = some zl' ∧ (∀ k, k < N → zl' k = if zt k = nI 1 then zl k + nI 1 else zl k) ∧ (∀ j, N ≤ j → zl' j = zl j) := by
  unfold fX2_sleepOnce
  refine Exists.elim (scat_loop (st := sX2_sleepOnce_rec1 zt (nI N)) (out := some) (fun k => k) (fun k a => if zt k = nI 1 then a k + nI 1 else a k) N (fun _ => True) (fun _ _ _ _ _ => trivial) (fun rec a _ => ?_) (fun rec i a hi _ => ?_) (fun _ _ _ _ h => h) (fun i m a v _ _ h => ?_) N 0 gFU zl (by omega) (by unfold gFU; omega) trivial) (fun a ⟨h1, _, h2, h3⟩ => ?_)
  · simp (disch := omega) only [sX2_sleepOnce_rec1, q_le, Nat.le_refl, if_true]
  · simp (disch := omega) only [sX2_sleepOnce_rec1, q_le, if_neg (Nat.not_le.mpr hi), q_gd, q_cl, q_jl, q_l1, nI_add]
    split <;> simp only [upd_same]
  · simp only [pk_un (Ne.symm h)]
  · exact ⟨a, h1, fun k hk => h2 k (Nat.zero_le _) hk, fun j hj => h3 j (fun m _ hm => by omega)⟩
