/-! ===== the reference's snapshot ===== -/
theorem m_keep {ss kp : Nat → Int32} {d : Nat} (h0 : ss 0 = nI d) : ∃ kp', fX7_keep ss kp = some (nI d, kp', nI 1) ∧ (∀ j, j < 599 → kp' j = ss j) := by
  unfold fX7_keep
  refine Exists.elim (scat_up (st := sX7_keep_rec1 ss) (out := fun a => some (nI d, a, nI 1)) (fun k => k) (fun k _ => ss k) 0 599 (fun _ => True) (fun _ _ _ _ _ _ => trivial) (fun rec a _ => ?_) (fun rec i a _ hi _ => ?_) (fun _ _ _ _ h => h) (fun _ _ _ _ _ _ _ => rfl) 599 0 gFU kp (Nat.le_refl _) (by omega) (by unfold gFU; omega) trivial) (fun a ⟨g1, _, g2, g3⟩ => ?_)
  · simp (disch := omega) only [sX7_keep_rec1, q_l599, q_le, Nat.le_refl, if_true, q_l0, q_gd, q_cl, h0, q_l1]
  · simp (disch := omega) only [sX7_keep_rec1, q_l599, q_le, if_neg (Nat.not_le.mpr hi), q_gd, q_cl, q_jl, q_l1, nI_add]
  · exact ⟨a, g1, fun j hj => g2 j (Nat.zero_le _) hj⟩
theorem m_restore {ss bg kp pt : Nat → Int32} {st d : Nat} (hst : st ≤ 4) (hd : d < 2 ^ 20) (hk : kp 0 = nI d) : ∃ ss' bg' pt', fX7_restore ss bg kp (nI 1) pt (nI st) = some (nI d, ss', bg', pt', nI (if st = 4 then 4 else st + 1)) ∧ (∀ j, j < 599 → ss' j = kp j) ∧ (∀ j, j < 599 → bg' j = ss j) ∧ (∀ j, j < 599 → pt' (599 * (if st = 4 then 3 else st) + j) = bg' j) ∧ (∀ j, j < 599 * (if st = 4 then 3 else st) → pt' j = pt (if st = 4 then j + 599 else j)) := by
  obtain ⟨bg', b1, b2⟩ := m_begins ss bg
  have d10 : ¬ (nI 1 = nI 0) := by decide
  refine Exists.elim (scat_up (st := sX7_restore_rec4 kp pt (nI st) bg') (out := fun a => gd (inB (0 : Int32) 599) <| bd4 (fX7_acted a bg' pt (nI st) (a ((0 : Int32)).toNatClampNeg)) fun r9 ss10 pt11 st12 => some (r9, ss10, bg', pt11, st12)) (fun k => k) (fun k _ => kp k) 0 599 (fun _ => True) (fun _ _ _ _ _ _ => trivial) (fun rec a _ => ?_) (fun rec i a _ hi _ => ?_) (fun _ _ _ _ h => h) (fun _ _ _ _ _ _ _ => rfl) 599 0 gFU ss (Nat.le_refl _) (by omega) (by unfold gFU; omega) trivial) (fun a ⟨g1, _, g2, g3⟩ => ?_)
  · simp (disch := omega) only [sX7_restore_rec4, q_l599, q_le, Nat.le_refl, if_true]
  · simp (disch := omega) only [sX7_restore_rec4, q_l599, q_le, if_neg (Nat.not_le.mpr hi), q_gd, q_cl, q_jl, q_l1, nI_add]
  · have a0 : a 0 = nI d := (g2 0 (Nat.le_refl _) (by omega)).trans hk
    obtain ⟨pt', p1, p2, p3⟩ := m_acted (ss := a) (bg := bg') (pt := pt) (A := d) hst (by omega)
    refine ⟨a, bg', pt', ?_, fun j hj => g2 j (Nat.zero_le _) hj, b2, p2, p3⟩
    unfold fX7_restore
    rw [b1, bd1_e, q_l0, if_neg d10, g1]
    simp (disch := omega) only [q_l0, q_gd, q_cl, a0, p1, bd4_e]
theorem m_undo {ss pt : Nat → Int32} {st : Nat} (hst : st + 1 ≤ 4) : ∃ ss', fX7_undo ss pt (nI (st + 1)) = some (nI st, ss', nI st) ∧ (∀ j, j < 599 → ss' j = pt (599 * st + j)) := by
  have e : nI (st + 1) - nI 1 = nI st := q_dec2 (by omega)
  have n0 : ¬ nI (st + 1) = nI 0 := by rw [q_eq (by omega) (by omega)]; omega
  refine Exists.elim (scat_up (st := sX7_undo_rec3 pt (nI st)) (out := fun a => some (nI st, a, nI st)) (fun k => k) (fun k _ => pt (599 * st + k)) 0 599 (fun _ => True) (fun _ _ _ _ _ _ => trivial) (fun rec a _ => ?_) (fun rec i a _ hi _ => ?_) (fun _ _ _ _ h => h) (fun _ _ _ _ _ _ _ => rfl) 599 0 gFU ss (Nat.le_refl _) (by omega) (by unfold gFU; omega) trivial) (fun a ⟨g1, _, g2, g3⟩ => ?_)
  · simp (disch := omega) only [sX7_undo_rec3, q_l599, q_le, Nat.le_refl, if_true]
  · simp (disch := omega) only [sX7_undo_rec3, q_l599, q_le, if_neg (Nat.not_le.mpr hi), pk_mul, nI_add, q_gd, q_cl, q_jl, q_l1]
  · refine ⟨a, ?_, fun j hj => g2 j (Nat.zero_le _) hj⟩
    unfold fX7_undo
    rw [q_l0, if_neg n0, q_l1, e, q_jl]
    exact g1
