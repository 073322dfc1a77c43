/-! ===== the reference's snapshot ===== -/
theorem m_keep {ss kp : Nat → Int32} {d : Nat} (h0 : ss 0 = nI d) : ∃ kp', fX7_keep ss kp = some (nI d, kp', nI 1) ∧ (∀ j, j < 599 → kp' j = ss j) := by
  unfold fX7_keep
  refine Exists.elim (scat_up (st := sX7_keep_rec1 ss) (out := fun a => some (nI d, a, nI 1)) (fun k => k) (fun k _ => ss k) 0 599 (fun _ => True) (fun _ _ _ _ _ _ => trivial) (fun rec a _ => ?_) (fun rec i a _ hi _ => ?_) (fun _ _ _ _ h => h) (fun _ _ _ _ _ _ _ => rfl) 599 0 gFU kp (Nat.le_refl _) (by omega) (by unfold gFU; omega) trivial) (fun a ⟨g1, _, g2, g3⟩ => ?_)
  · simp (disch := omega) only [sX7_keep_rec1, q_l599, q_le, Nat.le_refl, if_true, q_l0, q_gd, q_cl, h0, q_l1]
  · simp (disch := omega) only [sX7_keep_rec1, q_l599, q_le, if_neg (Nat.not_le.mpr hi), q_gd, q_cl, q_jl, q_l1, nI_add]
  · exact ⟨a, g1, fun j hj => g2 j (Nat.zero_le _) hj⟩
