/-! ===== the reference's history ===== -/
theorem m_put {ss bg pt : Nat → Int32} {st : Nat} {p1 : Int32} (hst : st ≤ 3) : ∃ pt', gl2 (sX7_acted_rec15 ss bg p1 (nI st)) gFU 0 pt = some (p1, ss, pt', nI (st + 1)) ∧ (∀ j, j < 599 → pt' (599 * st + j) = bg j) ∧ (∀ j, j < 599 * st ∨ 599 * st + 599 ≤ j → pt' j = pt j) := by
  refine Exists.elim (scat_up (st := sX7_acted_rec15 ss bg p1 (nI st)) (out := fun a => some (p1, ss, a, nI (st + 1))) (fun k => 599 * st + k) (fun k _ => bg k) 0 599 (fun _ => True) (fun _ _ _ _ _ _ => trivial) (fun rec a _ => ?_) (fun rec i a _ hi _ => ?_) (fun _ _ _ _ h => by omega) (fun _ _ _ _ _ _ _ => rfl) 599 0 gFU pt (Nat.le_refl _) (by omega) (by unfold gFU; omega) trivial) (fun a ⟨g1, _, g2, g3⟩ => ?_)
  · simp (disch := omega) only [sX7_acted_rec15, q_l599, q_le, Nat.le_refl, if_true, q_jl, q_l1, nI_add]
  · simp (disch := omega) only [sX7_acted_rec15, q_l599, q_le, if_neg (Nat.not_le.mpr hi), q_gd, q_cl, pk_mul, nI_add, q_jl, q_l1]
  · exact ⟨a, g1, fun j hj => g2 j (Nat.zero_le _) hj, fun j hj => g3 j (fun m _ hm => by omega)⟩
/-- a change is noted: the states so far, without the oldest if there were four, and this one -/
theorem m_acted {ss bg pt : Nat → Int32} {st A : Nat} (hst : st ≤ 4) (hA : A < 2 ^ 31) : ∃ pt', fX7_acted ss bg pt (nI st) (nI A) = some (nI A, ss, pt', nI (if st = 4 then 4 else st + 1)) ∧ (∀ j, j < 599 → pt' (599 * (if st = 4 then 3 else st) + j) = bg j) ∧ (∀ j, j < 599 * (if st = 4 then 3 else st) → pt' j = pt (if st = 4 then j + 599 else j)) := by
  have hp : (nI 0 ≤ nI A) = True := by rw [q_le (by omega) hA]; exact eq_true (Nat.zero_le _)
  by_cases c : st = 4
  · subst c
    have e : nI 4 - nI 1 = nI 3 := by decide
    obtain ⟨a, g1, g2⟩ : ∃ a, (∀ J3 : (Nat → Int32) → Int32 → Option (Int32 × (Nat → Int32) × (Nat → Int32) × Int32), gl2 (sX7_acted_rec4 (nI 4) J3) gFU 0 pt = J3 a (nI 3)) ∧ (∀ j, j < 1797 → a j = pt (j + 599)) := by
      have hx : ∀ (J3 : (Nat → Int32) → Int32 → Option (Int32 × (Nat → Int32) × (Nat → Int32) × Int32)), ∃ a, gl2 (sX7_acted_rec4 (nI 4) J3) gFU 0 pt = J3 a (nI 3) ∧ a = (fun j => if j < 1797 then pt (j + 599) else pt j) := by
        intro J3
        refine Exists.elim (scat_up (st := sX7_acted_rec4 (nI 4) J3) (out := fun a => J3 a (nI 3)) (fun k => k) (fun k a => a (k + 599)) 0 1797 (fun _ => True) (fun _ _ _ _ _ _ => trivial) (fun rec a _ => ?_) (fun rec i a _ hi _ => ?_) (fun _ _ _ _ h => h) (fun i m a v _ _ h => pk_un (by omega)) 1797 0 gFU pt (Nat.le_refl _) (by omega) (by unfold gFU; omega) trivial) (fun a ⟨g1, _, g2, g3⟩ => ?_)
        · simp (disch := omega) only [sX7_acted_rec4, q_l1797, q_le, Nat.le_refl, if_true, q_jl, q_l1, e]
        · simp (disch := omega) only [sX7_acted_rec4, q_l1797, q_l599, q_le, if_neg (Nat.not_le.mpr hi), q_gd, q_cl, nI_add, q_jl, q_l1]
        · refine ⟨a, g1, funext fun j => ?_⟩
          by_cases h : j < 1797
          · rw [if_pos h]; exact g2 j (Nat.zero_le _) h
          · rw [if_neg h]; exact g3 j (fun m _ hm => by omega)
      refine ⟨fun j => if j < 1797 then pt (j + 599) else pt j, fun J3 => ?_, fun j hj => if_pos hj⟩
      obtain ⟨a, a1, a2⟩ := hx J3
      rw [a1, a2]
    obtain ⟨pt', w1, w2, w3⟩ := m_put (ss := ss) (bg := bg) (pt := a) (st := 3) (p1 := nI A) (by omega)
    refine ⟨pt', ?_, fun j hj => w2 j hj, fun j hj => ?_⟩
    · unfold fX7_acted mrg
      rw [q_l0, if_pos (by rw [hp]; trivial)]
      dsimp only
      rw [if_pos q_l4.symm, ← q_l0, g1]
      exact w1
    · have hj' : j < 1797 := hj
      rw [w3 j (by omega), g2 j hj']
      rfl
  · rw [if_neg c, if_neg c]
    obtain ⟨pt', w1, w2, w3⟩ := m_put (ss := ss) (bg := bg) (pt := pt) (st := st) (p1 := nI A) (by omega)
    refine ⟨pt', ?_, w2, fun j hj => by rw [w3 j (Or.inl hj), if_neg c]⟩
    have n4 : ¬ nI st = (4 : Int32) := by rw [q_l4, q_eq (by omega) (by omega)]; exact c
    unfold fX7_acted mrg
    rw [q_l0, if_pos (by rw [hp]; trivial)]
    dsimp only
    rw [if_neg n4, ← q_l0]
    exact w1
