/-! ===== copies; nights asked for ===== -/
theorem m_begins (ss bg : Nat → Int32) : ∃ bg', fX7_begins ss bg = some bg' ∧ (∀ j, j < 599 → bg' j = ss j) := by
  unfold fX7_begins
  refine Exists.elim (scat_up (st := sX7_begins_rec1 ss) (out := some) (fun k => k) (fun k _ => ss k) 0 599 (fun _ => True) (fun _ _ _ _ _ _ => trivial) (fun rec a _ => ?_) (fun rec i a _ hi _ => ?_) (fun _ _ _ _ h => h) (fun _ _ _ _ _ _ _ => rfl) 599 0 gFU bg (Nat.le_refl _) (by omega) (by unfold gFU; omega) trivial) (fun a ⟨g1, _, g2, g3⟩ => ?_)
  · simp (disch := omega) only [sX7_begins_rec1, q_l599, q_le, Nat.le_refl, if_true]
  · simp (disch := omega) only [sX7_begins_rec1, q_l599, q_le, if_neg (Nat.not_le.mpr hi), q_gd, q_cl, q_jl, q_l1, nI_add]
  · exact ⟨a, g1, fun j hj => g2 j (Nat.zero_le _) hj⟩
theorem m_returns (ss bg : Nat → Int32) : ∃ ss', fX7_returns ss bg = some ss' ∧ (∀ j, j < 599 → ss' j = bg j) := by
  unfold fX7_returns
  refine Exists.elim (scat_up (st := sX7_returns_rec1 bg) (out := some) (fun k => k) (fun k _ => bg k) 0 599 (fun _ => True) (fun _ _ _ _ _ _ => trivial) (fun rec a _ => ?_) (fun rec i a _ hi _ => ?_) (fun _ _ _ _ h => h) (fun _ _ _ _ _ _ _ => rfl) 599 0 gFU ss (Nat.le_refl _) (by omega) (by unfold gFU; omega) trivial) (fun a ⟨g1, _, g2, g3⟩ => ?_)
  · simp (disch := omega) only [sX7_returns_rec1, q_l599, q_le, Nat.le_refl, if_true]
  · simp (disch := omega) only [sX7_returns_rec1, q_l599, q_le, if_neg (Nat.not_le.mpr hi), q_gd, q_cl, q_jl, q_l1, nI_add]
  · exact ⟨a, g1, fun j hj => g2 j (Nat.zero_le _) hj⟩
theorem q_subx (x y : Int32) : x + y - x = y := by
  rw [Int32.add_comm]
  exact Int32.add_sub_cancel ..
theorem sleep_sim {l : List LT} {N d : Nat} {lk la ll us sp zs zd zn zt zl zc sto sg : Nat → Int32} {hu cn gn cs : Int32} {s : Nat → Int32} (p : Int32) (hd : d ≤ 365) (h : NightR l N d lk la ll us sp zs zd zn zt zl zc sto sg hu cn gn cs s) :
    ∃ ans l' d' lk' la' ll' us' sp' zt' zl' zc' hu' cn' gn' cs' s', fX1_passNights lk la ll (nI l.length) us sp zs zd zn zt zl zc (nI N) sto sg (nI d) hu cn gn cs p = some (ans, lk', la', ll', nI (List.length l'), us', sp', zt', zl', zc', nI d', hu', cn', gn', cs') ∧ fX7_sleeps s p = some (ans, s') ∧ d' ≤ 365 ∧ NightR l' N d' lk' la' ll' us' sp' zs zd zn zt' zl' zc' sto sg hu' cn' gn' cs' s' ∧ (∀ j, nightF j → s' j = s j) ∧ ((ans < 0 ∧ s' = s) ∨ (∃ A, A ≤ 6120 ∧ ans = nI A)) := by
  have d10 : (nI 1 = nI 0) = False := by decide
  have nm1 : (-1 : Int32) < 0 := by decide
  have nm3 : (-3 : Int32) < 0 := by decide
  have h0 : s 0 = nI d := h.2.2.2.2.2.1
  have h5 : s 5 = hu := h.2.2.2.2.2.2.1
  rcases m_in p (lo := 1) (hi := 60) (by omega) (by omega) with ⟨a1, a2⟩ | ⟨k, a1, rfl, a2, a3⟩
  · refine ⟨-1, l, d, lk, la, ll, us, sp, zt, zl, zc, hu, cn, gn, cs, s, ?_, ?_, hd, h, fun _ _ => rfl, Or.inl ⟨nm1, rfl⟩⟩
    · unfold fX1_passNights
      rw [q_l1, if_pos a1]
    · unfold fX7_sleeps
      simp (disch := omega) only [q_l1, q_l60, a2, bd1_e, q_l0, if_true]
  · have k1 : ¬ k < 1 := by omega
    by_cases ck : k ≤ 60
    · rw [if_pos ck] at a3
      by_cases cd : d + k ≤ 365
      · obtain ⟨l', lk', la', ll', us', sp', zt', zl', zc', cn', gn', cs', s', A, f1, f2, f3, f4, f5⟩ := sleeps_loop (P := k) (hu0 := hu) (v7 := hu) ck k 0 gFU gFU d l lk la ll us sp zt zl zc hu cn gn cs s (Nat.zero_add _) cd (by unfold gFU; omega) (by unfold gFU; omega) h
        rw [q_subx] at f1 f2
        refine ⟨nI A, l', d + k, lk', la', ll', us', sp', zt', zl', zc', hu + nI A, cn', gn', cs', s', ?_, ?_, cd, f3, f5, Or.inr ⟨A, by omega, rfl⟩⟩
        · unfold fX1_passNights
          simp (disch := omega) only [q_l1, q_l60, q_l365, q_l0, q_lt, q_le, k1, ck, nI_add, cd, if_false, if_true, f1]
        · unfold fX7_sleeps
          simp (disch := omega) only [q_l1, q_l60, a3, bd1_e, q_l0, d10, if_false, q_gd, q_cl, h0, nI_add, q_l365, q_le, cd, if_true, q_l5, h5, q_jl, f2]
      · refine ⟨-3, l, d, lk, la, ll, us, sp, zt, zl, zc, hu, cn, gn, cs, s, ?_, ?_, hd, h, fun _ _ => rfl, Or.inl ⟨nm3, rfl⟩⟩
        · unfold fX1_passNights
          simp (disch := omega) only [q_l1, q_l60, q_l365, q_lt, q_le, k1, ck, nI_add, cd, if_false, if_true]
        · unfold fX7_sleeps
          simp (disch := omega) only [q_l1, q_l60, a3, bd1_e, q_l0, d10, if_false, q_gd, q_cl, h0, nI_add, q_l365, q_le, cd]
    · rw [if_neg ck] at a3
      refine ⟨-1, l, d, lk, la, ll, us, sp, zt, zl, zc, hu, cn, gn, cs, s, ?_, ?_, hd, h, fun _ _ => rfl, Or.inl ⟨nm1, rfl⟩⟩
      · unfold fX1_passNights
        simp (disch := omega) only [q_l1, q_l60, q_lt, q_le, k1, ck, if_false]
      · unfold fX7_sleeps
        simp (disch := omega) only [q_l1, q_l60, a3, bd1_e, q_l0, if_true]
