/-! ===== counts ===== -/
theorem set_at2 {sg s : Nat → Int32} {y : Int32} (p : Int32) (h : SetR sg s) (hy : p - (20 : Int32) = y) : ∃ r, fX1_settingAt sg y = some r ∧ (bd1 (fX7_in p (nI 20) (nI 23)) fun r35 => if r35 = nI 0 then some (-1 : Int32) else gd (inB (((10 : Int32) + p) - (20 : Int32)) 599) <| some (s ((((10 : Int32) + p) - (20 : Int32))).toNatClampNeg)) = some r := by
  have d10 : ¬ nI 1 = nI 0 := by decide
  have hb : p = y + nI 20 := by
    have e : p - (20 : Int32) + 20 = p := Int32.sub_add_cancel ..
    rw [hy, show (20 : Int32) = nI 20 by decide] at e
    exact e.symm
  rcases in_c p (lo := 20) (hi := 23) (by omega) (by omega) with ⟨k, k1, k2, rfl, k3⟩ | ⟨k3, k4⟩
  · obtain ⟨j, rfl⟩ : ∃ j, k = j + 20 := ⟨k - 20, by omega⟩
    have hyj : y = nI j := by
      rw [← hy, show (20 : Int32) = nI 20 by decide, q_subn (by omega) (by omega)]
      congr 1
    subst hyj
    have j0 : ¬ j < 0 := by omega
    have j4 : ¬ 4 ≤ j := by omega
    refine ⟨sg j, ?_, ?_⟩
    · unfold fX1_settingAt
      simp (disch := omega) only [q_l0, q_l4, q_lt, q_le, j0, j4, if_false, q_gd, q_cl]
    · have e : (10 : Int32) + nI (j + 20) - 20 = nI (10 + j) := by
        rw [show (10 : Int32) = nI 10 by decide, show (20 : Int32) = nI 20 by decide, nI_add, q_subn (by omega) (by omega)]
        congr 1
      rw [k3, bd1_e, if_neg d10, e, q_gd (by omega) (by omega), q_cl (by omega)]
      exact congrArg some (h.1 j (by omega))
  · refine ⟨-1, ?_, by rw [k3, bd1_e, if_pos rfl]⟩
    unfold fX1_settingAt
    by_cases c1 : y < 0
    · rw [if_pos c1]
    · rw [if_neg c1]
      obtain ⟨j, hj, rfl⟩ := nI_of c1
      by_cases c2 : (4 : Int32) ≤ nI j
      · rw [if_pos c2]
      · exfalso
        rw [q_l4, q_le (by omega) hj] at c2
        rw [hb, nI_add] at k4
        rcases k4 with k4 | k4
        · rw [q_lt (by omega) (by omega)] at k4
          omega
        · rw [q_lt (by omega) (by omega)] at k4
          omega
theorem count_sim {x : HutS} {s : Nat → Int32} {ke lnn tl ik st ln : Int32} (p : Int32) (h : HR x s) (hl : lnn = st) (ht : tl = ln) (hk : (ke = nI 0 ∧ ik = nI 0) ∨ (ke = nI 1 ∧ ik = nI 1)) : ∃ r, fX6_count ke lnn tl x p = some r ∧ fX7_count s ik st ln p = some r := by
  have d10 : ¬ nI 1 = nI 0 := by decide
  obtain ⟨l, pl, N, d, F, lk, la, ll, us, sp, zs, zd, zn, zt, zl, zc, sto, sg, hu, cn, gn, cs, pk, pa, pd, br, hN, hd, rfl, hh⟩ := h
  subst hl ht
  obtain ⟨hL, ⟨hN17, h4, hp, hr, hl4⟩, hU, hS, hT, h0, h5, h6, h7, h8⟩ := hh.1
  have g : ∀ {α : Type} {i : Nat} (y : Option α), i < 599 → gd (inB (nI i) 599) y = y := fun y hi => q_gd hi (by omega)
  have hst : ∀ c, sumS (fun _ => nI 1) (fun k => s (101 + 6 * k + 3)) c 0 N (nI 0) = sumS (fun _ => nI 1) zt c 0 N (nI 0) := fun c => sumS_congr N 0 (nI 0) (fun j _ hj => ⟨rfl, (hr j (by omega)).2.2.2.1⟩)
  have e1 := p_isStorm (sto := sto) (d := d) (by omega) (fun hk => (hT d hk).2.1)
  have eT : (if d < 396 ∧ s (203 + d) = nI 1 then nI 1 else nI 0) = (if d < 396 ∧ sto d = nI 1 then nI 1 else nI 0) := by
    by_cases hk : d < 396
    · rw [(hT d hk).1]
    · rw [if_neg (fun q => hk q.1), if_neg (fun q => hk q.1)]
  have m1 := m_isStorm (s := s) (d := d) (by omega)
  rw [eT] at m1
  generalize (if d < 396 ∧ sto d = nI 1 then nI 1 else nI 0) = sv at e1 m1
  unfold fX6_count fX7_count
  dsimp only
  by_cases c0 : p = (0 : Int32)
  · rw [if_pos c0, if_pos c0]
    refine ⟨_, rfl, ?_⟩
    rw [q_l4, g _ (by omega), q_cl (by omega)]
    exact congrArg some h4
  rw [if_neg c0, if_neg c0]
  by_cases c1 : p = (1 : Int32)
  · rw [if_pos c1, if_pos c1]
    refine ⟨sumS (fun _ => nI 1) zt (nI 0) 0 N (nI 0), ?_, ?_⟩
    · rw [q_l0, p_withStatus hN17, bd1_e]
    · rw [q_l0, m_partiesOf h4 hN17, bd1_e, hst]
  rw [if_neg c1, if_neg c1]
  by_cases c2 : p = (2 : Int32)
  · rw [if_pos c2, if_pos c2]
    refine ⟨sumS (fun _ => nI 1) zt (nI 1) 0 N (nI 0), ?_, ?_⟩
    · rw [q_l1, p_withStatus hN17, bd1_e]
    · rw [q_l1, m_partiesOf h4 hN17, bd1_e, hst]
  rw [if_neg c2, if_neg c2]
  by_cases c3 : p = (3 : Int32)
  · rw [if_pos c3, if_pos c3]
    refine ⟨sumS zs zt (nI 1) 0 N (nI 0), ?_, ?_⟩
    · rw [p_guests hN17, bd1_e]
    · rw [m_guests h4 hN17, bd1_e]
      exact congrArg some (hr.guests _ _)
  rw [if_neg c3, if_neg c3]
  by_cases c4 : p = (4 : Int32)
  · rw [if_pos c4, if_pos c4]
    refine ⟨_, rfl, ?_⟩
    rw [q_l0, g _ (by omega), q_cl (by omega)]
    exact congrArg some h0
  rw [if_neg c4, if_neg c4]
  by_cases c5 : p = (5 : Int32)
  · rw [if_pos c5, if_pos c5]
    refine ⟨if sv = nI 0 then nI 0 else nI 1, ?_, ?_⟩
    · rw [e1, bd1_e, q_l0, q_l1]
      by_cases z : sv = nI 0
      · rw [if_pos z, if_pos z]
      · rw [if_neg z, if_neg z]
    · rw [q_l0, g _ (by omega), q_cl (by omega), h0, m1, bd1_e, q_l1]
      by_cases z : sv = nI 0
      · rw [if_pos z, if_pos z]
      · rw [if_neg z, if_neg z]
  rw [if_neg c5, if_neg c5]
  by_cases c6 : p = (6 : Int32)
  · rw [if_pos c6, if_pos c6]
    refine ⟨_, rfl, ?_⟩
    rw [q_l1, g _ (by omega), q_cl (by omega)]
    exact congrArg some hh.2.2.2.1
  rw [if_neg c6, if_neg c6]
  by_cases c7 : p = (7 : Int32)
  · rw [if_pos c7, if_pos c7]
    refine ⟨_, rfl, ?_⟩
    rw [q_l3, g _ (by omega), q_cl (by omega)]
    exact congrArg some hh.2.1.2.2.2.1
  rw [if_neg c7, if_neg c7]
  by_cases c8 : p = (8 : Int32)
  · rw [if_pos c8, if_pos c8, c8]
    refine ⟨_, rfl, ?_⟩
    rw [show (5 : Int32) + 8 - 8 = nI 5 by decide, g _ (by omega), q_cl (by omega)]
    exact congrArg some h5
  rw [if_neg c8, if_neg c8]
  by_cases c9 : p = (9 : Int32)
  · rw [if_pos c9, if_pos c9, c9]
    refine ⟨_, rfl, ?_⟩
    rw [show (5 : Int32) + 9 - 8 = nI 6 by decide, g _ (by omega), q_cl (by omega)]
    exact congrArg some h6
  rw [if_neg c9, if_neg c9]
  by_cases c10 : p = (10 : Int32)
  · rw [if_pos c10, if_pos c10, c10]
    refine ⟨_, rfl, ?_⟩
    rw [show (5 : Int32) + 10 - 8 = nI 7 by decide, g _ (by omega), q_cl (by omega)]
    exact congrArg some h7
  rw [if_neg c10, if_neg c10]
  by_cases c11 : p = (11 : Int32)
  · rw [if_pos c11, if_pos c11, c11]
    refine ⟨_, rfl, ?_⟩
    rw [show (5 : Int32) + 11 - 8 = nI 8 by decide, g _ (by omega), q_cl (by omega)]
    exact congrArg some h8
  rw [if_neg c11, if_neg c11]
  by_cases c12 : p = (12 : Int32)
  · rw [if_pos c12, if_pos c12]
    exact ⟨_, rfl, rfl⟩
  rw [if_neg c12, if_neg c12]
  by_cases c13 : p = (13 : Int32)
  · rw [if_pos c13, if_pos c13]
    exact ⟨_, rfl, rfl⟩
  rw [if_neg c13, if_neg c13]
  by_cases c14 : p = (14 : Int32)
  · rw [if_pos c14, if_pos c14]
    rcases hk with ⟨rfl, rfl⟩ | ⟨rfl, rfl⟩
    · exact ⟨0, by rw [q_l0, if_pos rfl], by rw [q_l0, if_pos rfl]⟩
    · exact ⟨1, by rw [q_l0, if_neg d10], by rw [q_l0, if_neg d10]⟩
  rw [if_neg c14, if_neg c14]
  obtain ⟨r, r1, r2⟩ := set_at2 p hS rfl
  refine ⟨r, by rw [r1, bd1_e], ?_⟩
  rw [q_l0, show (20 : Int32) = nI 20 by decide, q_l23]
  rw [show (20 : Int32) = nI 20 by decide] at r2
  exact r2
