/-! ===== an act of the law ===== -/
theorem count4 (ke lnn tl : Int32) (x : HutS) : fX6_count ke lnn tl x 4 = some x.2.2.2.2.2.2.2.2.2.2.2.2.2.2.2.2.2.2.2.2.1 := by
  unfold fX6_count
  rw [if_neg (by decide), if_neg (by decide), if_neg (by decide), if_neg (by decide), if_pos rfl]
theorem count0 (ke lnn tl : Int32) (x : HutS) : fX6_count ke lnn tl x 0 = some x.2.2.2.2.2.2.2.2.2.2.2.2.2.2.2.2.2.1 := by
  unfold fX6_count
  rw [if_pos rfl]
theorem count12 (ke lnn tl : Int32) (x : HutS) : fX6_count ke lnn tl x 12 = some lnn := by
  unfold fX6_count
  rw [if_neg (by decide), if_neg (by decide), if_neg (by decide), if_neg (by decide), if_neg (by decide), if_neg (by decide), if_neg (by decide), if_neg (by decide), if_neg (by decide), if_neg (by decide), if_neg (by decide), if_neg (by decide), if_pos rfl]
theorem count14 (ke lnn tl : Int32) (x : HutS) : fX6_count ke lnn tl x 14 = some (if ke = 0 then 0 else 1) := by
  unfold fX6_count
  rw [if_neg (by decide), if_neg (by decide), if_neg (by decide), if_neg (by decide), if_neg (by decide), if_neg (by decide), if_neg (by decide), if_neg (by decide), if_neg (by decide), if_neg (by decide), if_neg (by decide), if_neg (by decide), if_neg (by decide), if_neg (by decide), if_pos rfl]
  by_cases q : ke = 0
  · rw [if_pos q, if_pos q]
  · rw [if_neg q, if_neg q]
theorem HR.nums {x : HutS} {s : Nat → Int32} (h : HR x s) : ∃ N d, N ≤ 16 ∧ d ≤ 365 ∧ x.2.2.2.2.2.2.2.2.2.2.2.2.2.2.2.2.2.1 = nI N ∧ x.2.2.2.2.2.2.2.2.2.2.2.2.2.2.2.2.2.2.2.2.1 = nI d := by
  obtain ⟨l, pl, N, d, F, lk, la, ll, us, sp, zs, zd, zn, zt, zl, zc, sto, sg, hu, cn, gn, cs, pk, pa, pd, br, hN, hd, rfl, hh⟩ := h
  exact ⟨N, d, hN, hd, rfl, rfl⟩
def AP (k : Nat) (xn : HutS) (y : Option (Int32 × Int32 × Int32 × (Nat → Nat) × (Nat → Int32) × Int32 × (Nat → Int32) × Int32 × Int32 × Int32 × Int32 × Int32 × Int32 × HutS × HutS × HutS × HutS × HutS × HutS × HutS × HutS × HutS × HutS)) : Prop := ∃ (ke' lnn' : Int32) (pm' : Nat → Nat) (ch' : Nat → Int32) (tl' : Int32) (nu' : Nat → Int32) (le' nx' cmd' pos' rea' cau' : Int32) (xn' xt' xp' xr' xw' g0 g1 g2 g3 g4 : HutS), y = some (1, ke', lnn', pm', ch', tl', nu', le', nx', cmd', pos', rea', cau', xn', xt', xp', xr', xw', g0, g1, g2, g3, g4) ∧ Out k xn lnn' pm' xn' g0 g1 g2 g3 g4 ∧ (∃ t, tl' = nI t ∧ TxtR t ch' ch') ∧ (ke' = nI 0 ∨ (ke' = nI 1 ∧ HG xp'))
def TS (k : Nat) (ke lnn : Int32) (pm : Nat → Nat) (ch : Nat → Int32) (tl : Int32) (xn xp h0 h1 h2 h3 h4 : HutS) : Prop := TopH k lnn pm h0 h1 h2 h3 h4 ∧ HG xn ∧ (∃ t, tl = nI t ∧ TxtR t ch ch) ∧ (ke = nI 0 ∨ (ke = nI 1 ∧ HG xp))
set_option maxHeartbeats 8000000 in
set_option maxRecDepth 20000 in
theorem acts_v {k : Nat} (ke lnn : Int32) (pm : Nat → Nat) (ch : Nat → Int32) (tl : Int32) (nu : Nat → Int32) (le nx cmd pos rea cau : Int32) (xn xt xp xr xw h0 h1 h2 h3 h4 : HutS) (hS : TS k ke lnn pm ch tl xn xp h0 h1 h2 h3 h4) (p2 p3 : Int32) : AP k xn (fL_acts ke lnn pm ch tl nu le nx cmd pos rea cau xn xt xp xr xw h0 h1 h2 h3 h4 p2 p3) := by
  obtain ⟨hH, hx, ⟨t, rfl, hTx⟩, hk⟩ := hS
  have hx2 := hx
  obtain ⟨⟨s, hr⟩, hI⟩ := hx2
  obtain ⟨N, d, hN, hd, eN, ed⟩ := hr.nums
  have c0 : ∀ ke lnn tl, fX6_count ke lnn tl xn 0 = some (nI N) := fun ke lnn tl => by rw [count0, eN]
  have c4 : ∀ ke lnn tl, fX6_count ke lnn tl xn 4 = some (nI d) := fun ke lnn tl => by rw [count4, ed]
  obtain ⟨op, op1, o1⟩ := low_v p2 (n := 20) (by omega) (by omega)
  obtain ⟨kk, k1, k2⟩ := low_v (p2 >>> ((5 : Int32) &&& 31)) (n := N + 1) (by omega) (by omega)
  have k2' : fL_low (p2 >>> ((5 : Int32) &&& 31)) (nI N + (1 : Int32)) = some (nI kk) := by
    rw [q_l1, nI_add]
    exact k2
  have fin : ∀ {lnn' : Int32} {pm' : Nat → Nat} {xn' xt' g0 g1 g2 g3 g4 : HutS}, Out k xn lnn' pm' xn' g0 g1 g2 g3 g4 → AP k xn (some ((1 : Int32), ke, lnn', pm', ch, nI t, nu, le, nx, cmd, pos, rea, cau, xn', xt', xp, xr, xw, g0, g1, g2, g3, g4)) := fun h => ⟨_, _, _, _, _, _, _, _, _, _, _, _, _, _, _, _, _, _, _, _, _, _, rfl, h, ⟨t, rfl, hTx⟩, hk⟩
  unfold fL_acts
  rw [show fL_low p2 (20 : Int32) = _ from o1, bd1_e, c4, bd1_e, c0, bd1_e, k2', bd1_e]
  refine P_ite (fun _ => P_ite (fun _ => P_ite (fun _ => P_ite (fun _ => ?_) (fun _ => P_ite (fun _ => ?_) (fun _ => P_ite (fun _ => ?_) (fun _ => P_ite (fun _ => P_ite (fun _ => ?_) (fun _ => P_ite (fun _ => ?_) (fun _ => ?_))) (fun _ => ?_))))) (fun _ => ?_)) (fun _ => ?_)) (fun _ => ?_)
  · -- cancel
    obtain ⟨B, b1, b2, b3⟩ := x_cancel hr eN k1 hN
    obtain ⟨ans, lnn', pm', xn', g0, g1, g2, g3, g4, e1, e2, e3⟩ := a_cancel (nI kk) hH hx
    have leaf : ∀ z : Int32, ans = z → AP k xn (if ans = z then some ((1 : Int32), ke, lnn', pm', ch, nI t, nu, le, nx, cmd, pos, rea, cau, xn', xt, xp, xr, xw, g0, g1, g2, g3, g4) else none) := fun z hz => by
      rw [if_pos hz]
      exact fin e3
    rw [b1, bd1_e, q_mrg]
    refine P_ite (fun q => ?_) (fun q => ?_)
    · rw [q_le (by omega) (by omega)] at q
      have hkN : kk = N := by omega
      rw [e1]
      simp only [bd9_e, q_mrg]
      refine P_ite (fun _ => leaf _ (b3 hkN ans xn' e2)) (fun q2 => absurd (by rw [hkN]) q2)
    · rw [q_le (by omega) (by omega)] at q
      obtain ⟨v, v1, v2, v3⟩ := b2 (by omega)
      have ea := v3 ans xn' e2
      rw [v2, bd1_e, e1]
      simp only [bd9_e, q_mrg]
      refine P_ite (fun q2 => ?_) (fun _ => P_ite (fun q3 => leaf _ ?_) (fun q3 => leaf _ ?_))
      · exfalso
        rw [q_eq (by omega) (by omega)] at q2
        omega
      · rw [q_l0, q_le (by omega) (by omega)] at q3
        rw [ea, if_pos (by omega)]
      · rw [q_l0, q_le (by omega) (by omega)] at q3
        rw [ea, if_neg (by omega)]
  · -- storm
    obtain ⟨u, u1, u2⟩ := low_v p3 (n := 12) (by omega) (by omega)
    obtain ⟨w, w1, w2⟩ := low_v (p3 >>> ((4 : Int32) &&& 31)) (n := 5) (by omega) (by omega)
    obtain ⟨ans, lnn', pm', xn', g0, g1, g2, g3, g4, e1, e2, e3⟩ := a_storm (nI d + nI u - (1 : Int32)) (nI w) hH hx
    have hs := x_storm hr ed hd e2
    have leaf : ∀ z : Int32, ans = z → AP k xn (if ans = z then some ((1 : Int32), ke, lnn', pm', ch, nI t, nu, le, nx, cmd, pos, rea, cau, xn', xt, xp, xr, xw, g0, g1, g2, g3, g4) else none) := fun z hz => by
      rw [if_pos hz]
      exact fin e3
    rw [show fL_low p3 (12 : Int32) = _ from u2, bd1_e, q_jl, show fL_low (p3 >>> ((4 : Int32) &&& 31)) (5 : Int32) = _ from w2, bd1_e, e1, bd9_e, q_mrg]
    have bad : (nI d + nI u - (1 : Int32) < nI d ∨ (365 : Int32) < nI d + nI u - (1 : Int32) ∨ nI w = 0) → ans = -1 := by
      intro hb
      rcases hs with ⟨-, q⟩ | ⟨a, b, p1, p4, p5, p6, p7, p8, -⟩
      · exact q
      · exfalso
        rcases hb with hb | hb | hb
        · rw [p1, q_lt (by omega) (by omega)] at hb
          omega
        · rw [p1, q_l365, q_lt (by omega) (by omega)] at hb
          omega
        · rw [p4, q_l0, q_eq (by omega) (by omega)] at hb
          omega
    refine P_ite (fun q => leaf _ (bad (Or.inl q))) (fun q1 => P_ite (fun q => leaf _ (bad (Or.inr (Or.inl q)))) (fun q2 => P_ite (fun q => leaf _ (bad (Or.inr (Or.inr q)))) (fun q3 => ?_)))
    rw [q_mrg]
    rcases hs with ⟨q | q | q | q, -⟩ | ⟨a, b, p1, p4, p5, p6, p7, p8, ⟨c, h1, h2, h3⟩ | h3⟩
    · exact absurd q q1
    · exact absurd q q2
    · exfalso
      rw [q_l1, q_lt (by omega) (by omega)] at q
      exact q3 (by rw [show w = 0 by omega, q_l0])
    · exfalso
      rw [show (30 : Int32) = nI 30 by decide, q_lt (by omega) (by omega)] at q
      omega
    · rw [h3, p4, if_neg (show ¬ nI c < nI b by rw [q_lt (by omega) (by omega)]; omega), if_pos (show nI c ≤ (40 : Int32) by rw [q_l40, q_le (by omega) (by omega)]; exact h2)]
      exact fin e3
    · refine P_ite (fun _ => leaf _ h3) (fun q => ?_)
      exfalso
      rw [h3, p4] at q
      exact q (Int32.lt_of_lt_of_le (show (-3 : Int32) < 0 by decide) (by rw [q_l0, q_le (by omega) (by omega)]; omega))
  · -- clear
    obtain ⟨u, u1, u2⟩ := low_v p3 (n := 9) (by omega) (by omega)
    obtain ⟨ans, lnn', pm', xn', g0, g1, g2, g3, g4, e1, e2, e3⟩ := a_clear (nI d + nI u - (1 : Int32)) hH hx
    obtain ⟨hc1, hc2⟩ := x_clear hr ed hd e2
    obtain ⟨sv, s5⟩ : ∃ sv, ∀ ke lnn tl, fX6_count ke lnn tl xn 5 = some sv := by
      obtain ⟨M, b0, b1, b2, F, G, sv, -, -, -, -, -, -, -, -, z, -⟩ := x_fly hr
      exact ⟨_, z⟩
    rw [show fL_low p3 (9 : Int32) = _ from u2, bd1_e, q_jl, s5, bd1_e, e1, bd9_e]
    refine P_ite (fun q => ?_) (fun q => ?_)
    · have hz : 1 ≤ d + u := by
        by_cases z : 1 ≤ d + u
        · exact z
        · exfalso
          rw [show d = 0 by omega, show u = 0 by omega] at q
          exact absurd q (by decide)
      have ep : nI d + nI u - (1 : Int32) = nI (d + u - 1) := by rw [nI_add, q_l1, q_subn (by omega) (by omega)]
      have hq : d ≤ d + u - 1 := by
        rw [ep, q_le (by omega) (by omega)] at q
        exact q
      obtain ⟨⟨v, v1, v2⟩, hz2⟩ := hc2 (d + u - 1) ep hq (by omega)
      rw [if_neg (show ¬ ans < 0 by rw [v2]; exact nI_nn (by omega)), if_neg (show ¬ (1 : Int32) < ans by rw [v2, q_l1, q_lt (by omega) (by omega)]; omega)]
      refine P_ite (fun q5 => ?_) (fun _ => fin e3)
      rw [ep, q_eq (by omega) (by omega)] at q5
      obtain ⟨w1, w2⟩ := hz2 q5
      have ev : ans = sv := by
        have h9 := w1 ke lnn (nI t)
        rw [s5] at h9
        exact (Option.some.inj h9).symm
      rw [if_pos ev, w2, bd1_e, if_pos rfl]
      exact fin e3
    · rw [if_pos (hc1 (Int32.not_le.mp q))]
      exact fin e3
  · -- set
    obtain ⟨w, w1, w2⟩ := low_v p3 (n := 5) (by omega) (by omega)
    obtain ⟨v, v1, v2⟩ := low_v (p3 >>> ((3 : Int32) &&& 31)) (n := 13) (by omega) (by omega)
    obtain ⟨ans, lnn', pm', xn', g0, g1, g2, g3, g4, e1, e2, e3⟩ := a_set (nI w) (nI v) hH hx
    obtain ⟨hs1, hs2⟩ := x_set hr w1 v1 e2
    have leaf : ∀ z : Int32, ans = z → AP k xn (if ans = z then some ((1 : Int32), ke, lnn', pm', ch, nI t, nu, le, nx, cmd, pos, rea, cau, xn', xt, xp, xr, xw, g0, g1, g2, g3, g4) else none) := fun z hz => by
      rw [if_pos hz]
      exact fin e3
    have cw4 : (nI w = (4 : Int32)) = (w = 4) := by rw [q_l4, q_eq (by omega) (by omega)]
    have cv0 : (nI v = (0 : Int32)) = (v = 0) := by rw [q_l0, q_eq (by omega) (by omega)]
    have cw2 : (nI w < (2 : Int32)) = (w < 2) := by rw [q_l2, q_lt (by omega) (by omega)]
    have cw1 : (nI w = (1 : Int32)) = (w = 1) := by rw [q_l1, q_eq (by omega) (by omega)]
    have cv3 : ((3 : Int32) < nI v) = (3 < v) := by rw [q_l3, q_lt (by omega) (by omega)]
    have cwl : (nI w ≤ (1 : Int32)) = (w ≤ 1) := by rw [q_l1, q_le (by omega) (by omega)]
    have cv9 : (nI v ≤ (9 : Int32)) = (v ≤ 9) := by rw [q_l9, q_le (by omega) (by omega)]
    have t10 : ((1 : Int32) = 0) = False := by decide
    have t00 : ((0 : Int32) = 0) = True := by decide
    rw [show fL_low p3 (5 : Int32) = _ from w2, bd1_e, show fL_low (p3 >>> ((3 : Int32) &&& 31)) (13 : Int32) = _ from v2, bd1_e, q_mrg]
    refine P_ite (fun q => ?_) (fun q => ?_)
    · rw [cw4] at q
      have ea := hs1 q
      have cq : (nI w = (4 : Int32)) = True := cw4.trans (eq_true q)
      simp only [q_mrg, cq, if_true, e1, bd9_e, t10, if_false]
      exact leaf _ ea
    · rw [cw4] at q
      obtain ⟨old, o2, o3⟩ := hs2 (by omega)
      rw [o2, bd1_e]
      simp only [q_mrg, cw4, q, if_false, e1, bd9_e, cv0, cw2, cw1, cv3, cwl, cv9, t10, t00, if_true]
      by_cases b1 : v = 0 ∧ w < 2
      · rw [if_pos (Or.inl b1)] at o3
        simp only [b1.1, b1.2, if_true]
        exact leaf _ o3
      · by_cases b2 : w = 1 ∧ 3 < v
        · rw [if_pos (Or.inr (Or.inl b2))] at o3
          have nv : ¬ v = 0 := by omega
          simp only [nv, b2.1, b2.2, if_true, if_false]
          exact leaf _ o3
        · by_cases b3 : 1 < w ∧ 9 < v
          · rw [if_pos (Or.inr (Or.inr b3))] at o3
            have nv : ¬ v = 0 := by omega
            have nw1 : ¬ w = 1 := by omega
            have nwl : ¬ w ≤ 1 := by omega
            have nv9 : ¬ v ≤ 9 := by omega
            simp only [nv, nw1, nwl, nv9, if_true, if_false]
            exact leaf _ o3
          · rw [if_neg (by omega)] at o3
            by_cases nv : v = 0
            · have nw2 : ¬ w < 2 := by omega
              have nw1 : ¬ w = 1 := by omega
              have nwl : ¬ w ≤ 1 := by omega
              have nv9 : v ≤ 9 := by omega
              simp only [nv, nw2, nw1, nwl, if_true, if_false, Nat.zero_le]
              exact leaf _ o3
            · by_cases nw1 : w = 1
              · have n3 : ¬ 3 < v := by omega
                have nwl : w ≤ 1 := by omega
                simp only [nv, nw1, n3, if_true, if_false, Nat.le_refl]
                exact leaf _ o3
              · by_cases nwl : w ≤ 1
                · simp only [nv, nw1, nwl, if_true, if_false]
                  exact leaf _ o3
                · have nv9 : v ≤ 9 := by omega
                  simp only [nv, nw1, nwl, nv9, if_true, if_false]
                  exact leaf _ o3
  · -- keep, restore
    obtain ⟨w, w1, w2⟩ := low_v p3 (n := 2) (by omega) (by omega)
    rw [count14, bd1_e]
    have keep : ∀ v47 : Int32, AP k xn (bd3 (fX6_keep xn xp) fun r70 ke_72 xp_74 => bd1 (fX6_count ke_72 lnn (nI t) xn (4 : Int32)) fun r87 => if r70 = r87 then some ((1 : Int32), ke_72, lnn, pm, ch, nI t, nu, le, nx, cmd, pos, rea, cau, xn, xt, xp_74, xr, xw, h0, h1, h2, h3, h4) else if v47 = 0 then (if r70 = (-2 : Int32) then some ((1 : Int32), ke_72, lnn, pm, ch, nI t, nu, le, nx, cmd, pos, rea, cau, xn, xt, xp_74, xr, xw, h0, h1, h2, h3, h4) else none) else none) := by
      intro v47
      rw [a_keep hx, bd3_e, count4, bd1_e, if_pos rfl]
      exact ⟨_, _, _, _, _, _, _, _, _, _, _, _, _, _, _, _, _, _, _, _, _, _, rfl, ⟨hx, k, hH, Or.inl ⟨rfl, rfl⟩⟩, ⟨t, rfl, hTx⟩, Or.inr ⟨by decide, hx⟩⟩
    have rest : ∀ v47 : Int32, (ke = nI 0 → v47 = 0) → AP k xn (bd9 (fX6_restore ke lnn pm xn xp h0 h1 h2 h3 h4) fun r52 lnn_54 pm_56 xn_58 h0_60 h1_62 h2_64 h3_66 h4_68 => bd1 (fX6_count ke lnn_54 (nI t) xn_58 (4 : Int32)) fun r87 => if r52 = r87 then some ((1 : Int32), ke, lnn_54, pm_56, ch, nI t, nu, le, nx, cmd, pos, rea, cau, xn_58, xt, xp, xr, xw, h0_60, h1_62, h2_64, h3_66, h4_68) else if v47 = 0 then (if r52 = (-2 : Int32) then some ((1 : Int32), ke, lnn_54, pm_56, ch, nI t, nu, le, nx, cmd, pos, rea, cau, xn_58, xt, xp, xr, xw, h0_60, h1_62, h2_64, h3_66, h4_68) else none) else none) := by
      intro v47 hv
      rcases a_restore hH hx hk with ⟨q1, q2⟩ | ⟨lnn', pm', g0, g1, g2, g3, g4, q2, q3⟩
      · have hne : ¬ (-2 : Int32) = nI d := by
          intro q
          have h9 := nI_nn (A := d) (by omega)
          rw [← q] at h9
          exact h9 (by decide)
        rw [q2, bd9_e, c4, bd1_e, if_neg hne, if_pos (hv q1), if_pos rfl]
        exact fin ⟨hx, k, hH, Or.inl ⟨rfl, rfl⟩⟩
      · rw [q2, bd9_e, count4, bd1_e, if_pos rfl]
        exact fin q3
    have both : ∀ v47 : Int32, (ke = nI 0 → v47 = 0) → AP k xn (bd1 (fL_low p3 (2 : Int32)) fun r48 => mrg (fun (ke76 : Int32) (lnn77 : Int32) (pm78 : Nat → Nat) (xn79 : HutS) (xp80 : HutS) (h81 : HutS) (h82 : HutS) (h83 : HutS) (h84 : HutS) (h85 : HutS) (v86 : Int32) => bd1 (fX6_count ke76 lnn77 (nI t) xn79 (4 : Int32)) fun r87 => if v86 = r87 then some ((1 : Int32), ke76, lnn77, pm78, ch, nI t, nu, le, nx, cmd, pos, rea, cau, xn79, xt, xp80, xr, xw, h81, h82, h83, h84, h85) else if v47 = 0 then (if v86 = (-2 : Int32) then some ((1 : Int32), ke76, lnn77, pm78, ch, nI t, nu, le, nx, cmd, pos, rea, cau, xn79, xt, xp80, xr, xw, h81, h82, h83, h84, h85) else none) else none) fun J51 => if r48 = 0 then bd3 (fX6_keep xn xp) fun r70 ke_72 xp_74 => J51 ke_72 lnn pm xn xp_74 h0 h1 h2 h3 h4 r70 else bd9 (fX6_restore ke lnn pm xn xp h0 h1 h2 h3 h4) fun r52 lnn_54 pm_56 xn_58 h0_60 h1_62 h2_64 h3_66 h4_68 => J51 ke lnn_54 pm_56 xn_58 xp h0_60 h1_62 h2_64 h3_66 h4_68 r52) := by
      intro v47 hv
      rw [show fL_low p3 (2 : Int32) = _ from w2, bd1_e, q_mrg]
      exact P_ite (fun _ => keep v47) (fun _ => rest v47 hv)
    rw [q_mrg]
    refine P_ite (fun q => both 1 (fun q2 => ?_)) (fun _ => both 0 (fun _ => rfl))
    exfalso
    rw [q2, if_pos (by decide)] at q
    exact absurd q (by decide)
  · -- a text
    obtain ⟨ch', t', e1, hT'⟩ := types_v (ke := ke) (lnn := lnn) p3 hr hTx
    obtain ⟨lnn', pm', nu', le', nx', cmd', pos', rea', cau', xn', xr', xw', g0, g1, g2, g3, g4, e2, e3⟩ := reads_v (ke := ke) (lnn := lnn) (nu := nu) (le := le) (nx := nx) (cmd := cmd) (pos := pos) (rea := rea) (cau := cau) (xr := xr) (xw := xw) hT' hH hx
    rw [e1, bd3_e, if_neg (by decide), e2, bd18_e, if_neg (by decide)]
    exact ⟨_, _, _, _, _, _, _, _, _, _, _, _, _, _, _, _, _, _, _, _, _, _, rfl, e3, ⟨t', rfl, hT'⟩, hk⟩
  · -- sleep
    have body : ∀ m : Nat, m ≤ 61 → AP k xn (bd1 (fX6_count ke lnn (nI t) xn (8 : Int32)) fun r143 => bd9 (fX6_sleep lnn pm xn h0 h1 h2 h3 h4 (nI m)) fun r145 lnn_147 pm_149 xn_151 h0_153 h1_155 h2_157 h3_159 h4_161 => mrg (fun (_ : Unit) => if r145 = (-1 : Int32) then some ((1 : Int32), ke, lnn_147, pm_149, ch, nI t, nu, le, nx, cmd, pos, rea, cau, xn_151, xt, xp, xr, xw, h0_153, h1_155, h2_157, h3_159, h4_161) else none) fun J164 => if nI m = 0 then J164 () else if nI m = (61 : Int32) then J164 () else if (nI d + nI m) ≤ (365 : Int32) then bd1 (fX6_count ke lnn_147 (nI t) xn_151 (8 : Int32)) fun r167 => if r145 = (r167 - r143) then bd1 (fX6_count ke lnn_147 (nI t) xn_151 (4 : Int32)) fun r170 => if r170 = (nI d + nI m) then some ((1 : Int32), ke, lnn_147, pm_149, ch, nI t, nu, le, nx, cmd, pos, rea, cau, xn_151, xt, xp, xr, xw, h0_153, h1_155, h2_157, h3_159, h4_161) else none else none else if r145 = (-3 : Int32) then some ((1 : Int32), ke, lnn_147, pm_149, ch, nI t, nu, le, nx, cmd, pos, rea, cau, xn_151, xt, xp, xr, xw, h0_153, h1_155, h2_157, h3_159, h4_161) else none) := by
      intro m hm
      obtain ⟨ans, lnn', pm', xn', g0, g1, g2, g3, g4, e1, e2, e3⟩ := a_sleep (nI m) hH hx
      obtain ⟨hu, hu', s1, s2, s3, s4⟩ := x_sleep hr ed hd hm e2
      rw [s1, bd1_e, e1, bd9_e, q_mrg]
      have z0 : (nI m = (0 : Int32)) = (m = 0) := by rw [q_l0, q_eq (by omega) (by omega)]
      have z61 : (nI m = (61 : Int32)) = (m = 61) := by rw [show (61 : Int32) = nI 61 by decide, q_eq (by omega) (by omega)]
      refine P_ite (fun q => ?_) (fun q1 => P_ite (fun q => ?_) (fun q2 => P_ite (fun q => ?_) (fun q => ?_)))
      · rw [z0] at q
        rw [if_pos (s3 (Or.inl q))]
        exact fin e3
      · rw [z61] at q
        rw [if_pos (s3 (Or.inr q))]
        exact fin e3
      · rw [z0] at q1
        rw [z61] at q2
        rw [nI_add, q_l365, q_le (by omega) (by omega)] at q
        obtain ⟨f1, f2⟩ := (s4 (fun z => z.elim q1 q2)).2 q
        rw [s2, bd1_e, if_pos f1, f2, bd1_e, if_pos (by rw [nI_add])]
        exact fin e3
      · rw [z0] at q1
        rw [z61] at q2
        rw [nI_add, q_l365, q_le (by omega) (by omega)] at q
        rw [if_pos ((s4 (fun z => z.elim q1 q2)).1 (by omega))]
        exact fin e3
    obtain ⟨w, w1, w2⟩ := low_v p3 (n := 7) (by omega) (by omega)
    obtain ⟨u, u1, u2⟩ := low_v (p3 >>> ((3 : Int32) &&& 31)) (n := 62) (by omega) (by omega)
    obtain ⟨v, v1, v2⟩ := low_v (p3 >>> ((3 : Int32) &&& 31)) (n := 3) (by omega) (by omega)
    rw [show fL_low p3 (7 : Int32) = _ from w2, bd1_e, q_mrg]
    refine P_ite (fun _ => ?_) (fun _ => ?_)
    · rw [show fL_low (p3 >>> ((3 : Int32) &&& 31)) (62 : Int32) = _ from u2, bd1_e]
      exact body u (by omega)
    · rw [show fL_low (p3 >>> ((3 : Int32) &&& 31)) (3 : Int32) = _ from v2, bd1_e]
      have ev : (1 : Int32) + nI v = nI (1 + v) := by rw [q_l1, nI_add]
      rw [ev]
      exact body (1 + v) (by omega)
  · -- book
    obtain ⟨a, a1, a2⟩ := low_v p3 (n := 8) (by omega) (by omega)
    obtain ⟨u, u1, u2⟩ := low_v (p3 >>> ((3 : Int32) &&& 31)) (n := 9) (by omega) (by omega)
    obtain ⟨m, m1, m2⟩ := low_v (p3 >>> ((7 : Int32) &&& 31)) (n := 7) (by omega) (by omega)
    obtain ⟨most, xt1, f1, f2, f3, f4, f5⟩ := x_book hr eN ed hN hd (a := a) (b := d + u) (c := m) a1 (by omega) (by omega) m1 xt
    obtain ⟨ans, lnn', pm', xn', xt2, g0, g1, g2, g3, g4, e1, e2, e3⟩ := a_book xt1 (nI a) (nI (d + u)) (nI m) hH hx
    obtain ⟨b1, b2⟩ := f5 xt1 ans xn' xt2 e2
    have zN : (nI N = (16 : Int32)) = (N = 16) := by rw [show (16 : Int32) = nI 16 by decide, q_eq (by omega) (by omega)]
    have za0 : (nI a = (0 : Int32)) = (a = 0) := by rw [q_l0, q_eq (by omega) (by omega)]
    have za7 : (nI a = (7 : Int32)) = (a = 7) := by rw [q_l7, q_eq (by omega) (by omega)]
    have zm0 : (nI m = (0 : Int32)) = (m = 0) := by rw [q_l0, q_eq (by omega) (by omega)]
    have zd : (nI (d + u) ≤ (365 : Int32)) = (d + u ≤ 365) := by rw [q_l365, q_le (by omega) (by omega)]
    have zd2 : ((365 : Int32) < nI (d + u)) = (365 < d + u) := by rw [q_l365, q_lt (by omega) (by omega)]
    have t10 : ((1 : Int32) = 0) = False := by decide
    have t00 : ((0 : Int32) = 0) = True := by decide
    have fin2 : AP k xn (some ((1 : Int32), ke, lnn', pm', ch, nI t, nu, le, nx, cmd, pos, rea, cau, xn', xt2, xp, xr, xw, g0, g1, g2, g3, g4)) := fin e3
    have last : ∀ v281 : Int32, ((a = 0 ∨ a = 7 ∨ m = 0 ∨ 365 < d + u) → v281 = 1) → (¬ (a = 0 ∨ a = 7 ∨ m = 0 ∨ 365 < d + u) → v281 = 0) → AP k xn (if v281 = 0 then (if nI N = (16 : Int32) then (if ans = (-2 : Int32) then some ((1 : Int32), ke, lnn', pm', ch, nI t, nu, le, nx, cmd, pos, rea, cau, xn', xt2, xp, xr, xw, g0, g1, g2, g3, g4) else if ans = (-3 : Int32) then some ((1 : Int32), ke, lnn', pm', ch, nI t, nu, le, nx, cmd, pos, rea, cau, xn', xt2, xp, xr, xw, g0, g1, g2, g3, g4) else none) else (if ans = (-2 : Int32) then (if most = nI a then none else some ((1 : Int32), ke, lnn', pm', ch, nI t, nu, le, nx, cmd, pos, rea, cau, xn', xt2, xp, xr, xw, g0, g1, g2, g3, g4)) else (if ans = nI N then (if most < nI a then none else some ((1 : Int32), ke, lnn', pm', ch, nI t, nu, le, nx, cmd, pos, rea, cau, xn', xt2, xp, xr, xw, g0, g1, g2, g3, g4)) else none))) else (if ans = (-1 : Int32) then some ((1 : Int32), ke, lnn', pm', ch, nI t, nu, le, nx, cmd, pos, rea, cau, xn', xt2, xp, xr, xw, g0, g1, g2, g3, g4) else none)) := by
      intro v281 h1 h2
      by_cases hb : a = 0 ∨ a = 7 ∨ m = 0 ∨ 365 < d + u
      · rw [h1 hb, if_neg (by decide), if_pos (b1 hb)]
        exact fin2
      · obtain ⟨b3, b4⟩ := b2 hb
        rw [h2 hb, if_pos rfl]
        by_cases c16 : N = 16
        · rw [if_pos (by rw [zN]; exact c16)]
          rcases b3 c16 with q | q
          · rw [if_pos q]
            exact fin2
          · rw [if_neg (by rw [q]; decide), if_pos q]
            exact fin2
        · rw [if_neg (by rw [zN]; exact c16)]
          rcases b4 (by omega) with ⟨q1, q2⟩ | ⟨q1, q2⟩
          · rw [if_pos q1, if_neg q2]
            exact fin2
          · have hne : ¬ ans = (-2 : Int32) := by
              intro z
              have h9 := nI_nn (A := N) (by omega)
              rw [← q1, z] at h9
              exact h9 (by decide)
            rw [if_neg hne, if_pos q1, if_neg (Int32.not_lt.mpr q2)]
            exact fin2
    have mid : ∀ v281 : Int32, ((a = 0 ∨ a = 7 ∨ m = 0 ∨ 365 < d + u) → v281 = 1) → (¬ (a = 0 ∨ a = 7 ∨ m = 0 ∨ 365 < d + u) → v281 = 0) → AP k xn (bd2 (fX6_most xn xt (nI (d + u)) (nI m)) fun r282 xt_284 => bd10 (fX6_book lnn pm xn xt_284 h0 h1 h2 h3 h4 (nI a) (nI (d + u)) (nI m)) fun r286 lnn_288 pm_290 xn_292 xt_294 h0_296 h1_298 h2_300 h3_302 h4_304 => mrg (fun (v315 : Int32) => if v315 = 0 then none else if v281 = 0 then (if nI N = (16 : Int32) then (if r286 = (-2 : Int32) then some ((1 : Int32), ke, lnn_288, pm_290, ch, nI t, nu, le, nx, cmd, pos, rea, cau, xn_292, xt_294, xp, xr, xw, h0_296, h1_298, h2_300, h3_302, h4_304) else if r286 = (-3 : Int32) then some ((1 : Int32), ke, lnn_288, pm_290, ch, nI t, nu, le, nx, cmd, pos, rea, cau, xn_292, xt_294, xp, xr, xw, h0_296, h1_298, h2_300, h3_302, h4_304) else none) else (if r286 = (-2 : Int32) then (if r282 = nI a then none else some ((1 : Int32), ke, lnn_288, pm_290, ch, nI t, nu, le, nx, cmd, pos, rea, cau, xn_292, xt_294, xp, xr, xw, h0_296, h1_298, h2_300, h3_302, h4_304)) else (if r286 = nI N then (if r282 < nI a then none else some ((1 : Int32), ke, lnn_288, pm_290, ch, nI t, nu, le, nx, cmd, pos, rea, cau, xn_292, xt_294, xp, xr, xw, h0_296, h1_298, h2_300, h3_302, h4_304)) else none))) else (if r286 = (-1 : Int32) then some ((1 : Int32), ke, lnn_288, pm_290, ch, nI t, nu, le, nx, cmd, pos, rea, cau, xn_292, xt_294, xp, xr, xw, h0_296, h1_298, h2_300, h3_302, h4_304) else none)) fun J308 => mrg (fun (_ : Unit) => if r282 = (-1 : Int32) then J308 (1 : Int32) else none) fun J307 => if (365 : Int32) < nI (d + u) then J307 () else if nI m = 0 then J307 () else if nI N = (16 : Int32) then (if r282 = (-3 : Int32) then J308 (1 : Int32) else none) else (if r282 < 0 then none else if (6 : Int32) < r282 then none else J308 (1 : Int32))) := by
      intro v281 h1 h2
      rw [f1, bd2_e, e1, bd10_e, q_mrg, q_mrg]
      have one : AP k xn (if (1 : Int32) = 0 then none else if v281 = 0 then (if nI N = (16 : Int32) then (if ans = (-2 : Int32) then some ((1 : Int32), ke, lnn', pm', ch, nI t, nu, le, nx, cmd, pos, rea, cau, xn', xt2, xp, xr, xw, g0, g1, g2, g3, g4) else if ans = (-3 : Int32) then some ((1 : Int32), ke, lnn', pm', ch, nI t, nu, le, nx, cmd, pos, rea, cau, xn', xt2, xp, xr, xw, g0, g1, g2, g3, g4) else none) else (if ans = (-2 : Int32) then (if most = nI a then none else some ((1 : Int32), ke, lnn', pm', ch, nI t, nu, le, nx, cmd, pos, rea, cau, xn', xt2, xp, xr, xw, g0, g1, g2, g3, g4)) else (if ans = nI N then (if most < nI a then none else some ((1 : Int32), ke, lnn', pm', ch, nI t, nu, le, nx, cmd, pos, rea, cau, xn', xt2, xp, xr, xw, g0, g1, g2, g3, g4)) else none))) else (if ans = (-1 : Int32) then some ((1 : Int32), ke, lnn', pm', ch, nI t, nu, le, nx, cmd, pos, rea, cau, xn', xt2, xp, xr, xw, g0, g1, g2, g3, g4) else none)) := by
        rw [if_neg (by decide)]
        exact last v281 h1 h2
      refine P_ite (fun q => ?_) (fun q1 => P_ite (fun q => ?_) (fun q2 => P_ite (fun q => ?_) (fun q3 => ?_)))
      · rw [zd2] at q
        rw [if_pos (f2 (Or.inl q))]
        exact one
      · rw [zm0] at q
        rw [if_pos (f2 (Or.inr q))]
        exact one
      · rw [zd2] at q1
        rw [zm0] at q2
        rw [zN] at q
        rw [if_pos (f3 (by omega) q)]
        exact one
      · rw [zd2] at q1
        rw [zm0] at q2
        rw [zN] at q3
        obtain ⟨q, q4, q5⟩ := f4 (by omega) (by omega)
        rw [if_neg (show ¬ most < 0 by rw [q5]; exact nI_nn (by omega)), if_neg (show ¬ (6 : Int32) < most by rw [q5, q_l6, q_lt (by omega) (by omega)]; omega)]
        exact one
    rw [show fL_low p3 (8 : Int32) = _ from a2, bd1_e, show fL_low (p3 >>> ((3 : Int32) &&& 31)) (9 : Int32) = _ from u2, bd1_e, q_jl, nI_add, show fL_low (p3 >>> ((7 : Int32) &&& 31)) (7 : Int32) = _ from m2, bd1_e, q_mrg]
    refine P_ite (fun q => mid 1 (fun _ => rfl) (fun z => ?_)) (fun q1 => P_ite (fun q => mid 1 (fun _ => rfl) (fun z => ?_)) (fun q2 => P_ite (fun q => mid 1 (fun _ => rfl) (fun z => ?_)) (fun q3 => P_ite (fun q => mid 0 (fun z => ?_) (fun _ => rfl)) (fun q => mid 1 (fun _ => rfl) (fun z => ?_)))))
    · rw [za0] at q
      omega
    · rw [za7] at q
      omega
    · rw [zm0] at q
      omega
    · rw [za0] at q1
      rw [za7] at q2
      rw [zm0] at q3
      rw [zd] at q
      omega
    · rw [zd] at q
      omega
  · -- fly
    obtain ⟨M, b0, b1, b2, F, G, sv, hM, hb, hF, hG, m7, t0, t1, t2, m5, m6, m23, hf⟩ := x_fly hr
    obtain ⟨ans, lnn', pm', xn', g0, g1, g2, g3, g4, e1, e2, e3⟩ := a_fly hH hx
    have ea := hf ans xn' e2
    have leaf : ∀ z : Int32, ans = z → AP k xn (if ans = z then some ((1 : Int32), ke, lnn', pm', ch, nI t, nu, le, nx, cmd, pos, rea, cau, xn', xt, xp, xr, xw, g0, g1, g2, g3, g4) else none) := fun z hz => by
      rw [if_pos hz]
      exact fin e3
    rw [m7, bd1_e, t0, bd1_e, t1, bd1_e, t2, bd1_e, q_jl, q_mrg, e1]
    simp only [bd9_e, m5, m6, m23, bd1_e]
    refine P_ite (fun q => leaf _ ?_) (fun q1 => P_ite (fun q => leaf _ ?_) (fun q2 => P_ite (fun q => P_ite (fun q4 => leaf _ ?_) (fun q4 => leaf _ ?_)) (fun q3 => leaf _ ?_)))
    · rw [ea, if_pos q]
    · have hs : ¬ sv = 0 := fun z => by
        rw [if_pos z] at q
        exact absurd q (by decide)
      rw [ea, if_neg q1, if_neg hs]
    · have hs : sv = 0 := by
        by_cases z : sv = 0
        · exact z
        · rw [if_neg z] at q2
          exact absurd rfl q2
      rw [nI_add, nI_add] at q4
      rw [ea, if_neg q1, if_pos hs, if_pos q, if_pos q4]
    · have hs : sv = 0 := by
        by_cases z : sv = 0
        · exact z
        · rw [if_neg z] at q2
          exact absurd rfl q2
      rw [nI_add, nI_add] at q4
      rw [ea, if_neg q1, if_pos hs, if_pos q, if_neg q4]
    · have hs : sv = 0 := by
        by_cases z : sv = 0
        · exact z
        · rw [if_neg z] at q2
          exact absurd rfl q2
      rw [ea, if_neg q1, if_pos hs, if_neg q3]
  · -- load
    obtain ⟨a, a1, a2⟩ := low_v p3 (n := 4) (by omega) (by omega)
    obtain ⟨b, b1, b2⟩ := low_v (p3 >>> ((2 : Int32) &&& 31)) (n := 80) (by omega) (by omega)
    obtain ⟨c, c1, c2⟩ := low_v (p3 >>> ((9 : Int32) &&& 31)) (n := 30) (by omega) (by omega)
    obtain ⟨M, hM, m1, m2⟩ := x_load hr
    obtain ⟨ans, lnn', pm', xn', g0, g1, g2, g3, g4, e1, e2, e3⟩ := a_load (nI a) (nI b) (nI c) hH hx
    have ea := m2 a b c ans xn' (by omega) b1 c1 e2
    have leaf : ∀ z : Int32, ans = z → AP k xn (if ans = z then some ((1 : Int32), ke, lnn', pm', ch, nI t, nu, le, nx, cmd, pos, rea, cau, xn', xt, xp, xr, xw, g0, g1, g2, g3, g4) else none) := fun z hz => by
      rw [if_pos hz]
      exact fin e3
    rw [show fL_low p3 (4 : Int32) = _ from a2, bd1_e, show fL_low (p3 >>> ((2 : Int32) &&& 31)) (80 : Int32) = _ from b2, bd1_e, show fL_low (p3 >>> ((9 : Int32) &&& 31)) (30 : Int32) = _ from c2, bd1_e, m1, bd1_e, e1, bd9_e, q_mrg]
    have z3 : (nI a = (3 : Int32)) = (a = 3) := by rw [q_l3, q_eq (by omega) (by omega)]
    have z0 : (nI b = (0 : Int32)) = (b = 0) := by rw [q_l0, q_eq (by omega) (by omega)]
    have z6 : (nI M = (6 : Int32)) = (M = 6) := by rw [q_l6, q_eq (by omega) (by omega)]
    refine P_ite (fun q => leaf _ ?_) (fun q1 => P_ite (fun q => leaf _ ?_) (fun q2 => P_ite (fun q => leaf _ ?_) (fun q3 => leaf _ ?_)))
    · rw [z3] at q
      rw [ea, if_pos (Or.inl q)]
    · rw [z0] at q
      rw [ea, if_pos (Or.inr q)]
    · rw [z3] at q1
      rw [z0] at q2
      rw [z6] at q
      rw [ea, if_neg (fun z => z.elim q1 q2), if_pos q]
    · rw [z3] at q1
      rw [z0] at q2
      rw [z6] at q3
      rw [ea, if_neg (fun z => z.elim q1 q2), if_neg q3, q_l1, nI_add]
