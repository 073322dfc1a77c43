/-! ===== the history, by values ===== -/
def HG (x : HutS) : Prop := (∃ s, HR x s) ∧ HI x
def TopH (k : Nat) (lnn : Int32) (pm : Nat → Nat) (h0 h1 h2 h3 h4 : HutS) : Prop := k ≤ 4 ∧ lnn = nI k ∧ (∀ i, i < 5 → pm i < 5) ∧ (∀ i j, i < 5 → j < 5 → pm i = pm j → i = j) ∧ ∀ i, i < k → HG (hsel h0 h1 h2 h3 h4 (pm i))
/-- what an act leaves: all as it was; or one more to go back to, and that is what was; or the oldest is lost -/
def Out (k : Nat) (xn : HutS) (lnn' : Int32) (pm' : Nat → Nat) (xn' g0 g1 g2 g3 g4 : HutS) : Prop := HG xn' ∧ ∃ k', TopH k' lnn' pm' g0 g1 g2 g3 g4 ∧ ((k' = k ∧ xn' = xn) ∨ (k' = k + 1 ∧ hsel g0 g1 g2 g3 g4 (pm' k) = xn) ∨ (k = 4 ∧ k' = 4))
theorem ErrC.neg {a : Int32} (h : ErrC a) : a < 0 := by
  rcases h with rfl | rfl | rfl <;> decide
theorem chg {k : Nat} {lnn : Int32} {pm : Nat → Nat} {h0 h1 h2 h3 h4 xn : HutS} (hH : TopH k lnn pm h0 h1 h2 h3 h4) (hx : HG xn) : ∃ g0 g1 g2 g3 g4, fX0_prepare lnn pm h0 h1 h2 h3 h4 xn = some (g0, g1, g2, g3, g4) ∧ ∀ ans x', ActR xn ans x' → ∃ lnn' pm', fX6_recorded lnn pm ans = some (ans, lnn', pm') ∧ Out k xn lnn' pm' x' g0 g1 g2 g3 g4 := by
  obtain ⟨hk, rfl, hp, hi, hh⟩ := hH
  obtain ⟨⟨s, hr⟩, hI⟩ := hx
  obtain ⟨g0, g1, g2, g3, g4, e1, e2, e3⟩ := p_prepare (h0 := h0) (h1 := h1) (h2 := h2) (h3 := h3) (h4 := h4) hk (hp k (by omega)) hr
  have hg : ∀ i, i < k → HG (hsel g0 g1 g2 g3 g4 (pm i)) := by
    intro i hik
    rw [e3 (pm i) (hp i (by omega)) (fun q => absurd (hi i k (by omega) (by omega) q) (by omega))]
    exact hh i hik
  refine ⟨g0, g1, g2, g3, g4, e1, fun ans x' hA => ?_⟩
  obtain ⟨hw, hI', hA⟩ := hA
  rcases hA with ⟨A, hA, rfl⟩ | ⟨rfl, hE⟩
  · have nn : ¬ nI A < 0 := nI_nn (by omega)
    by_cases c : k = 4
    · subst c
      obtain ⟨pm', c1, c2, c3⟩ := p_commit4 hp
      refine ⟨nI 4, pm', ?_, ⟨hw, hI'⟩, 4, ⟨by omega, rfl, fun i hi5 => ?_, fun i j hi5 hj5 e => ?_, fun i hi4 => ?_⟩, Or.inr (Or.inr ⟨rfl, rfl⟩)⟩
      · unfold fX6_recorded
        rw [if_neg nn, c1, bd2_e]
      · by_cases e : i = 4
        · rw [e, c3]; exact hp 0 (by omega)
        · rw [c2 i (by omega)]; exact hp (i + 1) (by omega)
      · by_cases ei : i = 4
        · by_cases ej : j = 4
          · omega
          · rw [ei, c3, c2 j (by omega)] at e
            have := hi 0 (j + 1) (by omega) (by omega) e
            omega
        · by_cases ej : j = 4
          · rw [ej, c3, c2 i (by omega)] at e
            have := hi (i + 1) 0 (by omega) (by omega) e
            omega
          · rw [c2 i (by omega), c2 j (by omega)] at e
            have := hi (i + 1) (j + 1) (by omega) (by omega) e
            omega
      · rw [c2 i hi4]
        by_cases e : i = 3
        · subst e
          rw [show 3 + 1 = 4 from rfl, e2]
          exact ⟨⟨s, hr⟩, hI⟩
        · exact hg (i + 1) (by omega)
    · refine ⟨nI (k + 1), pm, ?_, ⟨hw, hI'⟩, k + 1, ⟨by omega, rfl, hp, hi, fun i hi4 => ?_⟩, Or.inr (Or.inl ⟨rfl, e2⟩)⟩
      · unfold fX6_recorded
        rw [if_neg nn, p_commit (by omega), bd2_e]
      · by_cases e : i = k
        · subst e
          rw [e2]
          exact ⟨⟨s, hr⟩, hI⟩
        · exact hg i (by omega)
  · exact ⟨nI k, pm, rec_neg hE.neg, ⟨hw, hI'⟩, k, ⟨hk, rfl, hp, hi, hg⟩, Or.inl ⟨rfl, rfl⟩⟩
theorem undo_v {k : Nat} {lnn : Int32} {pm : Nat → Nat} {h0 h1 h2 h3 h4 : HutS} (xn : HutS) (hH : TopH k lnn pm h0 h1 h2 h3 h4) : (k = 0 ∧ fX6_undo lnn pm xn h0 h1 h2 h3 h4 = some (-2, lnn, xn)) ∨ (∃ j, k = j + 1 ∧ fX6_undo lnn pm xn h0 h1 h2 h3 h4 = some (nI j, nI j, hsel h0 h1 h2 h3 h4 (pm j)) ∧ TopH j (nI j) pm h0 h1 h2 h3 h4 ∧ HG (hsel h0 h1 h2 h3 h4 (pm j))) := by
  obtain ⟨hk, rfl, hp, hi, hh⟩ := hH
  by_cases c : k = 0
  · subst c
    refine Or.inl ⟨rfl, ?_⟩
    unfold fX6_undo
    rw [q_l0, if_pos rfl]
  · obtain ⟨j, rfl⟩ : ∃ j, k = j + 1 := ⟨k - 1, by omega⟩
    have n0 : ¬ nI (j + 1) = 0 := by rw [q_l0, q_eq (by omega) (by omega)]; omega
    have j5 : pm j < 5 := hp j (by omega)
    have hj2 := hh j (by omega)
    obtain ⟨s, hj⟩ := hj2.1
    refine Or.inr ⟨j, rfl, ?_, ⟨by omega, rfl, hp, hi, fun i hij => hh i (by omega)⟩, hj2⟩
    have k1 : ¬ j + 1 < 1 := by omega
    have k2 : ¬ 4 < j + 1 := by omega
    have z : ∀ X, (if pm j = 0 then bd1 (gX1_copyFrom xn h0) fun y => some (nI j, y) else if pm j = 1 then bd1 (gX1_copyFrom xn h1) fun y => some (nI j, y) else if pm j = 2 then bd1 (gX1_copyFrom xn h2) fun y => some (nI j, y) else if pm j = 3 then bd1 (gX1_copyFrom xn h3) fun y => some (nI j, y) else if pm j = 4 then bd1 (gX1_copyFrom xn h4) fun y => some (nI j, y) else none) = X → fX0_takeBack (nI (j + 1)) pm h0 h1 h2 h3 h4 xn = X := by
      intro X e
      rw [← e]
      unfold fX0_takeBack
      simp (disch := omega) only [q_l1, q_l4, q_lt, k1, k2, if_false, q_dec2, q_gd, q_cl, q_jl]
    have hT : fX0_takeBack (nI (j + 1)) pm h0 h1 h2 h3 h4 xn = some (nI j, hsel h0 h1 h2 h3 h4 (pm j)) := by
      refine z _ ?_
      rcases (show pm j = 0 ∨ pm j = 1 ∨ pm j = 2 ∨ pm j = 3 ∨ pm j = 4 by omega) with c | c | c | c | c
      · rw [c] at hj ⊢
        rw [if_pos rfl, show gX1_copyFrom xn h0 = some h0 from hj.copy xn, bd1_e]
        rfl
      · rw [c] at hj ⊢
        rw [if_neg (by omega), if_pos rfl, show gX1_copyFrom xn h1 = some h1 from hj.copy xn, bd1_e]
        rfl
      · rw [c] at hj ⊢
        rw [if_neg (by omega), if_neg (by omega), if_pos rfl, show gX1_copyFrom xn h2 = some h2 from hj.copy xn, bd1_e]
        rfl
      · rw [c] at hj ⊢
        rw [if_neg (by omega), if_neg (by omega), if_neg (by omega), if_pos rfl, show gX1_copyFrom xn h3 = some h3 from hj.copy xn, bd1_e]
        rfl
      · rw [c] at hj ⊢
        rw [if_neg (by omega), if_neg (by omega), if_neg (by omega), if_neg (by omega), if_pos rfl, show gX1_copyFrom xn h4 = some h4 from hj.copy xn, bd1_e]
        rfl
    unfold fX6_undo
    rw [if_neg n0, hT, bd2_e]
/-! each call of the class: its answer is the hut's, the history goes on -/
theorem a_load {k : Nat} {lnn : Int32} {pm : Nat → Nat} {h0 h1 h2 h3 h4 xn : HutS} (p1 p2 p3 : Int32) (hH : TopH k lnn pm h0 h1 h2 h3 h4) (hx : HG xn) : ∃ ans lnn' pm' xn' g0 g1 g2 g3 g4, fX6_load lnn pm xn h0 h1 h2 h3 h4 p1 p2 p3 = some (ans, lnn', pm', xn', g0, g1, g2, g3, g4) ∧ gX1_putOnPallet xn p1 p2 p3 = some (ans, xn') ∧ Out k xn lnn' pm' xn' g0 g1 g2 g3 g4 := by
  obtain ⟨g0, g1, g2, g3, g4, e1, e2⟩ := chg hH hx
  obtain ⟨⟨s, hr⟩, hI⟩ := hx
  obtain ⟨ans, x', s', f1, -, -⟩ := g_load p1 p2 p3 hr
  obtain ⟨lnn', pm', f2, f3⟩ := e2 ans x' (i_load p1 p2 p3 hr hI f1)
  refine ⟨ans, lnn', pm', x', g0, g1, g2, g3, g4, ?_, f1, f3⟩
  unfold fX6_load
  rw [e1, bd5_e, f1, bd2_e, f2, bd3_e]
theorem a_fly {k : Nat} {lnn : Int32} {pm : Nat → Nat} {h0 h1 h2 h3 h4 xn : HutS} (hH : TopH k lnn pm h0 h1 h2 h3 h4) (hx : HG xn) : ∃ ans lnn' pm' xn' g0 g1 g2 g3 g4, fX6_fly lnn pm xn h0 h1 h2 h3 h4 = some (ans, lnn', pm', xn', g0, g1, g2, g3, g4) ∧ gX1_bringPallet xn = some (ans, xn') ∧ Out k xn lnn' pm' xn' g0 g1 g2 g3 g4 := by
  obtain ⟨g0, g1, g2, g3, g4, e1, e2⟩ := chg hH hx
  obtain ⟨⟨s, hr⟩, hI⟩ := hx
  obtain ⟨ans, x', s', f1, -, -⟩ := g_fly hr
  obtain ⟨lnn', pm', f2, f3⟩ := e2 ans x' (i_fly hr hI f1)
  refine ⟨ans, lnn', pm', x', g0, g1, g2, g3, g4, ?_, f1, f3⟩
  unfold fX6_fly
  rw [e1, bd5_e, f1, bd2_e, f2, bd3_e]
theorem a_cancel {k : Nat} {lnn : Int32} {pm : Nat → Nat} {h0 h1 h2 h3 h4 xn : HutS} (p1 : Int32) (hH : TopH k lnn pm h0 h1 h2 h3 h4) (hx : HG xn) : ∃ ans lnn' pm' xn' g0 g1 g2 g3 g4, fX6_cancel lnn pm xn h0 h1 h2 h3 h4 p1 = some (ans, lnn', pm', xn', g0, g1, g2, g3, g4) ∧ gX1_callOff xn p1 = some (ans, xn') ∧ Out k xn lnn' pm' xn' g0 g1 g2 g3 g4 := by
  obtain ⟨g0, g1, g2, g3, g4, e1, e2⟩ := chg hH hx
  obtain ⟨⟨s, hr⟩, hI⟩ := hx
  obtain ⟨ans, x', s', f1, -, -⟩ := g_cancel p1 hr
  obtain ⟨lnn', pm', f2, f3⟩ := e2 ans x' (i_cancel p1 hr hI f1)
  refine ⟨ans, lnn', pm', x', g0, g1, g2, g3, g4, ?_, f1, f3⟩
  unfold fX6_cancel
  rw [e1, bd5_e, f1, bd2_e, f2, bd3_e]
theorem a_storm {k : Nat} {lnn : Int32} {pm : Nat → Nat} {h0 h1 h2 h3 h4 xn : HutS} (p1 p2 : Int32) (hH : TopH k lnn pm h0 h1 h2 h3 h4) (hx : HG xn) : ∃ ans lnn' pm' xn' g0 g1 g2 g3 g4, fX6_storm lnn pm xn h0 h1 h2 h3 h4 p1 p2 = some (ans, lnn', pm', xn', g0, g1, g2, g3, g4) ∧ gX1_tellStorm xn p1 p2 = some (ans, xn') ∧ Out k xn lnn' pm' xn' g0 g1 g2 g3 g4 := by
  obtain ⟨g0, g1, g2, g3, g4, e1, e2⟩ := chg hH hx
  obtain ⟨⟨s, hr⟩, hI⟩ := hx
  obtain ⟨ans, x', s', f1, -, -⟩ := g_storm p1 p2 hr
  obtain ⟨lnn', pm', f2, f3⟩ := e2 ans x' (i_storm p1 p2 hr hI f1)
  refine ⟨ans, lnn', pm', x', g0, g1, g2, g3, g4, ?_, f1, f3⟩
  unfold fX6_storm
  rw [e1, bd5_e, f1, bd2_e, f2, bd3_e]
theorem a_sleep {k : Nat} {lnn : Int32} {pm : Nat → Nat} {h0 h1 h2 h3 h4 xn : HutS} (p1 : Int32) (hH : TopH k lnn pm h0 h1 h2 h3 h4) (hx : HG xn) : ∃ ans lnn' pm' xn' g0 g1 g2 g3 g4, fX6_sleep lnn pm xn h0 h1 h2 h3 h4 p1 = some (ans, lnn', pm', xn', g0, g1, g2, g3, g4) ∧ gX1_passNights xn p1 = some (ans, xn') ∧ Out k xn lnn' pm' xn' g0 g1 g2 g3 g4 := by
  obtain ⟨g0, g1, g2, g3, g4, e1, e2⟩ := chg hH hx
  obtain ⟨⟨s, hr⟩, hI⟩ := hx
  obtain ⟨ans, x', s', f1, -, -⟩ := g_sleep p1 hr
  obtain ⟨lnn', pm', f2, f3⟩ := e2 ans x' (i_sleep p1 hr hI f1)
  refine ⟨ans, lnn', pm', x', g0, g1, g2, g3, g4, ?_, f1, f3⟩
  unfold fX6_sleep
  rw [e1, bd5_e, f1, bd2_e, f2, bd3_e]
theorem a_clear {k : Nat} {lnn : Int32} {pm : Nat → Nat} {h0 h1 h2 h3 h4 xn : HutS} (p1 : Int32) (hH : TopH k lnn pm h0 h1 h2 h3 h4) (hx : HG xn) : ∃ ans lnn' pm' xn' g0 g1 g2 g3 g4, fX6_clear lnn pm xn h0 h1 h2 h3 h4 p1 = some (ans, lnn', pm', xn', g0, g1, g2, g3, g4) ∧ gX1_tellCalm xn p1 = some (ans, xn') ∧ Out k xn lnn' pm' xn' g0 g1 g2 g3 g4 := by
  obtain ⟨g0, g1, g2, g3, g4, e1, e2⟩ := chg hH hx
  obtain ⟨⟨s, hr⟩, hI⟩ := hx
  obtain ⟨ans, x', f1⟩ : ∃ ans x', gX1_tellCalm xn p1 = some (ans, x') := by
    obtain ⟨d, -, -, ⟨e, -⟩ | ⟨k, v, x2, -, -, -, e, -⟩⟩ := g_calm p1 hr
    · exact ⟨_, _, e⟩
    · exact ⟨_, _, e⟩
  obtain ⟨lnn', pm', f2, f3⟩ := e2 ans x' (i_calm p1 hr hI f1)
  refine ⟨ans, lnn', pm', x', g0, g1, g2, g3, g4, ?_, f1, f3⟩
  unfold fX6_clear
  rw [e1, bd5_e, f1, bd2_e, f2, bd3_e]
theorem a_set {k : Nat} {lnn : Int32} {pm : Nat → Nat} {h0 h1 h2 h3 h4 xn : HutS} (p1 p2 : Int32) (hH : TopH k lnn pm h0 h1 h2 h3 h4) (hx : HG xn) : ∃ ans lnn' pm' xn' g0 g1 g2 g3 g4, fX6_set lnn pm xn h0 h1 h2 h3 h4 p1 p2 = some (ans, lnn', pm', xn', g0, g1, g2, g3, g4) ∧ gX1_changeSetting xn p1 p2 = some (ans, xn') ∧ Out k xn lnn' pm' xn' g0 g1 g2 g3 g4 := by
  obtain ⟨g0, g1, g2, g3, g4, e1, e2⟩ := chg hH hx
  obtain ⟨⟨s, hr⟩, hI⟩ := hx
  obtain ⟨ans, x', f1⟩ : ∃ ans x', gX1_changeSetting xn p1 p2 = some (ans, x') := by
    rcases g_set p1 p2 hr with ⟨e, -⟩ | ⟨k, old, x2, -, -, -, e, -⟩
    · exact ⟨_, _, e⟩
    · exact ⟨_, _, e⟩
  obtain ⟨lnn', pm', f2, f3⟩ := e2 ans x' (i_set p1 p2 hr hI f1)
  refine ⟨ans, lnn', pm', x', g0, g1, g2, g3, g4, ?_, f1, f3⟩
  unfold fX6_set
  rw [e1, bd5_e, f1, bd2_e, f2, bd3_e]
theorem a_book {k : Nat} {lnn : Int32} {pm : Nat → Nat} {h0 h1 h2 h3 h4 xn : HutS} (xt : HutS) (p1 p2 p3 : Int32) (hH : TopH k lnn pm h0 h1 h2 h3 h4) (hx : HG xn) : ∃ ans lnn' pm' xn' xt' g0 g1 g2 g3 g4, fX6_book lnn pm xn xt h0 h1 h2 h3 h4 p1 p2 p3 = some (ans, lnn', pm', xn', xt', g0, g1, g2, g3, g4) ∧ gX1_takeBooking xn xt p1 p2 p3 = some (ans, xn', xt') ∧ Out k xn lnn' pm' xn' g0 g1 g2 g3 g4 := by
  obtain ⟨g0, g1, g2, g3, g4, e1, e2⟩ := chg hH hx
  obtain ⟨⟨s, hr⟩, hI⟩ := hx
  obtain ⟨ans, x', y', s', asd', f1, -, -⟩ := g_book xt s p1 p2 p3 hr
  obtain ⟨lnn', pm', f2, f3⟩ := e2 ans x' (i_book xt p1 p2 p3 hr hI f1)
  refine ⟨ans, lnn', pm', x', y', g0, g1, g2, g3, g4, ?_, f1, f3⟩
  unfold fX6_book
  rw [e1, bd5_e, f1, bd3_e, f2, bd3_e]
theorem a_keep {xn xp : HutS} (hx : HG xn) : fX6_keep xn xp = some (xn.2.2.2.2.2.2.2.2.2.2.2.2.2.2.2.2.2.2.2.2.1, 1, xn) := by
  obtain ⟨⟨s, hr⟩, -⟩ := hx
  unfold fX6_keep
  rw [hr.copy xp, bd1_e]
theorem HG.day {x : HutS} (h : HG x) : ∃ d, d ≤ 365 ∧ x.2.2.2.2.2.2.2.2.2.2.2.2.2.2.2.2.2.2.2.2.1 = nI d := by
  obtain ⟨⟨s, hr⟩, -⟩ := h
  obtain ⟨l, pl, N, d, F, lk, la, ll, us, sp, zs, zd, zn, zt, zl, zc, sto, sg, hu, cn, gn, cs, pk, pa, pd, br, hN, hd, rfl, hh⟩ := hr
  exact ⟨d, hd, rfl⟩
theorem a_restore {k : Nat} {ke lnn : Int32} {pm : Nat → Nat} {h0 h1 h2 h3 h4 xn xp : HutS} (hH : TopH k lnn pm h0 h1 h2 h3 h4) (hx : HG xn) (hk : ke = nI 0 ∨ (ke = nI 1 ∧ HG xp)) : (ke = nI 0 ∧ fX6_restore ke lnn pm xn xp h0 h1 h2 h3 h4 = some (-2, lnn, pm, xn, h0, h1, h2, h3, h4)) ∨ (∃ lnn' pm' g0 g1 g2 g3 g4, fX6_restore ke lnn pm xn xp h0 h1 h2 h3 h4 = some (xp.2.2.2.2.2.2.2.2.2.2.2.2.2.2.2.2.2.2.2.2.1, lnn', pm', xp, g0, g1, g2, g3, g4) ∧ Out k xn lnn' pm' xp g0 g1 g2 g3 g4) := by
  rcases hk with rfl | ⟨rfl, hp⟩
  · refine Or.inl ⟨rfl, ?_⟩
    unfold fX6_restore
    rw [if_pos (by decide)]
  · obtain ⟨g0, g1, g2, g3, g4, e1, e2⟩ := chg hH hx
    obtain ⟨d, hd, ed⟩ := hp.day
    obtain ⟨lnn', pm', f2, f3⟩ := e2 (nI d) xp ⟨hp.1, hp.2, Or.inl ⟨d, by omega, rfl⟩⟩
    obtain ⟨⟨s, hr⟩, -⟩ := hp
    refine Or.inr ⟨lnn', pm', g0, g1, g2, g3, g4, ?_, f3⟩
    unfold fX6_restore
    rw [if_neg (by decide), e1, bd5_e, hr.copy xn, bd1_e, ed, f2, bd3_e]
/-! ===== a text is played just if it has no fault ===== -/
theorem fault_v {ch nu nu' : Nat → Int32} {tl le nx cmd pos rea cau cmd' pos' rea' cau' le' nx' : Int32} {xn xr xw xr' xw' : HutS} {k : Nat} (hk : k ≤ 2) (w : fX3_run xr xw ch tl nu le nx xn = some (cmd', pos', rea', cau', xr', xw', nu', le', nx')) : fX6_fault ch tl nu le nx cmd pos rea cau xn xr xw (nI k) = some (if rea' = 0 then -4 else if k = 0 then pos' else if k = 1 then rea' else if rea' = 1 then -4 else cau', nu', le', nx', cmd', pos', rea', cau', xr', xw') := by
  unfold fX6_fault
  rw [if_neg (nI_nn (by omega)), if_pos (show nI k ≤ (2 : Int32) by rw [q_l2, q_le (by omega) (by omega)]; exact hk), w, bd9_e]
  by_cases c1 : rea' = 0
  · rw [if_pos c1, if_pos c1]
  rw [if_neg c1, if_neg c1]
  rcases (show k = 0 ∨ k = 1 ∨ k = 2 by omega) with rfl | rfl | rfl
  · rw [if_pos (by decide), if_pos rfl]
  · rw [if_neg (by decide), if_pos (by decide), if_neg (by decide), if_pos rfl]
  · have d1 : (nI 2 = (0 : Int32)) = False := by decide
    have d2 : (nI 2 = (1 : Int32)) = False := by decide
    have d3 : ((2 : Nat) = 0) = False := by decide
    have d4 : ((2 : Nat) = 1) = False := by decide
    simp only [d1, d2, d3, d4, if_false]
    by_cases c2 : rea' = 1
    · rw [if_pos c2, if_pos c2]
    · rw [if_neg c2, if_neg c2]
set_option maxHeartbeats 4000000 in
theorem reads_v {k t : Nat} {ke lnn : Int32} {pm : Nat → Nat} {h0 h1 h2 h3 h4 xn xr xw : HutS} {ch nu : Nat → Int32} {le nx cmd pos rea cau : Int32} (hT : TxtR t ch ch) (hH : TopH k lnn pm h0 h1 h2 h3 h4) (hx : HG xn) : ∃ lnn' pm' nu' le' nx' cmd' pos' rea' cau' xn' xr' xw' g0 g1 g2 g3 g4, fL_reads ke lnn pm ch (nI t) nu le nx cmd pos rea cau xn xr xw h0 h1 h2 h3 h4 = some (1, lnn', pm', nu', le', nx', cmd', pos', rea', cau', xn', xr', xw', g0, g1, g2, g3, g4) ∧ Out k xn lnn' pm' xn' g0 g1 g2 g3 g4 := by
  have ht : t ≤ 60 := hT.1
  have c13 : ∀ (x : HutS) (lnn : Int32), fX6_count ke lnn (nI t) x 13 = some (nI t) := by
    intro x lnn
    unfold fX6_count
    rw [if_neg (by decide), if_neg (by decide), if_neg (by decide), if_neg (by decide), if_neg (by decide), if_neg (by decide), if_neg (by decide), if_neg (by decide), if_neg (by decide), if_neg (by decide), if_neg (by decide), if_neg (by decide), if_neg (by decide), if_pos rfl]
  obtain ⟨g0, g1, g2, g3, g4, e1, e2⟩ := chg hH hx
  obtain ⟨⟨s, hr⟩, hI⟩ := hx
  obtain ⟨cmd0, pos0, rea0, cau0, xr0, xw0, nu0, le0, nx0, r0, ss0', as0, at0, dn0, td0, fo0, nb0, u1, u2, u3⟩ := text_sim xr xw nu le nx s 0 0 s hT hr hI
  obtain ⟨cmd1, pos1, rea1, cau1, xr1, xw1, nu1, le1, nx1, r1, ss1', as1, at1, dn1, td1, fo1, nb1, v1, v2, v3⟩ := text_sim xr0 xw0 nu0 le0 nx0 s 0 0 s hT hr hI
  obtain ⟨cmd2, pos2, rea2, cau2, xr2, xw2, nu2, le2, nx2, r2, ss2', as2, at2, dn2, td2, fo2, nb2, w1, w2, w3⟩ := text_sim xr1 xw1 nu1 le1 nx1 s 0 0 s hT hr hI
  obtain ⟨cmd3, pos3, rea3, cau3, xr3, xw3, nu3, le3, nx3, r3, ss3', as3, at3, dn3, td3, fo3, nb3, y1, y2, y3⟩ := text_sim xr2 xw2 nu2 le2 nx2 s 0 0 s hT hr hI
  rw [u2] at v2 w2 y2
  cases v2
  cases w2
  cases y2
  have F0 := fault_v (k := 0) (cmd := cmd) (pos := pos) (rea := rea) (cau := cau) (by omega) u1
  have F1 := fault_v (k := 1) (cmd := cmd0) (pos := pos0) (rea := rea0) (cau := cau0) (by omega) v1
  have F2 := fault_v (k := 2) (cmd := cmd1) (pos := pos1) (rea := rea1) (cau := cau1) (by omega) w1
  have l0 : (0 : Int32) = nI 0 := q_l0
  have nq : ∀ q : Nat, q < 100 → ¬ nI q < 0 := fun q hq => nI_nn (by omega)
  have n4 : ∀ q : Nat, q < 100 → ¬ nI q = (-4 : Int32) := by
    intro q hq e
    have h9 := nI_nn (A := q) (by omega)
    rw [e] at h9
    exact h9 (by decide)
  have mne : ∀ q : Nat, q < 100 → ¬ nI q = (-1 : Int32) := by
    intro q hq e
    have h9 := nI_nn (A := q) (by omega)
    rw [e] at h9
    exact h9 (by decide)
  unfold fL_reads
  rw [show fX6_fault ch (nI t) nu le nx cmd pos rea cau xn xr xw (0 : Int32) = _ from F0, bd10_e, show fX6_fault ch (nI t) nu0 le0 nx0 cmd0 pos0 rea0 cau0 xn xr0 xw0 (1 : Int32) = _ from F1, bd10_e, show fX6_fault ch (nI t) nu1 le1 nx1 cmd1 pos1 rea1 cau1 xn xr1 xw1 (2 : Int32) = _ from F2, bd10_e, c13, bd1_e]
  rcases u3 with ⟨rfl, rfl, -⟩ | ⟨q0, k0, rfl, rfl, u4⟩
  · -- no fault
    obtain ⟨rfl, -, -⟩ | ⟨q1, k1, -, q, -⟩ := v3
    rotate_left
    · exact absurd q.symm (mne q1 (by omega))
    obtain ⟨rfl, -, -⟩ | ⟨q1, k1, -, q, -⟩ := w3
    rotate_left
    · exact absurd q.symm (mne q1 (by omega))
    obtain ⟨rfl, -, q, q1, rfl, -, hr', hI'⟩ | ⟨q1, k1, -, q, -⟩ := y3
    rotate_left
    · exact absurd q.symm (mne q1 (by omega))
    obtain ⟨lnn', pm', f2, f3⟩ := e2 (nI q) xr3 ⟨⟨_, hr'⟩, hI', Or.inl ⟨q, by omega, rfl⟩⟩
    have hP : fX6_play lnn pm ch (nI t) nu2 le2 nx2 xn xr2 xw2 h0 h1 h2 h3 h4 = some (nI q, lnn', pm', nu3, le3, nx3, nI q, pos3, nI 0, cau3, xr3, xr3, xw3, g0, g1, g2, g3, g4) := by
      unfold fX6_play
      rw [y1, bd9_e, if_pos (show nI 0 = 0 by decide), e1, bd5_e, hr'.copy xn, bd1_e, f2, bd3_e]
    refine ⟨lnn', pm', nu3, le3, nx3, nI q, pos3, nI 0, cau3, xr3, xr3, xw3, g0, g1, g2, g3, g4, ?_, f3⟩
    have z0 : (nI 0 = (0 : Int32)) = True := by decide
    have z1 : ((-4 : Int32) = -4) = True := eq_self _
    have z2 : (nI q < (0 : Int32)) = False := eq_false (nq q (by omega))
    have z3 : (nI t < (2 : Int32) * nI q) = False := by
      rw [q_l2, pk_mul, q_lt (by omega) (by omega)]
      exact eq_false (by omega)
    have z4 : ((-4 : Int32) < 0) = True := by decide
    have z5 : ((1 : Int32) = 0) = False := by decide
    have z6 : ∀ a : Int32, (a = a) = True := fun a => eq_self a
    simp only [hP, bd18_e, q_mrg, z0, z1, z2, z3, z4, z5, z6, if_true, if_false, c13, bd1_e]
  · -- a fault
    obtain ⟨-, q, -⟩ | ⟨q1, k1, rfl, q, v4⟩ := v3
    · exact absurd q (mne q0 (by omega))
    obtain ⟨-, q5, -⟩ | ⟨q2, k2, rfl, q5, w4⟩ := w3
    · exact absurd q5 (mne q0 (by omega))
    obtain ⟨-, q6, -⟩ | ⟨q3, k3, rfl, q6, y4⟩ := y3
    · exact absurd q6 (mne q0 (by omega))
    have d10 : ¬ nI 1 = nI 0 := by decide
    have rn : ¬ rea3 = 0 := by
      rcases y4 with ⟨rfl, _⟩ | ⟨rfl, _⟩
      · decide
      · decide
    have hP : fX6_play lnn pm ch (nI t) nu2 le2 nx2 xn xr2 xw2 h0 h1 h2 h3 h4 = some (-2, lnn, pm, nu3, le3, nx3, cmd3, nI q3, rea3, cau3, xn, xr3, xw3, h0, h1, h2, h3, h4) := by
      unfold fX6_play
      rw [y1, bd9_e, if_neg rn]
    refine ⟨lnn, pm, nu3, le3, nx3, cmd3, nI q3, rea3, cau3, xn, xr3, xw3, h0, h1, h2, h3, h4, ?_, ⟨⟨s, hr⟩, hI⟩, k, hH, Or.inl ⟨rfl, rfl⟩⟩
    have a0 : (nI q0 = (-4 : Int32)) = False := eq_false (n4 q0 (by omega))
    have a1 : (nI q0 < (0 : Int32)) = False := eq_false (nq q0 (by omega))
    have a2 : (nI t ≤ nI q0) = False := by
      rw [q_le (by omega) (by omega)]
      exact eq_false (by omega)
    have a3 : ((-2 : Int32) = -2) = True := eq_self _
    have a4 : ((-4 : Int32) = -4) = True := eq_self _
    have a5 : ((1 : Int32) = 0) = False := by decide
    have a6 : ((0 : Int32) = 0) = True := eq_self _
    have b00 : (0 = 0) = True := eq_self _
    have b10 : ((1 : Nat) = 0) = False := by decide
    have b20 : ((2 : Nat) = 0) = False := by decide
    have b21 : ((2 : Nat) = 1) = False := by decide
    have b11 : ((1 : Nat) = 1) = True := eq_self _
    have g10 : (nI 1 = (0 : Int32)) = False := by decide
    have g20 : (nI 2 = (0 : Int32)) = False := by decide
    have g11 : (nI 1 = (1 : Int32)) = True := by decide
    have g21 : (nI 2 = (1 : Int32)) = False := by decide
    have g22 : (nI 2 = (2 : Int32)) = True := by decide
    have z6 : ∀ a : Int32, (a = a) = True := fun a => eq_self a
    rcases u4 with ⟨rfl, q7⟩ | ⟨rfl, q7, -, -⟩
    · have e1r : rea1 = nI 1 := by
        rcases v4 with ⟨h, -⟩ | ⟨-, h, -⟩
        · exact h
        · rw [q7] at h; exact absurd h.symm d10
      have e2r : rea2 = nI 1 := by
        rcases w4 with ⟨h, -⟩ | ⟨-, h, -⟩
        · exact h
        · rw [q7] at h; exact absurd h.symm d10
      subst e1r e2r
      simp only [hP, bd18_e, q_mrg, a0, a1, a2, a3, a4, a5, a6, b00, b10, b20, b21, b11, g10, g11, g20, g21, g22, z6, if_true, if_false, c13, bd1_e]
    · have e1r : rea1 = nI 2 := by
        rcases v4 with ⟨-, h⟩ | ⟨h, -⟩
        · rw [q7] at h; exact absurd h d10
        · exact h
      have e2r : rea2 = nI 2 ∧ ErrC cau2 := by
        rcases w4 with ⟨-, h⟩ | ⟨h, -, -, h2⟩
        · rw [q7] at h; exact absurd h d10
        · exact ⟨h, h2⟩
      obtain ⟨e2r, hE⟩ := e2r
      subst e1r e2r
      have x1 : (0 ≤ cau2) = False := eq_false (Int32.not_le.mpr hE.neg)
      have x2 : (cau2 ≤ (-4 : Int32)) = False := by
        rcases hE with rfl | rfl | rfl <;> decide
      simp only [hP, bd18_e, q_mrg, a0, a1, a2, a3, a4, a5, a6, b00, b10, b20, b21, b11, g10, g11, g20, g21, g22, x1, x2, z6, if_true, if_false, c13, bd1_e]
