/-! ===== the calls that change, with the history ===== -/
theorem HR.day {x : HutS} {s : Nat → Int32} (h : HR x s) : ∃ d, d ≤ 365 ∧ s 0 = nI d ∧ x.2.2.2.2.2.2.2.2.2.2.2.2.2.2.2.2.2.2.2.2.1 = nI d := by
  obtain ⟨l, pl, N, d, F, lk, la, ll, us, sp, zs, zd, zn, zt, zl, zc, sto, sg, hu, cn, gn, cs, pk, pa, pd, br, hN, hd, rfl, hh⟩ := h
  exact ⟨d, hd, hh.1.2.2.2.2.2.1, rfl⟩
theorem step_load {lnn : Int32} {pm : Nat → Nat} {h0 h1 h2 h3 h4 xn : HutS} {pt ss : Nat → Int32} {st : Int32} (bg : Nat → Int32) (p1 p2 p3 : Int32) (hH : HistR lnn pm h0 h1 h2 h3 h4 pt st) (hx : HR xn ss) : ∃ r lnn' pm' x' g0 g1 g2 g3 g4 ss' bg' pt' st', fX6_load lnn pm xn h0 h1 h2 h3 h4 p1 p2 p3 = some (r, lnn', pm', x', g0, g1, g2, g3, g4) ∧ fX7_load ss bg pt st p1 p2 p3 = some (r, ss', bg', pt', st') ∧ HistR lnn' pm' g0 g1 g2 g3 g4 pt' st' ∧ HR x' ss' := by
  obtain ⟨g0, g1, g2, g3, g4, bg1, c1, c2, c3, c4, c5⟩ := change bg hH hx
  obtain ⟨r, x', s', e1, e2, e3⟩ := g_load p1 p2 p3 hx
  obtain ⟨lnn', pm', ss3, pt', st', k1, k2, k3, k4⟩ := c5 r x' s' e3
  refine ⟨r, lnn', pm', x', g0, g1, g2, g3, g4, ss3, bg1, pt', st', ?_, ?_, k3, k4⟩
  · unfold fX6_load
    rw [c1, bd5_e, e1, bd2_e, k1, bd3_e]
  · unfold fX7_load
    rw [c2, bd1_e, e2, bd2_e, k2, bd4_e]
theorem step_fly {lnn : Int32} {pm : Nat → Nat} {h0 h1 h2 h3 h4 xn : HutS} {pt ss : Nat → Int32} {st : Int32} (bg : Nat → Int32) (hH : HistR lnn pm h0 h1 h2 h3 h4 pt st) (hx : HR xn ss) : ∃ r lnn' pm' x' g0 g1 g2 g3 g4 ss' bg' pt' st', fX6_fly lnn pm xn h0 h1 h2 h3 h4 = some (r, lnn', pm', x', g0, g1, g2, g3, g4) ∧ fX7_fly ss bg pt st = some (r, ss', bg', pt', st') ∧ HistR lnn' pm' g0 g1 g2 g3 g4 pt' st' ∧ HR x' ss' := by
  obtain ⟨g0, g1, g2, g3, g4, bg1, c1, c2, c3, c4, c5⟩ := change bg hH hx
  obtain ⟨r, x', s', e1, e2, e3⟩ := g_fly hx
  obtain ⟨lnn', pm', ss3, pt', st', k1, k2, k3, k4⟩ := c5 r x' s' e3
  refine ⟨r, lnn', pm', x', g0, g1, g2, g3, g4, ss3, bg1, pt', st', ?_, ?_, k3, k4⟩
  · unfold fX6_fly
    rw [c1, bd5_e, e1, bd2_e, k1, bd3_e]
  · unfold fX7_fly
    rw [c2, bd1_e, e2, bd2_e, k2, bd4_e]
theorem step_cancel {lnn : Int32} {pm : Nat → Nat} {h0 h1 h2 h3 h4 xn : HutS} {pt ss : Nat → Int32} {st : Int32} (bg : Nat → Int32) (p1 : Int32) (hH : HistR lnn pm h0 h1 h2 h3 h4 pt st) (hx : HR xn ss) : ∃ r lnn' pm' x' g0 g1 g2 g3 g4 ss' bg' pt' st', fX6_cancel lnn pm xn h0 h1 h2 h3 h4 p1 = some (r, lnn', pm', x', g0, g1, g2, g3, g4) ∧ fX7_cancel ss bg pt st p1 = some (r, ss', bg', pt', st') ∧ HistR lnn' pm' g0 g1 g2 g3 g4 pt' st' ∧ HR x' ss' := by
  obtain ⟨g0, g1, g2, g3, g4, bg1, c1, c2, c3, c4, c5⟩ := change bg hH hx
  obtain ⟨r, x', s', e1, e2, e3⟩ := g_cancel p1 hx
  obtain ⟨lnn', pm', ss3, pt', st', k1, k2, k3, k4⟩ := c5 r x' s' e3
  refine ⟨r, lnn', pm', x', g0, g1, g2, g3, g4, ss3, bg1, pt', st', ?_, ?_, k3, k4⟩
  · unfold fX6_cancel
    rw [c1, bd5_e, e1, bd2_e, k1, bd3_e]
  · unfold fX7_cancel
    rw [c2, bd1_e, e2, bd2_e, k2, bd4_e]
theorem step_storm {lnn : Int32} {pm : Nat → Nat} {h0 h1 h2 h3 h4 xn : HutS} {pt ss : Nat → Int32} {st : Int32} (bg : Nat → Int32) (p1 p2 : Int32) (hH : HistR lnn pm h0 h1 h2 h3 h4 pt st) (hx : HR xn ss) : ∃ r lnn' pm' x' g0 g1 g2 g3 g4 ss' bg' pt' st', fX6_storm lnn pm xn h0 h1 h2 h3 h4 p1 p2 = some (r, lnn', pm', x', g0, g1, g2, g3, g4) ∧ fX7_storm ss bg pt st p1 p2 = some (r, ss', bg', pt', st') ∧ HistR lnn' pm' g0 g1 g2 g3 g4 pt' st' ∧ HR x' ss' := by
  obtain ⟨g0, g1, g2, g3, g4, bg1, c1, c2, c3, c4, c5⟩ := change bg hH hx
  obtain ⟨r, x', s', e1, e2, e3⟩ := g_storm p1 p2 hx
  obtain ⟨lnn', pm', ss3, pt', st', k1, k2, k3, k4⟩ := c5 r x' s' e3
  refine ⟨r, lnn', pm', x', g0, g1, g2, g3, g4, ss3, bg1, pt', st', ?_, ?_, k3, k4⟩
  · unfold fX6_storm
    rw [c1, bd5_e, e1, bd2_e, k1, bd3_e]
  · unfold fX7_storm
    rw [c2, bd1_e, e2, bd2_e, k2, bd4_e]
theorem step_sleep {lnn : Int32} {pm : Nat → Nat} {h0 h1 h2 h3 h4 xn : HutS} {pt ss : Nat → Int32} {st : Int32} (bg : Nat → Int32) (p1 : Int32) (hH : HistR lnn pm h0 h1 h2 h3 h4 pt st) (hx : HR xn ss) : ∃ r lnn' pm' x' g0 g1 g2 g3 g4 ss' bg' pt' st', fX6_sleep lnn pm xn h0 h1 h2 h3 h4 p1 = some (r, lnn', pm', x', g0, g1, g2, g3, g4) ∧ fX7_sleep ss bg pt st p1 = some (r, ss', bg', pt', st') ∧ HistR lnn' pm' g0 g1 g2 g3 g4 pt' st' ∧ HR x' ss' := by
  obtain ⟨g0, g1, g2, g3, g4, bg1, c1, c2, c3, c4, c5⟩ := change bg hH hx
  obtain ⟨r, x', s', e1, e2, e3⟩ := g_sleep p1 hx
  obtain ⟨lnn', pm', ss3, pt', st', k1, k2, k3, k4⟩ := c5 r x' s' e3
  refine ⟨r, lnn', pm', x', g0, g1, g2, g3, g4, ss3, bg1, pt', st', ?_, ?_, k3, k4⟩
  · unfold fX6_sleep
    rw [c1, bd5_e, e1, bd2_e, k1, bd3_e]
  · unfold fX7_sleep
    rw [c2, bd1_e, e2, bd2_e, k2, bd4_e]
theorem step_book {lnn : Int32} {pm : Nat → Nat} {h0 h1 h2 h3 h4 xn : HutS} {pt ss : Nat → Int32} {st : Int32} (xt : HutS) (bg asd : Nat → Int32) (p1 p2 p3 : Int32) (hH : HistR lnn pm h0 h1 h2 h3 h4 pt st) (hx : HR xn ss) : ∃ r lnn' pm' x' xt' g0 g1 g2 g3 g4 ss' bg' pt' st' asd', fX6_book lnn pm xn xt h0 h1 h2 h3 h4 p1 p2 p3 = some (r, lnn', pm', x', xt', g0, g1, g2, g3, g4) ∧ fX7_book ss bg pt st asd p1 p2 p3 = some (r, ss', bg', pt', st', asd') ∧ HistR lnn' pm' g0 g1 g2 g3 g4 pt' st' ∧ HR x' ss' := by
  obtain ⟨g0, g1, g2, g3, g4, bg1, c1, c2, c3, c4, c5⟩ := change bg hH hx
  obtain ⟨r, x', xt', s', asd', e1, e2, e3⟩ := g_book xt asd p1 p2 p3 hx
  obtain ⟨lnn', pm', ss3, pt', st', k1, k2, k3, k4⟩ := c5 r x' s' e3
  refine ⟨r, lnn', pm', x', xt', g0, g1, g2, g3, g4, ss3, bg1, pt', st', asd', ?_, ?_, k3, k4⟩
  · unfold fX6_book
    rw [c1, bd5_e, e1, bd3_e, k1, bd3_e]
  · unfold fX7_book
    rw [c2, bd1_e, e2, bd3_e, k2, bd4_e]
theorem step_clear {lnn : Int32} {pm : Nat → Nat} {h0 h1 h2 h3 h4 xn : HutS} {pt ss : Nat → Int32} {st : Int32} (bg : Nat → Int32) (p1 : Int32) (hH : HistR lnn pm h0 h1 h2 h3 h4 pt st) (hx : HR xn ss) : ∃ r lnn' pm' x' g0 g1 g2 g3 g4 ss' bg' pt' st', fX6_clear lnn pm xn h0 h1 h2 h3 h4 p1 = some (r, lnn', pm', x', g0, g1, g2, g3, g4) ∧ fX7_clear ss bg pt st p1 = some (r, ss', bg', pt', st') ∧ HistR lnn' pm' g0 g1 g2 g3 g4 pt' st' ∧ HR x' ss' := by
  have d10 : ¬ nI 1 = nI 0 := by decide
  obtain ⟨g0, g1, g2, g3, g4, bg1, c1, c2, c3, c4, c5⟩ := change bg hH hx
  have i0 : ∀ {α : Type} (y : Option α), gd (inB (nI 0) 599) y = y := fun y => q_gd (by omega) (by omega)
  obtain ⟨d, hd, h00, hc⟩ := g_calm p1 hx
  rcases hc with ⟨e1, e2⟩ | ⟨k, v, x', hk, rfl, hv, e1, e2, e3, e4⟩
  · refine ⟨-1, lnn, pm, xn, g0, g1, g2, g3, g4, ss, bg1, pt, st, ?_, ?_, c4, hx⟩
    · unfold fX6_clear
      rw [c1, bd5_e, e1, bd2_e, rec_neg (by decide), bd3_e]
    · unfold fX7_clear
      rw [c2, bd1_e, q_l0, i0, q_cl (by omega), h00, show (395 : Int32) = nI 395 by decide, e2, bd1_e, if_pos rfl]
  · obtain ⟨lnn', pm', ss3, pt', st', k1, k2, k3, k4⟩ := c5 (nI v) x' (upd ss (203 + k) (nI 0)) (Or.inl ⟨v, by omega, rfl, e4⟩)
    refine ⟨nI v, lnn', pm', x', g0, g1, g2, g3, g4, ss3, bg1, pt', st', ?_, ?_, k3, k4⟩
    · unfold fX6_clear
      rw [c1, bd5_e, e1, bd2_e, k1, bd3_e]
    · unfold fX7_clear
      rw [c2, bd1_e, q_l0, i0, q_cl (by omega), h00, show (395 : Int32) = nI 395 by decide, e2, bd1_e, if_neg d10, q_l203, nI_add, q_gd (by omega) (by omega), q_cl (by omega), q_jl, q_jl, e3, k2, bd4_e]
theorem step_set {lnn : Int32} {pm : Nat → Nat} {h0 h1 h2 h3 h4 xn : HutS} {pt ss : Nat → Int32} {st : Int32} (bg : Nat → Int32) (p1 p2 : Int32) (hH : HistR lnn pm h0 h1 h2 h3 h4 pt st) (hx : HR xn ss) : ∃ r lnn' pm' x' g0 g1 g2 g3 g4 ss' bg' pt' st', fX6_set lnn pm xn h0 h1 h2 h3 h4 p1 p2 = some (r, lnn', pm', x', g0, g1, g2, g3, g4) ∧ fX7_set ss bg pt st p1 p2 = some (r, ss', bg', pt', st') ∧ HistR lnn' pm' g0 g1 g2 g3 g4 pt' st' ∧ HR x' ss' := by
  have d10 : ¬ nI 1 = nI 0 := by decide
  obtain ⟨g0, g1, g2, g3, g4, bg1, c1, c2, c3, c4, c5⟩ := change bg hH hx
  rcases g_set p1 p2 hx with ⟨e1, e2⟩ | ⟨k, old, x', hk, rfl, ho, e1, e2, e3, e4⟩
  · refine ⟨-1, lnn, pm, xn, g0, g1, g2, g3, g4, ss, bg1, pt, st, ?_, ?_, c4, hx⟩
    · unfold fX6_set
      rw [c1, bd5_e, e1, bd2_e, rec_neg (by decide), bd3_e]
    · unfold fX7_set
      rw [c2, bd1_e, e2, bd1_e, q_l0, if_pos rfl]
  · obtain ⟨lnn', pm', ss3, pt', st', k1, k2, k3, k4⟩ := c5 (nI old) x' (upd ss (10 + k) p2) (Or.inl ⟨old, by omega, rfl, e4⟩)
    refine ⟨nI old, lnn', pm', x', g0, g1, g2, g3, g4, ss3, bg1, pt', st', ?_, ?_, k3, k4⟩
    · unfold fX6_set
      rw [c1, bd5_e, e1, bd2_e, k1, bd3_e]
    · unfold fX7_set
      rw [c2, bd1_e, e2, bd1_e, q_l0, if_neg d10, show (10 : Int32) = nI 10 by decide, nI_add, q_gd (by omega) (by omega), q_cl (by omega), q_jl, q_jl, e3, k2, bd4_e]
theorem m_restore2 {ss bg kp pt bg1 : Nat → Int32} {ik st : Int32} (hik : ¬ ik = 0) (hb : fX7_begins ss bg = some bg1) : ∃ ss1, (∀ j, j < 599 → ss1 j = kp j) ∧ fX7_restore ss bg kp ik pt st = (bd4 (fX7_acted ss1 bg1 pt st (ss1 0)) fun r9 ss10 pt11 st12 => some (r9, ss10, bg1, pt11, st12)) := by
  refine Exists.elim (scat_up (st := sX7_restore_rec4 kp pt st bg1) (out := fun a => bd4 (fX7_acted a bg1 pt st (a 0)) fun r9 ss10 pt11 st12 => some (r9, ss10, bg1, pt11, st12)) (fun k => k) (fun k _ => kp k) 0 599 (fun _ => True) (fun _ _ _ _ _ _ => trivial) (fun rec a _ => ?_) (fun rec i a _ hi _ => ?_) (fun _ _ _ _ h => h) (fun _ _ _ _ _ _ _ => rfl) 599 0 gFU ss (Nat.le_refl _) (by omega) (by unfold gFU; omega) trivial) (fun a ⟨g1, _, g2, g3⟩ => ?_)
  · simp (disch := omega) only [sX7_restore_rec4, q_l599, q_le, Nat.le_refl, if_true, q_l0, q_gd, q_cl]
  · simp (disch := omega) only [sX7_restore_rec4, q_l599, q_le, if_neg (Nat.not_le.mpr hi), q_gd, q_cl, q_jl, q_l1, nI_add]
  · refine ⟨a, fun j hj => g2 j (Nat.zero_le _) hj, ?_⟩
    unfold fX7_restore
    rw [hb, bd1_e, if_neg hik, q_l0, g1]
theorem step_restore {lnn : Int32} {pm : Nat → Nat} {h0 h1 h2 h3 h4 xn : HutS} {pt ss : Nat → Int32} {st : Int32} {xp : HutS} {kp : Nat → Int32} {ke ik : Int32} (bg : Nat → Int32) (hH : HistR lnn pm h0 h1 h2 h3 h4 pt st) (hx : HR xn ss) (hk : (ke = nI 0 ∧ ik = nI 0) ∨ (ke = nI 1 ∧ ik = nI 1 ∧ HR xp kp)) : ∃ r lnn' pm' x' g0 g1 g2 g3 g4 ss' bg' pt' st', fX6_restore ke lnn pm xn xp h0 h1 h2 h3 h4 = some (r, lnn', pm', x', g0, g1, g2, g3, g4) ∧ fX7_restore ss bg kp ik pt st = some (r, ss', bg', pt', st') ∧ HistR lnn' pm' g0 g1 g2 g3 g4 pt' st' ∧ HR x' ss' := by
  have d10 : ¬ nI 1 = 0 := by decide
  obtain ⟨g0, g1, g2, g3, g4, bg1, c1, c2, c3, c4, c5⟩ := change bg hH hx
  rcases hk with ⟨rfl, rfl⟩ | ⟨rfl, rfl, hp⟩
  · refine ⟨-2, lnn, pm, xn, h0, h1, h2, h3, h4, ss, bg1, pt, st, ?_, ?_, hH, hx⟩
    · unfold fX6_restore
      rw [q_l0, if_pos rfl]
    · unfold fX7_restore
      rw [c2, bd1_e, q_l0, if_pos rfl]
  · obtain ⟨d, hd, d1, d2⟩ := hp.day
    obtain ⟨ss1, r1, r2⟩ := m_restore2 (kp := kp) (pt := pt) (st := st) d10 c2
    obtain ⟨lnn', pm', ss3, pt', st', k1, k2, k3, k4⟩ := c5 (nI d) xp ss1 (Or.inl ⟨d, by omega, rfl, hp.congr r1⟩)
    refine ⟨nI d, lnn', pm', xp, g0, g1, g2, g3, g4, ss3, bg1, pt', st', ?_, ?_, k3, k4⟩
    · unfold fX6_restore
      rw [if_neg d10, c1, bd5_e, hp.copy xn, bd1_e, d2, k1, bd3_e]
    · rw [r2, r1 0 (by omega), d1, k2, bd4_e]
theorem step_keep {xn xp : HutS} {ss kp : Nat → Int32} (hx : HR xn ss) : ∃ r xp' kp', fX6_keep xn xp = some (r, nI 1, xp') ∧ fX7_keep ss kp = some (r, kp', nI 1) ∧ HR xp' kp' := by
  obtain ⟨d, hd, d1, d2⟩ := hx.day
  obtain ⟨kp', e1, e2⟩ := m_keep (kp := kp) d1
  refine ⟨nI d, xn, kp', ?_, e1, hx.congr e2⟩
  unfold fX6_keep
  rw [hx.copy xp, bd1_e, d2, q_l1]
theorem q_ch : ∀ c : Fin 127, vp_nar .char ((((nI c.1).toUInt32 % 65536).toInt32)) = nI c.1 := by decide +kernel
theorem step_type {t : Nat} {ch tx : Nat → Int32} (p1 : Int32) (h : TxtR t ch tx) : ∃ r ch' t' tx', fX6_type ch (nI t) p1 = some (r, ch', nI t') ∧ fX7_type tx (nI t) p1 = some (r, tx', nI t') ∧ TxtR t' ch' tx' := by
  have d10 : ¬ nI 1 = nI 0 := by decide
  have q32 : (32 : Int32) = nI 32 := by decide
  have q126 : (126 : Int32) = nI 126 := by decide
  have ht : t ≤ 60 := h.1
  rcases in_c p1 (lo := 32) (hi := 126) (by omega) (by omega) with ⟨c, k0, k1, rfl, k3⟩ | ⟨k3, k4⟩
  · have n1 : ¬ c < 32 := by omega
    by_cases e : t = 60
    · refine ⟨-3, ch, t, tx, ?_, ?_, h⟩
      · have n2 : ¬ t < 60 := by omega
        unfold fX6_type
        rw [q32, if_neg (show ¬ nI c < nI 32 by rw [q_lt (by omega) (by omega)]; exact n1), q126, if_pos (show nI c ≤ nI 126 by rw [q_le (by omega) (by omega)]; exact k1), q_l60, if_neg (show ¬ nI t < nI 60 by rw [q_lt (by omega) (by omega)]; exact n2)]
      · unfold fX7_type
        rw [q32, q126, k3, bd1_e, q_l0, if_neg d10, q_l60, if_pos (by rw [e])]
    · have n2 : t < 60 := by omega
      have n3 : ¬ 60 ≤ t := by omega
      have hc : vp_nar .char ((((nI c).toUInt32 % 65536).toInt32)) = nI c := q_ch ⟨c, by omega⟩
      refine ⟨nI (t + 1), upd ch t (nI c), t + 1, upd tx t (nI c), ?_, ?_, ⟨by omega, fun i hi => ?_⟩⟩
      · have ha : fX5_append ch (nI t) (nI c) = some (upd ch t (nI c), nI (t + 1)) := by
          unfold fX5_append
          rw [hc, q_l60, if_neg (show ¬ nI 60 ≤ nI t by rw [q_le (by omega) (by omega)]; exact n3), q_gd (by omega) (by omega), q_cl (by omega), q_jl, q_l1, nI_add, q_jl]
        unfold fX6_type
        rw [q32, if_neg (show ¬ nI c < nI 32 by rw [q_lt (by omega) (by omega)]; exact n1), q126, if_pos (show nI c ≤ nI 126 by rw [q_le (by omega) (by omega)]; exact k1), q_l60, if_pos (show nI t < nI 60 by rw [q_lt (by omega) (by omega)]; exact n2), ha, bd2_e]
      · unfold fX7_type
        rw [q32, q126, k3, bd1_e, q_l0, if_neg d10, q_l60, if_neg (show ¬ nI t = nI 60 by rw [q_eq (by omega) (by omega)]; exact e), q_gd (by omega) (by omega), q_cl (by omega), q_jl, q_l1, nI_add, q_jl]
      · by_cases ei : i = t
        · subst ei
          exact ⟨c, k0, k1, pk_us, pk_us⟩
        · obtain ⟨z, z1, z2, z3, z4⟩ := h.2 i (by omega)
          exact ⟨z, z1, z2, (pk_un ei).trans z3, (pk_un ei).trans z4⟩
  · refine ⟨-1, ch, t, tx, ?_, ?_, h⟩
    · unfold fX6_type
      rcases k4 with k4 | k4
      · rw [q32, if_pos k4]
      · by_cases k5 : p1 < (32 : Int32)
        · rw [if_pos k5]
        · rw [if_neg k5, q126, if_neg (Int32.not_le.mpr k4)]
    · unfold fX7_type
      rw [q32, q126, k3, bd1_e, q_l0, if_pos rfl]
