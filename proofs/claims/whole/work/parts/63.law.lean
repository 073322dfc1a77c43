/-! ===== the law, call by call ===== -/
def TopR (ke lnn : Int32) (pm : Nat → Nat) (ch : Nat → Int32) (tl : Int32) (xn xp h0 h1 h2 h3 h4 : HutS) (ss kp : Nat → Int32) (ik : Int32) (pt : Nat → Int32) (st : Int32) (tx : Nat → Int32) (ln : Int32) : Prop :=
  HR xn ss ∧ HistR lnn pm h0 h1 h2 h3 h4 pt st ∧ ((ke = nI 0 ∧ ik = nI 0) ∨ (ke = nI 1 ∧ ik = nI 1 ∧ HR xp kp)) ∧ ∃ t, tl = nI t ∧ ln = nI t ∧ TxtR t ch tx
theorem HistR.eq {lnn : Int32} {pm : Nat → Nat} {h0 h1 h2 h3 h4 : HutS} {pt : Nat → Int32} {st : Int32} (h : HistR lnn pm h0 h1 h2 h3 h4 pt st) : lnn = st := by
  obtain ⟨k, hk, rfl, rfl, _⟩ := h
  rfl
set_option maxHeartbeats 8000000 in
set_option maxRecDepth 100000 in
theorem law_step {xs : Nat → Int32} {L k : Nat} {rec1 : Int32 → Int32 → Int32 → (Nat → Nat) → (Nat → Int32) → Int32 → (Nat → Int32) → Int32 → Int32 → Int32 → Int32 → Int32 → Int32 → HutS → HutS → HutS → HutS → HutS → HutS → HutS → HutS → HutS → HutS → (Nat → Int32) → (Nat → Int32) → (Nat → Int32) → Int32 → (Nat → Int32) → Int32 → (Nat → Int32) → Int32 → (Nat → Int32) → Int32 → Int32 → Int32 → Int32 → (Nat → Int32) → Option (Int32)} {ke : Int32} {lnn : Int32} {pm : Nat → Nat} {ch : Nat → Int32} {tl : Int32} {nu : Nat → Int32} {le : Int32} {nx : Int32} {cmd : Int32} {pos : Int32} {rea : Int32} {cau : Int32} {xn : HutS} {xt : HutS} {xp : HutS} {xr : HutS} {xw : HutS} {h0 : HutS} {h1 : HutS} {h2 : HutS} {h3 : HutS} {h4 : HutS} {ss : Nat → Int32} {bg : Nat → Int32} {kp : Nat → Int32} {ik : Int32} {pt : Nat → Int32} {st : Int32} {tx : Nat → Int32} {ln : Int32} {asd : Nat → Int32} {att : Int32} {dn : Int32} {td : Int32} {fo : Int32} {nb : Nat → Int32} (hL : L ≤ 2048) (hk : 4 * k + 4 ≤ L) (hT : TopR ke lnn pm ch tl xn xp h0 h1 h2 h3 h4 ss kp ik pt st tx ln) (hrec : ∀ {ke : Int32} {lnn : Int32} {pm : Nat → Nat} {ch : Nat → Int32} {tl : Int32} {nu : Nat → Int32} {le : Int32} {nx : Int32} {cmd : Int32} {pos : Int32} {rea : Int32} {cau : Int32} {xn : HutS} {xt : HutS} {xp : HutS} {xr : HutS} {xw : HutS} {h0 : HutS} {h1 : HutS} {h2 : HutS} {h3 : HutS} {h4 : HutS} {ss : Nat → Int32} {bg : Nat → Int32} {kp : Nat → Int32} {ik : Int32} {pt : Nat → Int32} {st : Int32} {tx : Nat → Int32} {ln : Int32} {asd : Nat → Int32} {att : Int32} {dn : Int32} {td : Int32} {fo : Int32} {nb : Nat → Int32}, TopR ke lnn pm ch tl xn xp h0 h1 h2 h3 h4 ss kp ik pt st tx ln → rec1 (nI (4 * (k + 1))) ke lnn pm ch tl nu le nx cmd pos rea cau xn xt xp xr xw h0 h1 h2 h3 h4 ss bg kp ik pt st tx ln asd att dn td fo nb = some 1) : sL_law_rec1 xs L rec1 (nI (4 * k)) ke lnn pm ch tl nu le nx cmd pos rea cau xn xt xp xr xw h0 h1 h2 h3 h4 ss bg kp ik pt st tx ln asd att dn td fo nb = some 1 := by
  obtain ⟨hx, hH, hK, t, rfl, rfl, hTx⟩ := hT
  have f0 : ¬ (Int32.ofNat L - (4 : Int32)) < nI (4 * k) := by
    rw [show Int32.ofNat L = nI L from rfl, q_l4, q_subn (by omega) (by omega), q_lt (by omega) (by omega)]
    omega
  have e1 : nI (4 * k) + (1 : Int32) = nI (4 * k + 1) := by rw [q_l1, nI_add]
  have e2 : nI (4 * k) + (2 : Int32) = nI (4 * k + 2) := by rw [q_l2, nI_add]
  have e3 : nI (4 * k) + (3 : Int32) = nI (4 * k + 3) := by rw [q_l3, nI_add]
  have e4 : nI (4 * k) + (4 : Int32) = nI (4 * (k + 1)) := by rw [q_l4, nI_add]; rfl
  have g0 : ∀ {α : Type} (y : Option α), gd (inB (nI (4 * k)) L) y = y := fun y => q_gd (by omega) (by omega)
  have g1 : ∀ {α : Type} (y : Option α), gd (inB (nI (4 * k + 1)) L) y = y := fun y => q_gd (by omega) (by omega)
  have g2 : ∀ {α : Type} (y : Option α), gd (inB (nI (4 * k + 2)) L) y = y := fun y => q_gd (by omega) (by omega)
  have g3 : ∀ {α : Type} (y : Option α), gd (inB (nI (4 * k + 3)) L) y = y := fun y => q_gd (by omega) (by omega)
  have c0 : (nI (4 * k)).toNatClampNeg = 4 * k := q_cl (by omega)
  have c1 : (nI (4 * k + 1)).toNatClampNeg = 4 * k + 1 := q_cl (by omega)
  have c2 : (nI (4 * k + 2)).toNatClampNeg = 4 * k + 2 := q_cl (by omega)
  have c3 : (nI (4 * k + 3)).toNatClampNeg = 4 * k + 3 := q_cl (by omega)
  unfold sL_law_rec1
  rw [if_neg f0, g0, c0]
  simp only [e1, e2, e3, e4, g1, g2, g3, c1, c2, c3]
  generalize xs (4 * k) &&& (31 : Int32) = op
  generalize xs (4 * k + 1) = p1
  generalize xs (4 * k + 2) = p2
  generalize xs (4 * k + 3) = p3
  by_cases o0 : op = (0 : Int32)
  · rw [if_pos o0]
    obtain ⟨r, lnn', pm', x', g0', g1', g2', g3', g4', ss', bg', pt', st', w1, w2, w3, w4⟩ := step_load bg p1 p2 p3 hH hx
    rw [w1, bd9_e, w2, bd5_e, if_pos rfl, q_jl]
    exact hrec ⟨w4, w3, hK, t, rfl, rfl, hTx⟩
  rw [if_neg o0]
  by_cases o1 : op = (1 : Int32)
  · rw [if_pos o1]
    obtain ⟨r, lnn', pm', x', g0', g1', g2', g3', g4', ss', bg', pt', st', w1, w2, w3, w4⟩ := step_fly bg hH hx
    rw [w1, bd9_e, w2, bd5_e, if_pos rfl, q_jl]
    exact hrec ⟨w4, w3, hK, t, rfl, rfl, hTx⟩
  rw [if_neg o1]
  by_cases o2 : op = (2 : Int32)
  · rw [if_pos o2]
    obtain ⟨r, lnn', pm', x', xt', g0', g1', g2', g3', g4', ss', bg', pt', st', asd', w1, w2, w3, w4⟩ := step_book xt bg asd p1 p2 p3 hH hx
    rw [w1, bd10_e, w2, bd6_e, if_pos rfl, q_jl]
    exact hrec ⟨w4, w3, hK, t, rfl, rfl, hTx⟩
  rw [if_neg o2]
  by_cases o3 : op = (3 : Int32)
  · rw [if_pos o3]
    obtain ⟨r, lnn', pm', x', g0', g1', g2', g3', g4', ss', bg', pt', st', w1, w2, w3, w4⟩ := step_cancel bg p1 hH hx
    rw [w1, bd9_e, w2, bd5_e, if_pos rfl, q_jl]
    exact hrec ⟨w4, w3, hK, t, rfl, rfl, hTx⟩
  rw [if_neg o3]
  by_cases o4 : op = (4 : Int32)
  · rw [if_pos o4]
    obtain ⟨r, lnn', pm', x', g0', g1', g2', g3', g4', ss', bg', pt', st', w1, w2, w3, w4⟩ := step_storm bg p1 p2 hH hx
    rw [w1, bd9_e, w2, bd5_e, if_pos rfl, q_jl]
    exact hrec ⟨w4, w3, hK, t, rfl, rfl, hTx⟩
  rw [if_neg o4]
  by_cases o5 : op = (5 : Int32)
  · rw [if_pos o5]
    obtain ⟨r, lnn', pm', x', g0', g1', g2', g3', g4', ss', bg', pt', st', w1, w2, w3, w4⟩ := step_clear bg p1 hH hx
    rw [w1, bd9_e, w2, bd5_e, if_pos rfl, q_jl]
    exact hrec ⟨w4, w3, hK, t, rfl, rfl, hTx⟩
  rw [if_neg o5]
  by_cases o6 : op = (6 : Int32)
  · rw [if_pos o6]
    obtain ⟨r, lnn', pm', x', g0', g1', g2', g3', g4', ss', bg', pt', st', w1, w2, w3, w4⟩ := step_sleep bg p1 hH hx
    rw [w1, bd9_e, w2, bd5_e, if_pos rfl, q_jl]
    exact hrec ⟨w4, w3, hK, t, rfl, rfl, hTx⟩
  rw [if_neg o6]
  by_cases o7 : op = (7 : Int32)
  · rw [if_pos o7]
    obtain ⟨r, lnn', pm', x', g0', g1', g2', g3', g4', ss', bg', pt', st', w1, w2, w3, w4⟩ := step_set bg p1 p2 hH hx
    rw [w1, bd9_e, w2, bd5_e, if_pos rfl, q_jl]
    exact hrec ⟨w4, w3, hK, t, rfl, rfl, hTx⟩
  rw [if_neg o7]
  by_cases o8 : op = (8 : Int32)
  · rw [if_pos o8]
    obtain ⟨r, w1, w2⟩ := lot_sim p1 p2 p3 hx
    rw [w1, bd1_e, w2, bd1_e, if_pos rfl, q_jl]
    exact hrec ⟨hx, hH, hK, t, rfl, rfl, hTx⟩
  rw [if_neg o8]
  by_cases o9 : op = (9 : Int32)
  · rw [if_pos o9]
    obtain ⟨r, w1, w2⟩ := store_sim p1 p2 hx
    rw [w1, bd1_e, w2, bd1_e, if_pos rfl, q_jl]
    exact hrec ⟨hx, hH, hK, t, rfl, rfl, hTx⟩
  rw [if_neg o9]
  by_cases o10 : op = (10 : Int32)
  · rw [if_pos o10]
    obtain ⟨r, w1, w2⟩ := party_sim p1 p2 hx
    rw [w1, bd1_e, w2, bd1_e, if_pos rfl, q_jl]
    exact hrec ⟨hx, hH, hK, t, rfl, rfl, hTx⟩
  rw [if_neg o10]
  by_cases o11 : op = (11 : Int32)
  · rw [if_pos o11]
    obtain ⟨r, w1, w2⟩ := count_sim (tl := nI t) (ln := nI t) p1 hx hH.eq rfl (hK.elim Or.inl (fun q => Or.inr ⟨q.1, q.2.1⟩))
    rw [w1, bd1_e, w2, bd1_e, if_pos rfl, q_jl]
    exact hrec ⟨hx, hH, hK, t, rfl, rfl, hTx⟩
  rw [if_neg o11]
  by_cases o12 : op = (12 : Int32)
  · rw [if_pos o12]
    obtain ⟨r, xt', ss', z', w1, w2, w3⟩ := gone_sim xt bg p1 hx
    rw [w1, bd2_e, w2, bd3_e, if_pos rfl, q_jl]
    exact hrec ⟨hx.congr w3, hH, hK, t, rfl, rfl, hTx⟩
  rw [if_neg o12]
  by_cases o13 : op = (13 : Int32)
  · rw [if_pos o13]
    obtain ⟨r, xt', ss', z', w1, w2, w3⟩ := outOn_sim xt bg p1 hx
    rw [w1, bd2_e, w2, bd3_e, if_pos rfl, q_jl]
    exact hrec ⟨hx.congr w3, hH, hK, t, rfl, rfl, hTx⟩
  rw [if_neg o13]
  by_cases o14 : op = (14 : Int32)
  · rw [if_pos o14]
    obtain ⟨r, xt', ss', z', w1, w2, w3⟩ := most_sim xt asd p1 p2 hx
    rw [w1, bd2_e, w2, bd3_e, if_pos rfl, q_jl]
    exact hrec ⟨hx.congr w3, hH, hK, t, rfl, rfl, hTx⟩
  rw [if_neg o14]
  by_cases o15 : op = (15 : Int32)
  · rw [if_pos o15]
    obtain ⟨r, xp', kp', w1, w2, w3⟩ := step_keep (xp := xp) (kp := kp) hx
    rw [w1, bd3_e, w2, bd3_e, if_pos rfl, q_jl]
    exact hrec ⟨hx, hH, Or.inr ⟨rfl, rfl, w3⟩, t, rfl, rfl, hTx⟩
  rw [if_neg o15]
  by_cases o16 : op = (16 : Int32)
  · rw [if_pos o16]
    obtain ⟨r, lnn', pm', x', g0', g1', g2', g3', g4', ss', bg', pt', st', w1, w2, w3, w4⟩ := step_restore bg hH hx hK
    rw [w1, bd9_e, w2, bd5_e, if_pos rfl, q_jl]
    exact hrec ⟨w4, w3, hK, t, rfl, rfl, hTx⟩
  rw [if_neg o16]
  by_cases o17 : op = (17 : Int32)
  · rw [if_pos o17]
    obtain ⟨r, lnn', x', ss', st', w1, w2, w3, w4⟩ := undo_sim hH hx
    rw [w1, bd3_e, w2, bd3_e, if_pos rfl, q_jl]
    exact hrec ⟨w4, w3, hK, t, rfl, rfl, hTx⟩
  rw [if_neg o17]
  by_cases o18 : op = (18 : Int32)
  · rw [if_pos o18]
    obtain ⟨r, ch', t', tx', w1, w2, w3⟩ := step_type p1 hTx
    rw [w1, bd3_e, w2, bd3_e, if_pos rfl, q_jl]
    exact hrec ⟨hx, hH, hK, t', rfl, rfl, w3⟩
  rw [if_neg o18]
  by_cases o19 : op = (19 : Int32)
  · rw [if_pos o19]
    have w1 : fX6_clearText (nI t) = some (nI t, nI 0) := by unfold fX6_clearText; rw [q_l0]
    have w2 : fX7_clearText (nI t) = some (nI t, nI 0) := by unfold fX7_clearText; rw [q_l0]
    rw [w1, bd2_e, w2, bd2_e, if_pos rfl, q_jl]
    exact hrec ⟨hx, hH, hK, 0, rfl, rfl, ⟨by omega, fun i hi => absurd hi (by omega)⟩⟩
  rw [if_neg o19]
  by_cases o20 : op = (20 : Int32)
  · rw [if_pos o20]
    obtain ⟨r, nu', le', nx', cmd', pos', rea', cau', xt', xr', ss', bg', asd', att', dn', td', fo', nb', w1, w2, w3⟩ := fault_sim xr xw nu le nx cmd pos rea cau bg asd att dn td fo nb p1 hTx hx
    rw [w1, bd10_e, w2, bd9_e, if_pos rfl, q_jl]
    exact hrec ⟨hx.congr w3, hH, hK, t, rfl, rfl, hTx⟩
  rw [if_neg o20]
  by_cases o21 : op = (21 : Int32)
  · rw [if_pos o21]
    obtain ⟨r, lnn', pm', nu', le', nx', cmd', pos', rea', cau', x', xt', xr', g0', g1', g2', g3', g4', ss', bg', pt', st', asd', att', dn', td', fo', nb', w1, w2, w3, w4⟩ := play_sim xr xw nu le nx bg asd td fo nb hTx hH hx
    rw [w1, bd18_e, w2, bd11_e, if_pos rfl, q_jl]
    exact hrec ⟨w4, w3, hK, t, rfl, rfl, hTx⟩
  rw [if_neg o21, q_jl]
  exact hrec ⟨hx, hH, hK, t, rfl, rfl, hTx⟩
set_option maxHeartbeats 8000000 in
set_option maxRecDepth 100000 in
theorem law_loop {xs : Nat → Int32} {L : Nat} (hL : L ≤ 2048) : ∀ (K k n : Nat) (ke : Int32) (lnn : Int32) (pm : Nat → Nat) (ch : Nat → Int32) (tl : Int32) (nu : Nat → Int32) (le : Int32) (nx : Int32) (cmd : Int32) (pos : Int32) (rea : Int32) (cau : Int32) (xn : HutS) (xt : HutS) (xp : HutS) (xr : HutS) (xw : HutS) (h0 : HutS) (h1 : HutS) (h2 : HutS) (h3 : HutS) (h4 : HutS) (ss : Nat → Int32) (bg : Nat → Int32) (kp : Nat → Int32) (ik : Int32) (pt : Nat → Int32) (st : Int32) (tx : Nat → Int32) (ln : Int32) (asd : Nat → Int32) (att : Int32) (dn : Int32) (td : Int32) (fo : Int32) (nb : Nat → Int32), k + K = 513 → K < n → TopR ke lnn pm ch tl xn xp h0 h1 h2 h3 h4 ss kp ik pt st tx ln → gl37 (sL_law_rec1 xs L) n (nI (4 * k)) ke lnn pm ch tl nu le nx cmd pos rea cau xn xt xp xr xw h0 h1 h2 h3 h4 ss bg kp ik pt st tx ln asd att dn td fo nb = some 1 := by
  intro K
  have stop : ∀ (k n : Nat) (ke : Int32) (lnn : Int32) (pm : Nat → Nat) (ch : Nat → Int32) (tl : Int32) (nu : Nat → Int32) (le : Int32) (nx : Int32) (cmd : Int32) (pos : Int32) (rea : Int32) (cau : Int32) (xn : HutS) (xt : HutS) (xp : HutS) (xr : HutS) (xw : HutS) (h0 : HutS) (h1 : HutS) (h2 : HutS) (h3 : HutS) (h4 : HutS) (ss : Nat → Int32) (bg : Nat → Int32) (kp : Nat → Int32) (ik : Int32) (pt : Nat → Int32) (st : Int32) (tx : Nat → Int32) (ln : Int32) (asd : Nat → Int32) (att : Int32) (dn : Int32) (td : Int32) (fo : Int32) (nb : Nat → Int32), k ≤ 513 → ¬ 4 * k + 4 ≤ L → gl37 (sL_law_rec1 xs L) (n + 1) (nI (4 * k)) ke lnn pm ch tl nu le nx cmd pos rea cau xn xt xp xr xw h0 h1 h2 h3 h4 ss bg kp ik pt st tx ln asd att dn td fo nb = some 1 := by
    intro k n ke lnn pm ch tl nu le nx cmd pos rea cau xn xt xp xr xw h0 h1 h2 h3 h4 ss bg kp ik pt st tx ln asd att dn td fo nb hk hkL
    have f0 : (Int32.ofNat L - (4 : Int32)) < nI (4 * k) := by
      rw [show Int32.ofNat L = nI L from rfl, q_l4]
      by_cases c : 4 ≤ L
      · rw [q_subn c (by omega), q_lt (by omega) (by omega)]
        omega
      · have hneg : nI L - nI 4 < 0 := pk_sneg (by omega) (by omega)
        refine Int32.lt_of_lt_of_le hneg ?_
        rw [q_l0, q_le (by omega) (by omega)]
        omega
    show sL_law_rec1 xs L _ (nI (4 * k)) ke lnn pm ch tl nu le nx cmd pos rea cau xn xt xp xr xw h0 h1 h2 h3 h4 ss bg kp ik pt st tx ln asd att dn td fo nb = some 1
    unfold sL_law_rec1
    rw [if_pos f0]
  induction K with
  | zero =>
    intro k n ke lnn pm ch tl nu le nx cmd pos rea cau xn xt xp xr xw h0 h1 h2 h3 h4 ss bg kp ik pt st tx ln asd att dn td fo nb hk hn _
    obtain ⟨n, rfl⟩ : ∃ z, n = z + 1 := ⟨n - 1, by omega⟩
    exact stop k n ke lnn pm ch tl nu le nx cmd pos rea cau xn xt xp xr xw h0 h1 h2 h3 h4 ss bg kp ik pt st tx ln asd att dn td fo nb (by omega) (by omega)
  | succ K ih =>
    intro k n ke lnn pm ch tl nu le nx cmd pos rea cau xn xt xp xr xw h0 h1 h2 h3 h4 ss bg kp ik pt st tx ln asd att dn td fo nb hk hn hT
    obtain ⟨n, rfl⟩ : ∃ z, n = z + 1 := ⟨n - 1, by omega⟩
    by_cases c : 4 * k + 4 ≤ L
    · show sL_law_rec1 xs L (gl37 (sL_law_rec1 xs L) n) (nI (4 * k)) ke lnn pm ch tl nu le nx cmd pos rea cau xn xt xp xr xw h0 h1 h2 h3 h4 ss bg kp ik pt st tx ln asd att dn td fo nb = some 1
      exact law_step hL c hT (fun hT' => ih (k + 1) n _ _ _ _ _ _ _ _ _ _ _ _ _ _ _ _ _ _ _ _ _ _ _ _ _ _ _ _ _ _ _ _ _ _ _ _ (by omega) (by omega) hT')
    · exact stop k n ke lnn pm ch tl nu le nx cmd pos rea cau xn xt xp xr xw h0 h1 h2 h3 h4 ss bg kp ik pt st tx ln asd att dn td fo nb (by omega) c
/-! ===== the beginning ===== -/
theorem ss0_at {j : Nat} (h : j < 10 ∨ 13 < j) : ss0 j = nI 0 := by
  have c10 : (10 : Int32).toNatClampNeg = 10 := by decide
  have c11 : (11 : Int32).toNatClampNeg = 11 := by decide
  have c12 : (12 : Int32).toNatClampNeg = 12 := by decide
  have c13 : (13 : Int32).toNatClampNeg = 13 := by decide
  unfold ss0
  rw [c10, c11, c12, c13, pk_un (by omega), pk_un (by omega), pk_un (by omega), pk_un (by omega), q_l0]
theorem top_start : HR hut0 ss0 := by
  have hs : SetR sg0 ss0 := by
    refine ⟨fun k hk => ?_, 12, 2, 3, 1, by decide +kernel, by omega, by omega, by decide +kernel, by omega, by omega, by decide +kernel, by omega, by decide +kernel, by omega⟩
    rcases (show k = 0 ∨ k = 1 ∨ k = 2 ∨ k = 3 by omega) with rfl | rfl | rfl | rfl <;> decide +kernel
  have hp : ParR 0 0 (fun _ => 0) (fun _ => 0) (fun _ => 0) (fun _ => 0) (fun _ => 0) (fun _ => 0) ss0 := ⟨by omega, ss0_at (by omega), fun j hj => absurd hj (by omega), fun j hj => absurd hj (by omega), fun j hj => absurd hj (by omega)⟩
  have hn : NightR [] 0 0 (fun _ => 0) (fun _ => 0) (fun _ => 0) (fun _ => 0) (fun _ => 0) (fun _ => 0) (fun _ => 0) (fun _ => 0) (fun _ => 0) (fun _ => 0) (fun _ => 0) (fun _ => 0) sg0 0 0 0 0 ss0 :=
    ⟨⟨Nat.zero_le _, fun t ht => absurd ht List.not_mem_nil, fun t ht => absurd ht List.not_mem_nil, trivial, ss0_at (by omega), trivial⟩, hp, fun k hk => ⟨(ss0_at (by omega)).trans q_l0.symm, (ss0_at (by omega)).trans q_l0.symm⟩, hs, fun k hk => ⟨(ss0_at (by omega)).trans q_l0.symm, Or.inl q_l0, fun _ => q_l0⟩, ss0_at (by omega), (ss0_at (by omega)).trans q_l0.symm, (ss0_at (by omega)).trans q_l0.symm, (ss0_at (by omega)).trans q_l0.symm, (ss0_at (by omega)).trans q_l0.symm⟩
  have hh : HutR [] [] 0 0 0 (fun _ => 0) (fun _ => 0) (fun _ => 0) (fun _ => 0) (fun _ => 0) (fun _ => 0) (fun _ => 0) (fun _ => 0) (fun _ => 0) (fun _ => 0) (fun _ => 0) (fun _ => 0) sg0 0 0 0 0 (fun _ => 0) (fun _ => 0) (fun _ => 0) (fun _ => 0) ss0 :=
    ⟨hn, ⟨Nat.zero_le _, fun t ht => absurd ht List.not_mem_nil, trivial, ss0_at (by omega), trivial⟩, fun k hk => (ss0_at (by omega)).trans q_l0.symm, ss0_at (by omega), by omega⟩
  have h := HR.mk (Nat.zero_le 16) (Nat.zero_le 365) hh
  have e : hut0 = ((fun _ => 0), (fun _ => 0), (fun _ => 0), nI (List.length ([] : List LT)), (fun _ => 0), (fun _ => 0), (fun _ => 0), nI (List.length ([] : List LT)), (fun _ => 0), (fun _ => 0), (fun _ => 0), (fun _ => 0), (fun _ => 0), (fun _ => 0), (fun _ => 0), (fun _ => 0), (fun _ => 0), nI 0, (fun _ => 0), sg0, nI 0, nI 0, 0, 0, 0, 0) := by
    unfold hut0
    rw [show nI (List.length ([] : List LT)) = (0 : Int32) by decide, ← q_l0]
  rw [e]
  exact h
