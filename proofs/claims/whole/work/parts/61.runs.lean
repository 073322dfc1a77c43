/-! ===== texts: the commands one by one ===== -/
def cmdL (c W : Nat) : Prop := (c = 98 ∧ W = 3) ∨ (c = 102 ∧ W = 0) ∨ (c = 108 ∧ W = 3) ∨ (c = 110 ∧ W = 1) ∨ (c = 115 ∧ W = 2) ∨ (c = 120 ∧ W = 1)
theorem read_sim {t p : Nat} {ch tx ss asd nu nb : Nat → Int32} {dn td fo : Int32} {rec1 : (Nat → Int32) → (Nat → Int32) → Int32 → Int32 → Int32 → Int32 → (Nat → Int32) → Option (Int32 × (Nat → Int32) × (Nat → Int32) × Int32 × Int32 × Int32 × Int32 × (Nat → Int32))} (h : TxtR t ch tx) (hp : p < t) :
    (∃ nu' le' nx' a' nb', fX5_readCommand ch (nI t) nu (nI p) = some (nI 0, nu', le', nx') ∧ sX7_does_rec1 tx (nI t) rec1 ss asd (nI p) dn td fo nb = some (nI p, ss, asd, a', dn, nI 0, nI 0, nb')) ∨
    (∃ c W nu' e nb', cmdL c W ∧ fX5_readCommand ch (nI t) nu (nI p) = some (nI 1, nu', nI c, nI e) ∧ p < e ∧ e ≤ t ∧ (∀ j, j < W → nu' j = nb' j) ∧ sX7_does_rec1 tx (nI t) rec1 ss asd (nI p) dn td fo nb = (bd3 (fX7_called ss asd nb' (nI c)) fun r35 ss36 asd37 => if nI 0 ≤ r35 then rec1 ss36 asd37 (nI e) (dn + nI 1) r35 (nI 1) nb' else some (nI p, ss36, asd37, nI e, dn, r35, nI 1, nb'))) := by
  have d10 : ¬ nI 1 = nI 0 := by decide
  have dm1 : (-nI 1 < nI 0) = True := by decide
  have dm2 : (-nI 1 ≤ nI 0) = True := by decide
  have dm3 : (nI 0 ≤ -nI 1) = False := by decide
  have ht : t ≤ 60 := h.1
  have n1 : ¬ t ≤ p := by omega
  rcases look h (i := p) (by omega) with ⟨c, c1, c2, c3, c4, c5⟩ | ⟨q, _, _⟩
  · rcases letters c c2 with ⟨W, W3, e1, e2, hc⟩ | ⟨e1, e2⟩
    · have w0 : ¬ W < 0 := by omega
      have w1 : 0 ≤ W := by omega
      have hC : fX5_readCommand ch (nI t) nu (nI p) = gl3 (sX5_readCommand_rec8 ch (nI t) (nI c) (nI W)) gFU (nI 0) nu (nI (p + 1)) := by
        unfold fX5_readCommand
        simp (disch := omega) only [c4, bd1_e, q_nc, q_gt, q_l1, nI_add, q_jl, e1, q_l0, q_le, w1, if_true]
      have hM : sX7_does_rec1 tx (nI t) rec1 ss asd (nI p) dn td fo nb = gl4 (sX7_does_rec22 tx (nI t) rec1 ss asd (nI p) dn (nI c)) gFU (nI 0) (nI (p + 1)) (nI 1) nb := by
        unfold sX7_does_rec1
        simp (disch := omega) only [q_le, n1, if_false, c5, bd1_e, e2, q_mrg, q_l0, q_l1, q_lt, w0, g_nz1, d10, nI_add, q_jl]
      rcases args_sim (ss := ss) (asd := asd) (att4 := nI p) (dn5 := dn) (rec1 := rec1) h e2 W3 W 0 gFU gFU (p + 1) nu nb (Nat.zero_add _) (by unfold gFU; omega) (by unfold gFU; omega) (by omega) (fun j hj => absurd hj (by omega)) with ⟨nu', e', a', nb', f1, f2⟩ | ⟨nu', e', nb', f1, f2, f3, f4, f5⟩
      · exact Or.inl ⟨nu', nI c, e', a', nb', hC.trans f1, hM.trans f2⟩
      · exact Or.inr ⟨c, W, nu', e', nb', hc, hC.trans f1, by omega, f3, f4, hM.trans f5⟩
    · refine Or.inl ⟨nu, nI c, nI (p + 1), nI p, nb, ?_, ?_⟩
      · unfold fX5_readCommand
        rw [q_l1] at e1
        simp (disch := omega) only [c4, bd1_e, q_nc, q_gt, q_l1, nI_add, q_jl, e1, q_l0, dm3, if_false]
      · rw [q_l1] at e2
        have hf : gFU = 4095 + 1 := rfl
        have hD : gl4 (sX7_does_rec22 tx (nI t) rec1 ss asd (nI p) dn (nI c)) gFU (nI 0) (nI p) (nI 0) nb = some (nI p, ss, asd, nI p, dn, nI 0, nI 0, nb) := by
          rw [hf]
          show sX7_does_rec22 tx (nI t) rec1 ss asd (nI p) dn (nI c) _ (nI 0) (nI p) (nI 0) nb = _
          simp (disch := omega) only [sX7_does_rec22, e2, bd1_e, dm2, if_true, sign0, bd2_e, q_mrg, q_l0]
        unfold sX7_does_rec1
        simp (disch := omega) only [q_le, n1, if_false, c5, bd1_e, e2, q_mrg, q_l0, dm1, if_true, g_nz0, nI_add, q_jl, Nat.add_zero, hD]
  · omega
theorem run_loop {t : Nat} {ch tx : Nat → Int32} (h : TxtR t ch tx) : ∀ (K p i n m : Nat) (xr xt : HutS) (nu : Nat → Int32) (le nx : Int32) (ss asd : Nat → Int32) (td fo : Int32) (nb : Nat → Int32), p + K = t → i ≤ p → K < n → K < m → HR xr ss →
    ∃ cmd pos rea cau xr' xt' nu' le' nx' r ss' asd' att' dn' td' fo' nb', gl8 (sX3_run_rec4 ch (nI t)) n (nI i) (nI i) (nI p) xr xt nu le nx = some (cmd, pos, rea, cau, xr', xt', nu', le', nx') ∧ gl7 (sX7_does_rec1 tx (nI t)) m ss asd (nI p) (nI i) td fo nb = some (r, ss', asd', att', dn', td', fo', nb') ∧
      ((rea = nI 0 ∧ r = -1 ∧ ∃ q, q ≤ 60 ∧ cmd = nI q ∧ dn' = nI q ∧ HR xr' ss') ∨ (∃ q, q ≤ 60 ∧ pos = nI q ∧ r = nI q ∧ ((rea = nI 1 ∧ fo' = nI 0) ∨ (rea = nI 2 ∧ fo' = nI 1 ∧ cau = td')))) := by
  have d10 : ¬ nI 1 = nI 0 := by decide
  have ht : t ≤ 60 := h.1
  intro K
  induction K using Nat.strongRecOn with
  | ind K ih =>
    intro p i n m xr xt nu le nx ss asd td fo nb hp hi hn hm hx
    obtain ⟨n, rfl⟩ : ∃ z, n = z + 1 := ⟨n - 1, by omega⟩
    obtain ⟨m, rfl⟩ : ∃ z, m = z + 1 := ⟨m - 1, by omega⟩
    by_cases c : t ≤ p
    · refine ⟨nI i, nI p, nI 0, nI 0, xr, xt, nu, le, nx, -1, ss, asd, nI p, nI i, td, fo, nb, ?_, ?_, Or.inl ⟨rfl, rfl, i, by omega, rfl, rfl, hx⟩⟩
      · show sX3_run_rec4 ch (nI t) _ (nI i) (nI i) (nI p) xr xt nu le nx = _
        unfold sX3_run_rec4
        rw [if_pos (show nI t ≤ nI p by rw [q_le (by omega) (by omega)]; exact c), ite_self, q_l0]
      · show sX7_does_rec1 tx (nI t) _ ss asd (nI p) (nI i) td fo nb = _
        unfold sX7_does_rec1
        rw [if_pos (show nI t ≤ nI p by rw [q_le (by omega) (by omega)]; exact c)]
    · have hC : sX3_run_rec4 ch (nI t) (gl8 (sX3_run_rec4 ch (nI t)) n) (nI i) (nI i) (nI p) xr xt nu le nx = (bd4 (fX5_readCommand ch (nI t) nu (nI p)) fun r15 nu16 le17 nx18 => if r15 = 0 then some (nI i, nI p, (1 : Int32), (0 : Int32), xr, xt, nu16, le17, nx18) else bd3 (fX3_obey xr xt nu16 le17) fun r21 xr_23 xt_25 => if 0 ≤ r21 then jl (nI i + (1 : Int32)) fun v28 => jl (nI i + (1 : Int32)) fun v29 => gl8 (sX3_run_rec4 ch (nI t)) n v29 v28 nx18 xr_23 xt_25 nu16 le17 nx18 else some (nI i, nI p, (2 : Int32), r21, xr_23, xt_25, nu16, le17, nx18)) := by
        have q60 : (60 : Int32) = nI 60 := by decide
        unfold sX3_run_rec4
        rw [q60, if_neg (show ¬ nI 60 ≤ nI i by rw [q_le (by omega) (by omega)]; omega), if_neg (show ¬ nI t ≤ nI p by rw [q_le (by omega) (by omega)]; exact c)]
      rcases read_sim (ss := ss) (asd := asd) (nu := nu) (nb := nb) (dn := nI i) (td := td) (fo := fo) (rec1 := gl7 (sX7_does_rec1 tx (nI t)) m) h (show p < t by omega) with ⟨nu', le', nx', a', nb', f1, f2⟩ | ⟨c, W, nu', e, nb', hc, f1, f2, f3, f4, f5⟩
      · refine ⟨nI i, nI p, nI 1, nI 0, xr, xt, nu', le', nx', nI p, ss, asd, a', nI i, nI 0, nI 0, nb', ?_, f2, Or.inr ⟨p, by omega, rfl, rfl, Or.inl ⟨rfl, rfl⟩⟩⟩
        refine hC.trans ?_
        rw [f1, bd4_e, if_pos (by decide), q_l0, q_l1]
      · obtain ⟨ans, x', y', s', asd', e1, e2, e3⟩ := obey_sim (nu := nu') (nb := nb') xt asd hx hc f4
        rw [e2, bd3_e] at f5
        rw [f1, bd4_e, if_neg (show ¬ nI 1 = 0 by decide), e1, bd3_e] at hC
        rcases e3 with ⟨A, hA, rfl, hx'⟩ | ⟨hneg, hx'⟩
        · rw [if_pos (show nI 0 ≤ nI A by rw [q_le (by omega) (by omega)]; omega), nI_add] at f5
          rw [if_pos (show 0 ≤ nI A by rw [q_l0, q_le (by omega) (by omega)]; omega), q_jl, q_jl, q_l1, nI_add] at hC
          obtain ⟨cmd, pos, rea, cau, xr', xt', nu2, le2, nx2, r, ss2, asd2, att2, dn2, td2, fo2, nb2, w1, w2, w3⟩ := ih (t - e) (by omega) e (i + 1) n m x' y' nu' (nI c) (nI e) s' asd' (nI A) (nI 1) nb' (by omega) (by omega) (by omega) (by omega) hx'
          exact ⟨cmd, pos, rea, cau, xr', xt', nu2, le2, nx2, r, ss2, asd2, att2, dn2, td2, fo2, nb2, hC.trans w1, f5.trans w2, w3⟩
        · rw [if_neg (show ¬ nI 0 ≤ ans by rw [← q_l0]; exact Int32.not_le.mpr hneg)] at f5
          rw [if_neg (Int32.not_le.mpr hneg), q_l2] at hC
          exact ⟨nI i, nI p, nI 2, ans, x', y', nu', nI c, nI e, nI p, s', asd', nI e, nI i, ans, nI 1, nb', hC, f5, Or.inr ⟨p, by omega, rfl, rfl, Or.inr ⟨rfl, rfl, rfl⟩⟩⟩
theorem text_sim {t : Nat} {ch tx : Nat → Int32} {xn : HutS} {ss : Nat → Int32} (xr xt : HutS) (nu : Nat → Int32) (le nx : Int32) (asd : Nat → Int32) (td fo : Int32) (nb : Nat → Int32) (h : TxtR t ch tx) (hx : HR xn ss) :
    ∃ cmd pos rea cau xr' xt' nu' le' nx' r ss' asd' att' dn' td' fo' nb', fX3_run xr xt ch (nI t) nu le nx xn = some (cmd, pos, rea, cau, xr', xt', nu', le', nx') ∧ fX7_does ss tx (nI t) asd td fo nb = some (r, ss', asd', att', dn', td', fo', nb') ∧
      ((rea = nI 0 ∧ r = -1 ∧ ∃ q, q ≤ 60 ∧ cmd = nI q ∧ dn' = nI q ∧ HR xr' ss') ∨ (∃ q, q ≤ 60 ∧ pos = nI q ∧ r = nI q ∧ ((rea = nI 1 ∧ fo' = nI 0) ∨ (rea = nI 2 ∧ fo' = nI 1 ∧ cau = td')))) := by
  have ht : t ≤ 60 := h.1
  obtain ⟨cmd, pos, rea, cau, xr', xt', nu', le', nx', r, ss', asd', att', dn', td', fo', nb', w1, w2, w3⟩ := run_loop h t 0 0 gFU gFU xn xt nu le nx ss asd td fo nb (Nat.zero_add _) (Nat.le_refl _) (by unfold gFU; omega) (by unfold gFU; omega) hx
  refine ⟨cmd, pos, rea, cau, xr', xt', nu', le', nx', r, ss', asd', att', dn', td', fo', nb', ?_, ?_, w3⟩
  · unfold fX3_run
    rw [hx.copy xr, bd1_e, q_l0]
    exact w1
  · unfold fX7_does
    rw [q_l0]
    exact w2
theorem fault_sim {t : Nat} {ch tx : Nat → Int32} {xn : HutS} {ss : Nat → Int32} (xr xt : HutS) (nu : Nat → Int32) (le nx cmd pos rea cau : Int32) (bg asd : Nat → Int32) (att dn td fo : Int32) (nb : Nat → Int32) (p1 : Int32) (h : TxtR t ch tx) (hx : HR xn ss) :
    ∃ r nu' le' nx' cmd' pos' rea' cau' xt' xr' ss' bg' asd' att' dn' td' fo' nb', fX6_fault ch (nI t) nu le nx cmd pos rea cau xn xr xt p1 = some (r, nu', le', nx', cmd', pos', rea', cau', xr', xt') ∧ fX7_fault ss bg tx (nI t) asd att dn td fo nb p1 = some (r, ss', bg', asd', att', dn', td', fo', nb') ∧ ∀ j, j < 599 → ss' j = ss j := by
  have d10 : ¬ nI 1 = nI 0 := by decide
  have d20 : ¬ nI 2 = nI 0 := by decide
  have d21 : ¬ nI 2 = nI 1 := by decide
  rcases in_c p1 (lo := 0) (hi := 2) (by omega) (by omega) with ⟨k, k0, k1, rfl, k3⟩ | ⟨k3, k4⟩
  · obtain ⟨bg', b1, b2⟩ := m_begins ss bg
    obtain ⟨cmd', pos', rea', cau', xr', xt', nu', le', nx', r, ss', asd', att', dn', td', fo', nb', w1, w2, w3⟩ := text_sim xr xt nu le nx asd td fo nb h hx
    obtain ⟨s2, r1, r2⟩ := m_returns ss' bg'
    have e2 : ∀ j, j < 599 → s2 j = ss j := fun j hj => (r2 j hj).trans (b2 j hj)
    have hC : fX6_fault ch (nI t) nu le nx cmd pos rea cau xn xr xt (nI k) = (if rea' = nI 0 then some ((-4 : Int32), nu', le', nx', cmd', pos', rea', cau', xr', xt') else if nI k = nI 0 then some (pos', nu', le', nx', cmd', pos', rea', cau', xr', xt') else if nI k = nI 1 then some (rea', nu', le', nx', cmd', pos', rea', cau', xr', xt') else if rea' = nI 1 then some ((-4 : Int32), nu', le', nx', cmd', pos', rea', cau', xr', xt') else some (cau', nu', le', nx', cmd', pos', rea', cau', xr', xt')) := by
      unfold fX6_fault
      rw [q_l0, if_neg (show ¬ nI k < nI 0 by rw [q_lt (by omega) (by omega)]; omega), q_l2, if_pos (show nI k ≤ nI 2 by rw [q_le (by omega) (by omega)]; exact k1), w1, bd9_e]
      rfl
    have hM : ∀ X, (mrg (fun (v21 : Int32) => if v21 = nI 0 then some ((-4 : Int32), s2, bg', asd', att', dn', td', fo', nb') else if nI k = nI 0 then some (r, s2, bg', asd', att', dn', td', fo', nb') else if nI k = nI 1 then (if fo' = nI 0 then some (nI 1, s2, bg', asd', att', dn', td', fo', nb') else some (nI 2, s2, bg', asd', att', dn', td', fo', nb')) else some (td', s2, bg', asd', att', dn', td', fo', nb')) fun J18 => if r < nI 0 then J18 (nI 0) else if nI k < nI 2 then J18 (nI 1) else if fo' = nI 0 then J18 (nI 0) else J18 (nI 1)) = X → fX7_fault ss bg tx (nI t) asd att dn td fo nb (nI k) = X := by
      intro X e
      rw [← e]
      unfold fX7_fault
      rw [q_l0, q_l2, k3, bd1_e, if_neg d10, b1, bd1_e, w2, bd8_e, r1, bd1_e]
      rfl
    have z02 : (nI 0 < nI 2) = True := by decide
    have z12 : (nI 1 < nI 2) = True := by decide
    have z22 : (nI 2 < nI 2) = False := by decide
    have b10 : (nI 1 = nI 0) = False := by decide
    have b01 : (nI 0 = nI 1) = False := by decide
    have b20 : (nI 2 = nI 0) = False := by decide
    have b21 : (nI 2 = nI 1) = False := by decide
    rcases w3 with ⟨rfl, rfl, _⟩ | ⟨q, q1, rfl, rfl, w3⟩
    · refine ⟨-4, nu', le', nx', cmd', pos', nI 0, cau', xt', xr', s2, bg', asd', att', dn', td', fo', nb', ?_, hM _ ?_, e2⟩
      · rw [hC, if_pos rfl]
      · have nn : ((-1 : Int32) < nI 0) = True := by decide
        simp only [q_mrg, nn, z02, z12, z22, b10, b20, b21, b01, if_true, if_false]
    · have nn : ¬ nI q < nI 0 := by rw [q_lt (by omega) (by omega)]; omega
      rcases w3 with ⟨rfl, rfl⟩ | ⟨rfl, rfl, rfl⟩
      · rcases (show k = 0 ∨ k = 1 ∨ k = 2 by omega) with rfl | rfl | rfl
        · refine ⟨nI q, nu', le', nx', cmd', nI q, nI 1, cau', xt', xr', s2, bg', asd', att', dn', td', nI 0, nb', ?_, hM _ ?_, e2⟩
          · rw [hC, if_neg d10, if_pos rfl]
          · simp only [q_mrg, nn, z02, z12, z22, b10, b20, b21, b01, if_true, if_false]
        · refine ⟨nI 1, nu', le', nx', cmd', nI q, nI 1, cau', xt', xr', s2, bg', asd', att', dn', td', nI 0, nb', ?_, hM _ ?_, e2⟩
          · rw [hC, if_neg d10, if_neg d10, if_pos rfl]
          · simp only [q_mrg, nn, z02, z12, z22, b10, b20, b21, b01, if_true, if_false]
        · refine ⟨-4, nu', le', nx', cmd', nI q, nI 1, cau', xt', xr', s2, bg', asd', att', dn', td', nI 0, nb', ?_, hM _ ?_, e2⟩
          · rw [hC, if_neg d10, if_neg d20, if_neg d21, if_pos rfl]
          · simp only [q_mrg, nn, z02, z12, z22, b10, b20, b21, b01, if_true, if_false]
      · rcases (show k = 0 ∨ k = 1 ∨ k = 2 by omega) with rfl | rfl | rfl
        · refine ⟨nI q, nu', le', nx', cmd', nI q, nI 2, cau', xt', xr', s2, bg', asd', att', dn', cau', nI 1, nb', ?_, hM _ ?_, e2⟩
          · rw [hC, if_neg d20, if_pos rfl]
          · simp only [q_mrg, nn, z02, z12, z22, b10, b20, b21, b01, if_true, if_false]
        · refine ⟨nI 2, nu', le', nx', cmd', nI q, nI 2, cau', xt', xr', s2, bg', asd', att', dn', cau', nI 1, nb', ?_, hM _ ?_, e2⟩
          · rw [hC, if_neg d20, if_neg d10, if_pos rfl]
          · simp only [q_mrg, nn, z02, z12, z22, b10, b20, b21, b01, if_true, if_false]
        · refine ⟨cau', nu', le', nx', cmd', nI q, nI 2, cau', xt', xr', s2, bg', asd', att', dn', cau', nI 1, nb', ?_, hM _ ?_, e2⟩
          · rw [hC, if_neg d20, if_neg d20, if_neg d21, if_neg d21]
          · simp only [q_mrg, nn, z02, z12, z22, b10, b20, b21, b01, if_true, if_false]
  · refine ⟨-1, nu, le, nx, cmd, pos, rea, cau, xt, xr, ss, bg, asd, att, dn, td, fo, nb, ?_, ?_, fun _ _ => rfl⟩
    · unfold fX6_fault
      rcases k4 with k4 | k4
      · rw [q_l0, if_pos k4]
      · by_cases k5 : p1 < 0
        · rw [if_pos k5]
        · rw [if_neg k5, q_l2, if_neg (Int32.not_le.mpr k4)]
    · unfold fX7_fault
      rw [q_l0, q_l2, k3, bd1_e, if_pos rfl]
theorem play_sim {t : Nat} {lnn : Int32} {pm : Nat → Nat} {h0 h1 h2 h3 h4 xn : HutS} {pt ss ch tx : Nat → Int32} {st : Int32} (xr xt : HutS) (nu : Nat → Int32) (le nx : Int32) (bg asd : Nat → Int32) (td fo : Int32) (nb : Nat → Int32) (h : TxtR t ch tx) (hH : HistR lnn pm h0 h1 h2 h3 h4 pt st) (hx : HR xn ss) :
    ∃ r lnn' pm' nu' le' nx' cmd' pos' rea' cau' xn' xt' xr' g0 g1 g2 g3 g4 ss' bg' pt' st' asd' att' dn' td' fo' nb', fX6_play lnn pm ch (nI t) nu le nx xn xr xt h0 h1 h2 h3 h4 = some (r, lnn', pm', nu', le', nx', cmd', pos', rea', cau', xn', xr', xt', g0, g1, g2, g3, g4) ∧ fX7_play ss bg pt st tx (nI t) asd td fo nb = some (r, ss', bg', pt', st', asd', att', dn', td', fo', nb') ∧ HistR lnn' pm' g0 g1 g2 g3 g4 pt' st' ∧ HR xn' ss' := by
  obtain ⟨g0, g1, g2, g3, g4, bg1, c1, c2, c3, c4, c5⟩ := change bg hH hx
  obtain ⟨cmd', pos', rea', cau', xr', xt', nu', le', nx', r, ss', asd', att', dn', td', fo', nb', w1, w2, w3⟩ := text_sim xr xt nu le nx asd td fo nb h hx
  have nm2 : (-2 : Int32) < 0 := by decide
  rcases w3 with ⟨rfl, rfl, q, q1, rfl, rfl, q4⟩ | ⟨q, q1, rfl, rfl, w3⟩
  · obtain ⟨lnn', pm', ss3, pt', st', k1, k2, k3, k4⟩ := c5 (nI q) xr' ss' (Or.inl ⟨q, by omega, rfl, q4⟩)
    refine ⟨nI q, lnn', pm', nu', le', nx', nI q, pos', nI 0, cau', xr', xt', xr', g0, g1, g2, g3, g4, ss3, bg1, pt', st', asd', att', nI q, td', fo', nb', ?_, ?_, k3, k4⟩
    · unfold fX6_play
      rw [w1, bd9_e, if_pos (show nI 0 = 0 by decide), c1, bd5_e, q4.copy xn, bd1_e, k1, bd3_e]
    · unfold fX7_play
      rw [c2, bd1_e, w2, bd8_e, if_neg (by decide), k2, bd4_e]
  · have rn : ¬ rea' = 0 := by
      rcases w3 with ⟨rfl, _⟩ | ⟨rfl, _⟩
      · decide
      · decide
    obtain ⟨s2, r1, r2⟩ := m_returns ss' bg1
    refine ⟨-2, lnn, pm, nu', le', nx', cmd', nI q, rea', cau', xn, xt', xr', h0, h1, h2, h3, h4, s2, bg1, pt, st, asd', att', dn', td', fo', nb', ?_, ?_, hH, hx.congr (fun j hj => (r2 j hj).trans (c3 j hj))⟩
    · unfold fX6_play
      rw [w1, bd9_e, if_neg rn]
    · unfold fX7_play
      have a : fX7_acted ss' bg1 pt st (-2) = some (-2, s2, pt, st) := by
        unfold fX7_acted
        rw [if_neg (by decide), r1, bd1_e]
      rw [c2, bd1_e, w2, bd8_e, if_pos (show 0 ≤ nI q by rw [q_l0, q_le (by omega) (by omega)]; omega), a, bd4_e]
