/-! ===== texts: the commands one by one ===== -/
def cmdL (c W : Nat) : Prop := (c = 98 ∧ W = 3) ∨ (c = 102 ∧ W = 0) ∨ (c = 108 ∧ W = 3) ∨ (c = 110 ∧ W = 1) ∨ (c = 115 ∧ W = 2) ∨ (c = 120 ∧ W = 1)
theorem read_sim {t p : Nat} {ch tx ss asd nu nb : Nat → Int32} {dn td fo : Int32} {rec1 : (Nat → Int32) → (Nat → Int32) → Int32 → Int32 → Int32 → Int32 → (Nat → Int32) → Option (Int32 × (Nat → Int32) × (Nat → Int32) × Int32 × Int32 × Int32 × Int32 × (Nat → Int32))} (h : TxtR t ch tx) (hp : p < t) :
    (∃ nu' le' nx' a' nb', fX5_readCommand ch (nI t) nu (nI p) = some (nI 0, nu', le', nx') ∧ sX7_does_rec1 tx (nI t) rec1 ss asd (nI p) dn td fo nb = some (nI p, ss, asd, a', dn, nI 0, nI 0, nb')) ∨
    (∃ c W nu' e nb', cmdL c W ∧ fX5_readCommand ch (nI t) nu (nI p) = some (nI 1, nu', nI c, nI e) ∧ p + 1 < e ∧ e ≤ t ∧ (∀ j, j < W → nu' j = nb' j) ∧ sX7_does_rec1 tx (nI t) rec1 ss asd (nI p) dn td fo nb = (bd3 (fX7_called ss asd nb' (nI c)) fun r35 ss36 asd37 => if nI 0 ≤ r35 then rec1 ss36 asd37 (nI e) (dn + nI 1) r35 (nI 1) nb' else some (nI p, ss36, asd37, nI e, dn, r35, nI 1, nb'))) := by
  have d10 : ¬ nI 1 = nI 0 := by decide
  have dm1 : (-nI 1 < nI 0) = True := by decide
  have dm2 : (-nI 1 ≤ nI 0) = True := by decide
  have dm3 : (nI 0 ≤ -nI 1) = False := by decide
  have ht : t ≤ 60 := h.1
  have n1 : ¬ t ≤ p := by omega
  rcases look h (i := p) (by omega) with ⟨c, c1, c2, c3, c4, c5⟩ | ⟨q, _, _⟩
  · rcases letters c c2 with ⟨W, W3, e1, e2, hc⟩ | ⟨e1, e2⟩
    · have w0 : ¬ W < 0 := by omega
      have w1 : 0 ≤ W := by omega
      have hC : fX5_readCommand ch (nI t) nu (nI p) = gl3 (sX5_readCommand_rec8 ch (nI t) (nI c) (nI W)) gFU (nI 0) nu (nI (p + 1)) := by
        unfold fX5_readCommand
        simp (disch := omega) only [c4, bd1_e, q_nc, q_gt, q_l1, nI_add, q_jl, e1, q_l0, q_le, w1, if_true]
      have hM : sX7_does_rec1 tx (nI t) rec1 ss asd (nI p) dn td fo nb = gl4 (sX7_does_rec22 tx (nI t) rec1 ss asd (nI p) dn (nI c)) gFU (nI 0) (nI (p + 1)) (nI 1) nb := by
        unfold sX7_does_rec1
        simp (disch := omega) only [q_le, n1, if_false, c5, bd1_e, e2, q_mrg, q_l0, q_l1, q_lt, w0, g_nz1, d10, nI_add, q_jl]
      rcases args_sim (ss := ss) (asd := asd) (att4 := nI p) (dn5 := dn) (rec1 := rec1) h e2 W3 W 0 gFU gFU (p + 1) nu nb (Nat.zero_add _) (by unfold gFU; omega) (by unfold gFU; omega) (by omega) (fun j hj => absurd hj (by omega)) with ⟨nu', e', a', nb', f1, f2⟩ | ⟨nu', e', nb', f1, f2, f3, f4, f5⟩
      · exact Or.inl ⟨nu', nI c, e', a', nb', hC.trans f1, hM.trans f2⟩
      · exact Or.inr ⟨c, W, nu', e', nb', hc, hC.trans f1, by omega, f3, f4, hM.trans f5⟩
    · refine Or.inl ⟨nu, nI c, nI (p + 1), nI p, nb, ?_, ?_⟩
      · unfold fX5_readCommand
        rw [q_l1] at e1
        simp (disch := omega) only [c4, bd1_e, q_nc, q_gt, q_l1, nI_add, q_jl, e1, q_l0, dm3, if_false]
      · rw [q_l1] at e2
        have hf : gFU = 4095 + 1 := rfl
        have hD : gl4 (sX7_does_rec22 tx (nI t) rec1 ss asd (nI p) dn (nI c)) gFU (nI 0) (nI p) (nI 0) nb = some (nI p, ss, asd, nI p, dn, nI 0, nI 0, nb) := by
          rw [hf]
          show sX7_does_rec22 tx (nI t) rec1 ss asd (nI p) dn (nI c) _ (nI 0) (nI p) (nI 0) nb = _
          simp (disch := omega) only [sX7_does_rec22, e2, bd1_e, dm2, if_true, sign0, bd2_e, q_mrg, q_l0]
        unfold sX7_does_rec1
        simp (disch := omega) only [q_le, n1, if_false, c5, bd1_e, e2, q_mrg, q_l0, dm1, if_true, g_nz0, nI_add, q_jl, Nat.add_zero, hD]
  · omega
theorem run_loop {t : Nat} {ch tx : Nat → Int32} (h : TxtR t ch tx) : ∀ (K p i n m : Nat) (xr xt : HutS) (nu : Nat → Int32) (le nx : Int32) (ss asd : Nat → Int32) (td fo : Int32) (nb : Nat → Int32), p + K = t → 2 * i ≤ p → K < n → K < m → HR xr ss → HI xr →
    ∃ cmd pos rea cau xr' xt' nu' le' nx' r ss' asd' att' dn' td' fo' nb', gl8 (sX3_run_rec4 ch (nI t)) n (nI i) (nI i) (nI p) xr xt nu le nx = some (cmd, pos, rea, cau, xr', xt', nu', le', nx') ∧ gl7 (sX7_does_rec1 tx (nI t)) m ss asd (nI p) (nI i) td fo nb = some (r, ss', asd', att', dn', td', fo', nb') ∧
      ((rea = nI 0 ∧ r = -1 ∧ ∃ q, 2 * q ≤ t ∧ cmd = nI q ∧ dn' = nI q ∧ HR xr' ss' ∧ HI xr') ∨ (∃ q, q < t ∧ pos = nI q ∧ r = nI q ∧ ((rea = nI 1 ∧ fo' = nI 0) ∨ (rea = nI 2 ∧ fo' = nI 1 ∧ cau = td' ∧ ErrC cau)))) := by
  have d10 : ¬ nI 1 = nI 0 := by decide
  have ht : t ≤ 60 := h.1
  intro K
  induction K using Nat.strongRecOn with
  | ind K ih =>
    intro p i n m xr xt nu le nx ss asd td fo nb hp hi hn hm hx hI
    obtain ⟨n, rfl⟩ : ∃ z, n = z + 1 := ⟨n - 1, by omega⟩
    obtain ⟨m, rfl⟩ : ∃ z, m = z + 1 := ⟨m - 1, by omega⟩
    by_cases c : t ≤ p
    · refine ⟨nI i, nI p, nI 0, nI 0, xr, xt, nu, le, nx, -1, ss, asd, nI p, nI i, td, fo, nb, ?_, ?_, Or.inl ⟨rfl, rfl, i, by omega, rfl, rfl, hx, hI⟩⟩
      · show sX3_run_rec4 ch (nI t) _ (nI i) (nI i) (nI p) xr xt nu le nx = _
        unfold sX3_run_rec4
        rw [if_pos (show nI t ≤ nI p by rw [q_le (by omega) (by omega)]; exact c), ite_self, q_l0]
      · show sX7_does_rec1 tx (nI t) _ ss asd (nI p) (nI i) td fo nb = _
        unfold sX7_does_rec1
        rw [if_pos (show nI t ≤ nI p by rw [q_le (by omega) (by omega)]; exact c)]
    · have hC : sX3_run_rec4 ch (nI t) (gl8 (sX3_run_rec4 ch (nI t)) n) (nI i) (nI i) (nI p) xr xt nu le nx = (bd4 (fX5_readCommand ch (nI t) nu (nI p)) fun r15 nu16 le17 nx18 => if r15 = 0 then some (nI i, nI p, (1 : Int32), (0 : Int32), xr, xt, nu16, le17, nx18) else bd3 (fX3_obey xr xt nu16 le17) fun r21 xr_23 xt_25 => if 0 ≤ r21 then jl (nI i + (1 : Int32)) fun v28 => jl (nI i + (1 : Int32)) fun v29 => gl8 (sX3_run_rec4 ch (nI t)) n v29 v28 nx18 xr_23 xt_25 nu16 le17 nx18 else some (nI i, nI p, (2 : Int32), r21, xr_23, xt_25, nu16, le17, nx18)) := by
        have q60 : (60 : Int32) = nI 60 := by decide
        unfold sX3_run_rec4
        rw [q60, if_neg (show ¬ nI 60 ≤ nI i by rw [q_le (by omega) (by omega)]; omega), if_neg (show ¬ nI t ≤ nI p by rw [q_le (by omega) (by omega)]; exact c)]
      rcases read_sim (ss := ss) (asd := asd) (nu := nu) (nb := nb) (dn := nI i) (td := td) (fo := fo) (rec1 := gl7 (sX7_does_rec1 tx (nI t)) m) h (show p < t by omega) with ⟨nu', le', nx', a', nb', f1, f2⟩ | ⟨c, W, nu', e, nb', hc, f1, f2, f3, f4, f5⟩
      · refine ⟨nI i, nI p, nI 1, nI 0, xr, xt, nu', le', nx', nI p, ss, asd, a', nI i, nI 0, nI 0, nb', ?_, f2, Or.inr ⟨p, by omega, rfl, rfl, Or.inl ⟨rfl, rfl⟩⟩⟩
        refine hC.trans ?_
        rw [f1, bd4_e, if_pos (by decide), q_l0, q_l1]
      · obtain ⟨ans, x', y', s', asd', e1, e2, e3⟩ := obey_sim (nu := nu') (nb := nb') xt asd hx hc f4
        obtain ⟨_, hI', hE⟩ := obey_I hx hI hc e1
        rw [e2, bd3_e] at f5
        rw [f1, bd4_e, if_neg (show ¬ nI 1 = 0 by decide), e1, bd3_e] at hC
        rcases e3 with ⟨A, hA, rfl, hx'⟩ | ⟨hneg, hx'⟩
        · rw [if_pos (show nI 0 ≤ nI A by rw [q_le (by omega) (by omega)]; omega), nI_add] at f5
          rw [if_pos (show 0 ≤ nI A by rw [q_l0, q_le (by omega) (by omega)]; omega), q_jl, q_jl, q_l1, nI_add] at hC
          obtain ⟨cmd, pos, rea, cau, xr', xt', nu2, le2, nx2, r, ss2, asd2, att2, dn2, td2, fo2, nb2, w1, w2, w3⟩ := ih (t - e) (by omega) e (i + 1) n m x' y' nu' (nI c) (nI e) s' asd' (nI A) (nI 1) nb' (by omega) (by omega) (by omega) (by omega) hx' hI'
          exact ⟨cmd, pos, rea, cau, xr', xt', nu2, le2, nx2, r, ss2, asd2, att2, dn2, td2, fo2, nb2, hC.trans w1, f5.trans w2, w3⟩
        · rw [if_neg (show ¬ nI 0 ≤ ans by rw [← q_l0]; exact Int32.not_le.mpr hneg)] at f5
          rw [if_neg (Int32.not_le.mpr hneg), q_l2] at hC
          refine ⟨nI i, nI p, nI 2, ans, x', y', nu', nI c, nI e, nI p, s', asd', nI e, nI i, ans, nI 1, nb', hC, f5, Or.inr ⟨p, by omega, rfl, rfl, Or.inr ⟨rfl, rfl, rfl, ?_⟩⟩⟩
          rcases hE with ⟨A, hA, q⟩ | ⟨_, q⟩
          · rw [q, q_l0, q_lt (by omega) (by omega)] at hneg
            omega
          · exact q
theorem text_sim {t : Nat} {ch tx : Nat → Int32} {xn : HutS} {ss : Nat → Int32} (xr xt : HutS) (nu : Nat → Int32) (le nx : Int32) (asd : Nat → Int32) (td fo : Int32) (nb : Nat → Int32) (h : TxtR t ch tx) (hx : HR xn ss) (hI : HI xn) :
    ∃ cmd pos rea cau xr' xt' nu' le' nx' r ss' asd' att' dn' td' fo' nb', fX3_run xr xt ch (nI t) nu le nx xn = some (cmd, pos, rea, cau, xr', xt', nu', le', nx') ∧ fX7_does ss tx (nI t) asd td fo nb = some (r, ss', asd', att', dn', td', fo', nb') ∧
      ((rea = nI 0 ∧ r = -1 ∧ ∃ q, 2 * q ≤ t ∧ cmd = nI q ∧ dn' = nI q ∧ HR xr' ss' ∧ HI xr') ∨ (∃ q, q < t ∧ pos = nI q ∧ r = nI q ∧ ((rea = nI 1 ∧ fo' = nI 0) ∨ (rea = nI 2 ∧ fo' = nI 1 ∧ cau = td' ∧ ErrC cau)))) := by
  have ht : t ≤ 60 := h.1
  obtain ⟨cmd, pos, rea, cau, xr', xt', nu', le', nx', r, ss', asd', att', dn', td', fo', nb', w1, w2, w3⟩ := run_loop h t 0 0 gFU gFU xn xt nu le nx ss asd td fo nb (Nat.zero_add _) (Nat.le_refl _) (by unfold gFU; omega) (by unfold gFU; omega) hx hI
  refine ⟨cmd, pos, rea, cau, xr', xt', nu', le', nx', r, ss', asd', att', dn', td', fo', nb', ?_, ?_, w3⟩
  · unfold fX3_run
    rw [hx.copy xr, bd1_e, q_l0]
    exact w1
  · unfold fX7_does
    rw [q_l0]
    exact w2
