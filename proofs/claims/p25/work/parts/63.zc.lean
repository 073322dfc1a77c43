/-! ===== the law ===== -/
theorem lot_v {xs : Nat → Int32} {L : Nat} (hL : L ≤ 260) {m : Nat} (hm : m < 1000) : ∃ r, fL_lot xs L (nI m) = some r := by
  unfold fL_lot
  by_cases c : L ≤ m
  · exact ⟨_, if_pos (show Int32.ofNat L ≤ nI m by show nI L ≤ nI m; rw [q_le (by omega) (by omega)]; exact c)⟩
  · refine ⟨_, (if_neg (show ¬ Int32.ofNat L ≤ nI m by show ¬ nI L ≤ nI m; rw [q_le (by omega) (by omega)]; exact c)).trans (q_gd (by omega) (by omega))⟩
theorem law_tail {rc : Int32 → (Int32) → (Int32) → (Nat → Nat) → (Nat → Int32) → (Int32) → (Nat → Int32) → (Int32) → (Int32) → (Int32) → (Int32) → (Int32) → (Int32) → (HutS) → (HutS) → (HutS) → (HutS) → (HutS) → (HutS) → (HutS) → (HutS) → (HutS) → (HutS) → Option Int32} {k : Nat} {v : Int32} (ke : Int32) (lnn : Int32) (pm : Nat → Nat) (ch : Nat → Int32) (tl : Int32) (nu : Nat → Int32) (le : Int32) (nx : Int32) (cmd : Int32) (pos : Int32) (rea : Int32) (cau : Int32) (xn : HutS) (xt : HutS) (xp : HutS) (xr : HutS) (xw : HutS) (h0 : HutS) (h1 : HutS) (h2 : HutS) (h3 : HutS) (h4 : HutS) (hH : TopH k lnn pm h0 h1 h2 h3 h4) (hx : HG xn) (hr : ∀ k2 lnn2 xn2, TopH k2 lnn2 pm h0 h1 h2 h3 h4 → HG xn2 → rc (v + 1) ke lnn2 pm ch tl nu le nx cmd pos rea cau xn2 xt xp xr xw h0 h1 h2 h3 h4 = some 1) : (if (v - v / (5 : Int32) * (5 : Int32)) = (4 : Int32) then bd1 (fX6_count ke lnn tl xn (12 : Int32)) fun r181 => bd3 (fX6_undo lnn pm xn h0 h1 h2 h3 h4) fun r183 lnn_185 xn_187 => mrg (fun (v191 : Int32) => if r183 = v191 then jl (v + (1 : Int32)) fun v193 => rc v193 ke lnn_185 pm ch tl nu le nx cmd pos rea cau xn_187 xt xp xr xw h0 h1 h2 h3 h4 else none) fun J190 => if r181 = 0 then J190 (-2 : Int32) else J190 (r181 - (1 : Int32)) else jl (v + (1 : Int32)) fun v180 => rc v180 ke lnn pm ch tl nu le nx cmd pos rea cau xn xt xp xr xw h0 h1 h2 h3 h4) = some 1 := by
  by_cases c : (v - v / (5 : Int32) * (5 : Int32)) = (4 : Int32)
  · rw [if_pos c, count12, bd1_e]
    have el : lnn = nI k := hH.2.1
    rcases undo_v xn hH with ⟨rfl, e⟩ | ⟨j, rfl, e, hj, hxj⟩
    · rw [e, bd3_e, el]
      simp only [q_mrg]
      rw [if_pos (by decide), if_true, q_jl]
      have := hr 0 lnn xn hH hx
      rw [el] at this
      exact this
    · have hk : j + 1 ≤ 4 := hH.1
      rw [e, bd3_e, el]
      simp only [q_mrg]
      rw [if_neg (show ¬ nI (j + 1) = 0 by rw [q_l0, q_eq (by omega) (by omega)]; omega), if_pos (show nI j = nI (j + 1) - (1 : Int32) by rw [q_l1, q_dec2 (by omega)]), q_jl]
      exact hr j (nI j) _ hj hxj
  · rw [if_neg c, q_jl]
    exact hr k lnn xn hH hx
theorem cmp_self (r : Int64) : (lg_cmp r r = 0) = True := eq_true ((lg_cmp_eq r r).mpr rfl)
set_option maxHeartbeats 8000000 in
set_option maxRecDepth 20000 in
theorem law_loop {xs : Nat → Int32} {L : Nat} (hL : L ≤ 260) : ∀ (j i n : Nat) (ke : Int32) (lnn : Int32) (pm : Nat → Nat) (ch : Nat → Int32) (tl : Int32) (nu : Nat → Int32) (le : Int32) (nx : Int32) (cmd : Int32) (pos : Int32) (rea : Int32) (cau : Int32) (xn : HutS) (xt : HutS) (xp : HutS) (xr : HutS) (xw : HutS) (h0 : HutS) (h1 : HutS) (h2 : HutS) (h3 : HutS) (h4 : HutS) (k : Nat), i + j = 32 → j < n → TS k ke lnn pm ch tl xn xp h0 h1 h2 h3 h4 → gl23 (sL_law_rec88 xs L) n (nI i) ke lnn pm ch tl nu le nx cmd pos rea cau xn xt xp xr xw h0 h1 h2 h3 h4 = some 1 := by
  have q32 : (32 : Int32) = nI 32 := by decide
  intro j
  induction j with
  | zero =>
    intro i n ke lnn pm ch tl nu le nx cmd pos rea cau xn xt xp xr xw h0 h1 h2 h3 h4 k hi hn hS
    obtain ⟨n, rfl⟩ := Nat.exists_eq_succ_of_ne_zero (Nat.ne_of_gt hn)
    show sL_law_rec88 xs L _ (nI i) ke lnn pm ch tl nu le nx cmd pos rea cau xn xt xp xr xw h0 h1 h2 h3 h4 = _
    rw [sL_law_rec88]
    rw [if_pos (show (32 : Int32) ≤ nI i by rw [q32, q_le (by omega) (by omega)]; omega)]
  | succ j ih =>
    intro i n ke lnn pm ch tl nu le nx cmd pos rea cau xn xt xp xr xw h0 h1 h2 h3 h4 k hi hn hS
    obtain ⟨n, rfl⟩ := Nat.exists_eq_succ_of_ne_zero (by omega : n ≠ 0)
    obtain ⟨r1, l1⟩ := lot_v (xs := xs) hL (m := 2 * i) (by omega)
    obtain ⟨r2, l2⟩ := lot_v (xs := xs) hL (m := 2 * i + 1) (by omega)
    have e1 : (2 : Int32) * nI i = nI (2 * i) := by rw [q_l2, pk_mul]
    have e2 : (2 : Int32) * nI i + (1 : Int32) = nI (2 * i + 1) := by rw [e1, q_l1, nI_add]
    have i1 : nI i + (1 : Int32) = nI (i + 1) := by rw [q_l1, nI_add]
    obtain ⟨D, hD⟩ := digest_v hS.2.1.1.choose_spec
    have hk4 : k ≤ 4 := hS.1.1
    have el : lnn = nI k := hS.1.2.1
    obtain ⟨ke', lnn', pm', ch', tl', nu', le', nx', cmd', pos', rea', cau', xn', xt', xp', xr', xw', g0, g1, g2, g3, g4, ea, ⟨hx', k', hH', hO⟩, hT', hk'⟩ := acts_v ke lnn pm ch tl nu le nx cmd pos rea cau xn xt xp xr xw h0 h1 h2 h3 h4 hS r1 r2
    obtain ⟨s', hr'⟩ := hx'.1
    obtain ⟨xt2, eh⟩ := holds_v ke' lnn' tl' xt' r2 hr' hx'.2
    have el' : lnn' = nI k' := hH'.2.1
    have hk4' : k' ≤ 4 := hH'.1
    have tail : ∀ (k2 : Nat) (lnn2 : Int32) (xn2 : HutS), TopH k2 lnn2 pm' g0 g1 g2 g3 g4 → HG xn2 → gl23 (sL_law_rec88 xs L) n (nI i + 1) ke' lnn2 pm' ch' tl' nu' le' nx' cmd' pos' rea' cau' xn2 xt2 xp' xr' xw' g0 g1 g2 g3 g4 = some 1 := by
      intro k2 lnn2 xn2 a1 a2
      rw [i1]
      exact ih (i + 1) n ke' lnn2 pm' ch' tl' nu' le' nx' cmd' pos' rea' cau' xn2 xt2 xp' xr' xw' g0 g1 g2 g3 g4 k2 (by omega) (by omega) ⟨a1, a2, hT', hk'⟩
    show sL_law_rec88 xs L (gl23 (sL_law_rec88 xs L) n) (nI i) ke lnn pm ch tl nu le nx cmd pos rea cau xn xt xp xr xw h0 h1 h2 h3 h4 = _
    rw [sL_law_rec88]
    rw [if_neg (show ¬ (32 : Int32) ≤ nI i by rw [q32, q_le (by omega) (by omega)]; omega), e2, l2, e1, l1, bd1_e, bd1_e, hD, bd1_e, count12, bd1_e, ea, bd23_e, if_neg (by decide), eh, bd2_e, if_neg (by decide), count12, bd1_e, el]
    have eq0 : ∀ a : Int32, (a = a) = True := fun a => eq_self a
    rcases hO with ⟨rfl, rfl⟩ | ⟨rfl, hu⟩ | ⟨rfl, rfl⟩
    · -- all as it was
      have f1 : (nI k' = nI k' + (1 : Int32)) = False := by
        rw [q_l1, nI_add, q_eq (by omega) (by omega)]
        exact eq_false (by omega)
      rw [el'] at hH' ⊢
      simp only [q_mrg, f1, eq0, if_true, if_false, hD, bd1_e, cmp_self, ite_self]
      exact law_tail ke' (nI k') pm' ch' tl' nu' le' nx' cmd' pos' rea' cau' xn' xt2 xp' xr' xw' g0 g1 g2 g3 g4 hH' hx' tail
    · -- one more
      have f1 : (nI (k + 1) = nI k + (1 : Int32)) = True := by
        rw [q_l1, nI_add]
        exact eq_self _
      have f2 : (nI (k + 1) = nI k) = False := by
        rw [q_eq (by omega) (by omega)]
        exact eq_false (by omega)
      obtain ⟨b, b1, b2⟩ := low_v (r2 >>> ((8 : Int32) &&& 31)) (n := 3) (by omega) (by omega)
      have b2' : fL_low (r2 >>> ((8 : Int32) &&& 31)) (3 : Int32) = some (nI b) := b2
      rw [el'] at hH' ⊢
      rcases undo_v xn' hH' with ⟨w, -⟩ | ⟨j2, w, eu, hj, hxj⟩
      · omega
      · have ej : j2 = k := by omega
        subst ej
        rw [hu] at eu hxj
        simp only [q_mrg, f1, f2, eq0, if_true, if_false, b2', bd1_e]
        by_cases c : nI b = 0
        · rw [if_pos c, eu, bd3_e, if_pos rfl, hD, bd1_e, if_pos ((lg_cmp_eq D D).mpr rfl)]
          exact law_tail ke' (nI j2) pm' ch' tl' nu' le' nx' cmd' pos' rea' cau' xn xt2 xp' xr' xw' g0 g1 g2 g3 g4 hj hxj tail
        · rw [if_neg c]
          exact law_tail ke' (nI (j2 + 1)) pm' ch' tl' nu' le' nx' cmd' pos' rea' cau' xn' xt2 xp' xr' xw' g0 g1 g2 g3 g4 hH' hx' tail
    · -- the oldest is lost
      have f1 : (nI 4 = nI 4 + (1 : Int32)) = False := by decide
      have f2 : (nI 4 = (4 : Int32)) = True := by decide
      rw [el'] at hH' ⊢
      simp only [q_mrg, f1, f2, eq0, if_true, if_false]
      exact law_tail ke' (nI 4) pm' ch' tl' nu' le' nx' cmd' pos' rea' cau' xn' xt2 xp' xr' xw' g0 g1 g2 g3 g4 hH' hx' tail
theorem ss0_at {j : Nat} (h : j < 10 ∨ 13 < j) : ss0 j = nI 0 := by
  have c10 : (10 : Int32).toNatClampNeg = 10 := by decide
  have c11 : (11 : Int32).toNatClampNeg = 11 := by decide
  have c12 : (12 : Int32).toNatClampNeg = 12 := by decide
  have c13 : (13 : Int32).toNatClampNeg = 13 := by decide
  unfold ss0
  rw [c10, c11, c12, c13, pk_un (by omega), pk_un (by omega), pk_un (by omega), pk_un (by omega), q_l0]
theorem top_start : HR hut0 ss0 := by
  have hs : SetR sg0 ss0 := by
    refine ⟨fun k hk => ?_, 12, 2, 3, 1, by decide +kernel, by omega, by omega, by decide +kernel, by omega, by omega, by decide +kernel, by omega, by decide +kernel, by omega⟩
    rcases (show k = 0 ∨ k = 1 ∨ k = 2 ∨ k = 3 by omega) with rfl | rfl | rfl | rfl <;> decide +kernel
  have hp : ParR 0 0 (fun _ => 0) (fun _ => 0) (fun _ => 0) (fun _ => 0) (fun _ => 0) (fun _ => 0) ss0 := ⟨by omega, ss0_at (by omega), fun j hj => absurd hj (by omega), fun j hj => absurd hj (by omega), fun j hj => absurd hj (by omega)⟩
  have hn : NightR [] 0 0 (fun _ => 0) (fun _ => 0) (fun _ => 0) (fun _ => 0) (fun _ => 0) (fun _ => 0) (fun _ => 0) (fun _ => 0) (fun _ => 0) (fun _ => 0) (fun _ => 0) (fun _ => 0) sg0 0 0 0 0 ss0 :=
    ⟨⟨Nat.zero_le _, fun t ht => absurd ht List.not_mem_nil, fun t ht => absurd ht List.not_mem_nil, trivial, ss0_at (by omega), trivial⟩, hp, fun k hk => ⟨(ss0_at (by omega)).trans q_l0.symm, (ss0_at (by omega)).trans q_l0.symm⟩, hs, fun k hk => ⟨(ss0_at (by omega)).trans q_l0.symm, Or.inl q_l0, fun _ => q_l0⟩, ss0_at (by omega), (ss0_at (by omega)).trans q_l0.symm, (ss0_at (by omega)).trans q_l0.symm, (ss0_at (by omega)).trans q_l0.symm, (ss0_at (by omega)).trans q_l0.symm⟩
  have hh : HutR [] [] 0 0 0 (fun _ => 0) (fun _ => 0) (fun _ => 0) (fun _ => 0) (fun _ => 0) (fun _ => 0) (fun _ => 0) (fun _ => 0) (fun _ => 0) (fun _ => 0) (fun _ => 0) (fun _ => 0) sg0 0 0 0 0 (fun _ => 0) (fun _ => 0) (fun _ => 0) (fun _ => 0) ss0 :=
    ⟨hn, ⟨Nat.zero_le _, fun t ht => absurd ht List.not_mem_nil, trivial, ss0_at (by omega), trivial⟩, fun k hk => (ss0_at (by omega)).trans q_l0.symm, ss0_at (by omega), by omega⟩
  have h := HR.mk (Nat.zero_le 16) (Nat.zero_le 365) hh
  have e : hut0 = ((fun _ => 0), (fun _ => 0), (fun _ => 0), nI (List.length ([] : List LT)), (fun _ => 0), (fun _ => 0), (fun _ => 0), nI (List.length ([] : List LT)), (fun _ => 0), (fun _ => 0), (fun _ => 0), (fun _ => 0), (fun _ => 0), (fun _ => 0), (fun _ => 0), (fun _ => 0), (fun _ => 0), nI 0, (fun _ => 0), sg0, nI 0, nI 0, 0, 0, 0, 0) := by
    unfold hut0
    rw [show nI (List.length ([] : List LT)) = (0 : Int32) by decide, ← q_l0]
  rw [e]
  exact h
theorem start_I : HI hut0 := by
  refine ⟨fun k hk => ?_, fun j hj => ?_, rfl⟩
  · rcases (show k = 0 ∨ k = 1 ∨ k = 2 by omega) with rfl | rfl | rfl <;> decide +kernel
  · have e : (0 : Int32).toNatClampNeg = 0 := by decide
    exact absurd (show j < (0 : Int32).toNatClampNeg from hj) (by rw [e]; omega)
theorem start4 : (bd9 (fX6_set 0 (fun i => i) hut0 hut0 hut0 hut0 hut0 hut0 (3 : Int32) (9 : Int32)) fun a1 b1 c1 d1 e1 f1 g1 h1 i1 => bd9 (fX6_load b1 c1 d1 e1 f1 g1 h1 i1 (0 : Int32) (90 : Int32) (30 : Int32)) fun a2 b2 c2 d2 e2 f2 g2 h2 i2 => bd9 (fX6_load b2 c2 d2 e2 f2 g2 h2 i2 (2 : Int32) (40 : Int32) (40 : Int32)) fun a3 b3 c3 d3 e3 f3 g3 h3 i3 => bd9 (fX6_fly b3 c3 d3 e3 f3 g3 h3 i3) fun a4 b4 c4 d4 e4 f4 g4 h4 i4 => some (a1, a2, a3, a4)) = some ((1 : Int32), (1 : Int32), (2 : Int32), (2 : Int32)) := by decide +kernel
theorem law_pure (xs : Nat → Int32) (L : Nat) (hL : L ≤ 260) : fL_law xs L 0 0 (fun i => i) (fun _ => 0) 0 (fun _ => 0) 0 0 0 0 0 0 hut0 hut0 hut0 hut0 hut0 hut0 hut0 hut0 hut0 hut0 = some 1 := by
  have hH : TopH 0 0 (fun i => i) hut0 hut0 hut0 hut0 hut0 := ⟨by omega, by decide, fun i hi => hi, fun i j _ _ e => e, fun i hi => absurd hi (by omega)⟩
  have hx : HG hut0 := ⟨⟨_, top_start⟩, start_I⟩
  obtain ⟨xt1, e0⟩ := holds_v 0 0 0 hut0 0 top_start start_I
  obtain ⟨r1, l1, m1, x1, a0, a1, a2, a3, a4, e1, -, hx1, k1, hH1, -⟩ := a_set (3 : Int32) (9 : Int32) hH hx
  obtain ⟨r2, l2, m2, x2, b0, b1, b2, b3, b4, e2, -, hx2, k2, hH2, -⟩ := a_load (0 : Int32) (90 : Int32) (30 : Int32) hH1 hx1
  obtain ⟨r3, l3, m3, x3, c0, c1, c2, c3, c4, e3, -, hx3, k3, hH3, -⟩ := a_load (2 : Int32) (40 : Int32) (40 : Int32) hH2 hx2
  obtain ⟨r4, l4, m4, x4, d0, d1, d2, d3, d4, e4, -, hx4, k4, hH4, -⟩ := a_fly hH3 hx3
  have h4 := start4
  rw [e1, bd9_e, e2, bd9_e, e3, bd9_e, e4, bd9_e] at h4
  cases h4
  unfold fL_law
  rw [e0, bd2_e, if_neg (by decide)]
  have eu : fX6_undo 0 (fun i => i) hut0 hut0 hut0 hut0 hut0 hut0 = some (-2, 0, hut0) := by
    unfold fX6_undo
    rw [if_pos rfl]
  rw [eu, bd3_e, if_pos rfl, e1, bd9_e, if_pos rfl, e2, bd9_e, if_pos rfl, e3, bd9_e, if_pos rfl, e4, bd9_e, if_pos rfl]
  exact law_loop hL 32 0 gFU _ _ _ _ _ _ _ _ _ _ _ _ _ _ _ _ _ _ _ _ _ _ k4 (by omega) (by unfold gFU; omega) ⟨hH4, hx4, ⟨0, by decide, by omega, fun i hi => absurd hi (by omega)⟩, Or.inl (by decide)⟩
