/-! ===== texts: a command ===== -/
theorem letters (c : Nat) (hc : c ≤ 126) : (∃ W, W ≤ 3 ∧ fX5_numbersOf (nI c) = some (nI W) ∧ fX7_wants (nI c) = some (nI W) ∧ ((c = 98 ∧ W = 3) ∨ (c = 102 ∧ W = 0) ∨ (c = 108 ∧ W = 3) ∨ (c = 110 ∧ W = 1) ∨ (c = 115 ∧ W = 2) ∨ (c = 120 ∧ W = 1))) ∨ (fX5_numbersOf (nI c) = some (-1) ∧ fX7_wants (nI c) = some (-1)) := by
  by_cases c1 : c = 98
  · subst c1; exact Or.inl ⟨3, by omega, by decide, by decide, by omega⟩
  by_cases c2 : c = 102
  · subst c2; exact Or.inl ⟨0, by omega, by decide, by decide, by omega⟩
  by_cases c3 : c = 108
  · subst c3; exact Or.inl ⟨3, by omega, by decide, by decide, by omega⟩
  by_cases c4 : c = 110
  · subst c4; exact Or.inl ⟨1, by omega, by decide, by decide, by omega⟩
  by_cases c5 : c = 115
  · subst c5; exact Or.inl ⟨2, by omega, by decide, by decide, by omega⟩
  by_cases c6 : c = 120
  · subst c6; exact Or.inl ⟨1, by omega, by decide, by decide, by omega⟩
  have n : ∀ k, k ≤ 126 → c ≠ k → ¬ nI c = nI k := fun k hk hne e => hne (by
    rw [q_eq (by omega) (by omega)] at e
    exact e)
  have n1 := n 98 (by omega) c1
  have n2 := n 102 (by omega) c2
  have n3 := n 108 (by omega) c3
  have n4 := n 110 (by omega) c4
  have n5 := n 115 (by omega) c5
  have n6 := n 120 (by omega) c6
  have l1 : (98 : Int32) = nI 98 := by decide
  have l2 : (102 : Int32) = nI 102 := by decide
  have l3 : (108 : Int32) = nI 108 := by decide
  have l4 : (110 : Int32) = nI 110 := by decide
  have l5 : (115 : Int32) = nI 115 := by decide
  have l6 : (120 : Int32) = nI 120 := by decide
  refine Or.inr ⟨?_, ?_⟩
  · unfold fX5_numbersOf
    rw [l1, l2, l3, l4, l5, l6, if_neg n1, if_neg n2, if_neg n3, if_neg n4, if_neg n5, if_neg n6]
  · unfold fX7_wants
    rw [l1, l2, l3, l4, l5, l6, if_neg n1, if_neg n3, if_neg n4, if_neg n5, if_neg n6, if_neg n2]
theorem dead_loop {tx ss asd : Nat → Int32} {ln att4 dn5 r10 : Int32} {W : Nat} {rec1 : (Nat → Int32) → (Nat → Int32) → Int32 → Int32 → Int32 → Int32 → (Nat → Int32) → Option (Int32 × (Nat → Int32) × (Nat → Int32) × Int32 × Int32 × Int32 × Int32 × (Nat → Int32))} (hW : fX7_wants r10 = some (nI W)) (hW3 : W ≤ 3) : ∀ (k i m a : Nat) (nb : Nat → Int32), i + k = W → k < m → ∃ nb', gl4 (sX7_does_rec22 tx ln rec1 ss asd att4 dn5 r10) m (nI i) (nI a) (nI 0) nb = some (att4, ss, asd, nI a, dn5, nI 0, nI 0, nb') := by
  intro k
  induction k with
  | zero =>
    intro i m a nb hi hm
    obtain ⟨m, rfl⟩ := Nat.exists_eq_succ_of_ne_zero (Nat.ne_of_gt hm)
    have : i = W := hi
    subst this
    refine ⟨nb, ?_⟩
    show sX7_does_rec22 tx ln rec1 ss asd att4 dn5 r10 _ (nI i) (nI a) (nI 0) nb = _
    simp (disch := omega) only [sX7_does_rec22, hW, bd1_e, q_le, Nat.le_refl, if_true, sign0, bd2_e, q_mrg, q_l0]
  | succ k ih =>
    intro i m a nb hi hm
    obtain ⟨m, rfl⟩ := Nat.exists_eq_succ_of_ne_zero (by omega : m ≠ 0)
    have n1 : ¬ W ≤ i := by omega
    obtain ⟨nb', w⟩ := ih (i + 1) m a (upd nb i (nI 0)) (by omega) (by omega)
    refine ⟨nb', ?_⟩
    rw [← w]
    show sX7_does_rec22 tx ln rec1 ss asd att4 dn5 r10 (gl4 (sX7_does_rec22 tx ln rec1 ss asd att4 dn5 r10) m) (nI i) (nI a) (nI 0) nb = _
    by_cases i0 : i = 0
    · have i0' : i ≤ 0 := by omega
      simp (disch := omega) only [sX7_does_rec22, hW, bd1_e, q_le, n1, if_false, q_mrg, q_l0, i0', if_true, number0, bd3_e, q_gd, q_cl, q_jl, q_l1, nI_add]
    · have i0' : ¬ i ≤ 0 := by omega
      simp (disch := omega) only [sX7_does_rec22, hW, bd1_e, q_le, n1, if_false, q_mrg, q_l0, i0', sign0, bd2_e, number0, bd3_e, q_gd, q_cl, q_jl, q_l1, nI_add]
/-- the numbers of a command, sign by sign; the reference's goes on behind a command of the right form -/
theorem args_sim {t c W : Nat} {ch tx ss asd : Nat → Int32} {att4 dn5 : Int32} {rec1 : (Nat → Int32) → (Nat → Int32) → Int32 → Int32 → Int32 → Int32 → (Nat → Int32) → Option (Int32 × (Nat → Int32) × (Nat → Int32) × Int32 × Int32 × Int32 × Int32 × (Nat → Int32))} (h : TxtR t ch tx) (hW : fX7_wants (nI c) = some (nI W)) (hW3 : W ≤ 3) : ∀ (k i n m a : Nat) (nu nb : Nat → Int32), i + k = W → k < n → k < m → a < 2 ^ 17 + 4 * i → (∀ j, j < i → nu j = nb j) →
    (∃ nu' e' a' nb', gl3 (sX5_readCommand_rec8 ch (nI t) (nI c) (nI W)) n (nI i) nu (nI a) = some (nI 0, nu', nI c, e') ∧ gl4 (sX7_does_rec22 tx (nI t) rec1 ss asd att4 dn5 (nI c)) m (nI i) (nI a) (nI 1) nb = some (att4, ss, asd, a', dn5, nI 0, nI 0, nb')) ∨
    (∃ nu' e nb', gl3 (sX5_readCommand_rec8 ch (nI t) (nI c) (nI W)) n (nI i) nu (nI a) = some (nI 1, nu', nI c, nI e) ∧ a < e ∧ e ≤ t ∧ (∀ j, j < W → nu' j = nb' j) ∧ gl4 (sX7_does_rec22 tx (nI t) rec1 ss asd att4 dn5 (nI c)) m (nI i) (nI a) (nI 1) nb = (bd3 (fX7_called ss asd nb' (nI c)) fun r35 ss36 asd37 => if nI 0 ≤ r35 then rec1 ss36 asd37 (nI e) (dn5 + nI 1) r35 (nI 1) nb' else some (att4, ss36, asd37, nI e, dn5, r35, nI 1, nb'))) := by
  have d10 : ¬ nI 1 = nI 0 := by decide
  have q44 : (44 : Int32) = nI 44 := by decide
  have q59 : (59 : Int32) = nI 59 := by decide
  intro k
  induction k with
  | zero =>
    intro i n m a nu nb hi hn hm ha hj
    obtain ⟨n, rfl⟩ := Nat.exists_eq_succ_of_ne_zero (Nat.ne_of_gt hn)
    obtain ⟨m, rfl⟩ := Nat.exists_eq_succ_of_ne_zero (Nat.ne_of_gt hm)
    have : i = W := hi
    subst this
    rcases sign_sim h (i := a) (q := 59) (by omega) (by omega) with ⟨e1, e2⟩ | ⟨e1, e2⟩
    · refine Or.inr ⟨nu, a + 1, nb, ?_, by omega, ?_, hj, ?_⟩
      · show sX5_readCommand_rec8 ch (nI t) (nI c) (nI i) _ (nI i) nu (nI a) = _
        simp (disch := omega) only [sX5_readCommand_rec8, q_mrg, q_le, Nat.le_refl, if_true, q59, e1, bd2_e, g_nz1]
      · rcases look h (i := a) (by omega) with ⟨_, _, _, q, _⟩ | ⟨q, q1, q2⟩
        · omega
        · exfalso
          unfold fX5_passes at e1
          rw [q1, bd1_e, if_neg (by decide)] at e1
          exact absurd (congrArg Prod.fst (Option.some.inj e1)) (show ¬ (0 : Int32) = nI 1 by decide)
      · show sX7_does_rec22 tx (nI t) rec1 ss asd att4 dn5 (nI c) _ (nI i) (nI a) (nI 1) nb = _
        simp (disch := omega) only [sX7_does_rec22, hW, bd1_e, q_le, Nat.le_refl, if_true, q59, e2, bd2_e, q_mrg, q_l0, d10, if_false, q_jl, q_l1]
    · refine Or.inl ⟨nu, nI a, nI a, nb, ?_, ?_⟩
      · show sX5_readCommand_rec8 ch (nI t) (nI c) (nI i) _ (nI i) nu (nI a) = _
        simp (disch := omega) only [sX5_readCommand_rec8, q_mrg, q_le, Nat.le_refl, if_true, q59, e1, bd2_e, g_nz0]
      · show sX7_does_rec22 tx (nI t) rec1 ss asd att4 dn5 (nI c) _ (nI i) (nI a) (nI 1) nb = _
        simp (disch := omega) only [sX7_does_rec22, hW, bd1_e, q_le, Nat.le_refl, if_true, q59, e2, bd2_e, q_mrg, q_l0]
  | succ k ih =>
    intro i n m a nu nb hi hn hm ha hj
    obtain ⟨n, rfl⟩ := Nat.exists_eq_succ_of_ne_zero (by omega : n ≠ 0)
    obtain ⟨m, rfl⟩ := Nat.exists_eq_succ_of_ne_zero (by omega : m ≠ 0)
    have n1 : ¬ W ≤ i := by omega
    have n3 : ¬ 3 ≤ i := by omega
    -- one number, from the place b on
    have one : ∀ b, a ≤ b → b ≤ a + 1 → (sX5_readCommand_rec8 ch (nI t) (nI c) (nI W) (gl3 (sX5_readCommand_rec8 ch (nI t) (nI c) (nI W)) n) (nI i) nu (nI a) = bd2 (fX5_readNumber ch (nI t) (nI b)) fun r22 nx23 => if nI 0 ≤ r22 then gl3 (sX5_readCommand_rec8 ch (nI t) (nI c) (nI W)) n (nI (i + 1)) (upd nu i r22) nx23 else some (nI 0, upd nu i r22, nI c, nx23)) → (sX7_does_rec22 tx (nI t) rec1 ss asd att4 dn5 (nI c) (gl4 (sX7_does_rec22 tx (nI t) rec1 ss asd att4 dn5 (nI c)) m) (nI i) (nI a) (nI 1) nb = bd3 (fX7_number tx (nI t) (nI b) (nI 1)) fun r52 att53 fo54 => gl4 (sX7_does_rec22 tx (nI t) rec1 ss asd att4 dn5 (nI c)) m (nI (i + 1)) att53 fo54 (upd nb i r52)) →
        (∃ nu' e' a' nb', gl3 (sX5_readCommand_rec8 ch (nI t) (nI c) (nI W)) (n + 1) (nI i) nu (nI a) = some (nI 0, nu', nI c, e') ∧ gl4 (sX7_does_rec22 tx (nI t) rec1 ss asd att4 dn5 (nI c)) (m + 1) (nI i) (nI a) (nI 1) nb = some (att4, ss, asd, a', dn5, nI 0, nI 0, nb')) ∨
        (∃ nu' e nb', gl3 (sX5_readCommand_rec8 ch (nI t) (nI c) (nI W)) (n + 1) (nI i) nu (nI a) = some (nI 1, nu', nI c, nI e) ∧ a < e ∧ e ≤ t ∧ (∀ j, j < W → nu' j = nb' j) ∧ gl4 (sX7_does_rec22 tx (nI t) rec1 ss asd att4 dn5 (nI c)) (m + 1) (nI i) (nI a) (nI 1) nb = (bd3 (fX7_called ss asd nb' (nI c)) fun r35 ss36 asd37 => if nI 0 ≤ r35 then rec1 ss36 asd37 (nI e) (dn5 + nI 1) r35 (nI 1) nb' else some (att4, ss36, asd37, nI e, dn5, r35, nI 1, nb'))) := by
      intro b hb1 hb2 hC hM
      rcases number_sim h (i := b) (by omega) with ⟨v, e, v1, v2, v3, v4, v5⟩ | ⟨v4, v5⟩
      · have hu : ∀ j, j < i + 1 → upd nu i (nI v) j = upd nb i (nI v) j := by
          intro j hj2
          by_cases ej : j = i
          · subst ej; rw [pk_us, pk_us]
          · rw [pk_un ej, pk_un ej]; exact hj j (by omega)
        have hv0 : nI 0 ≤ nI v := by rw [q_le (by omega) (by omega)]; omega
        rw [v4, bd2_e, if_pos hv0] at hC
        rw [v5, bd3_e] at hM
        rcases ih (i + 1) n m e (upd nu i (nI v)) (upd nb i (nI v)) (by omega) (by omega) (by omega) (by omega) hu with ⟨nu', e', a', nb', f1, f2⟩ | ⟨nu', e', nb', f1, f2, f3, f4, f5⟩
        · exact Or.inl ⟨nu', e', a', nb', hC.trans f1, hM.trans f2⟩
        · exact Or.inr ⟨nu', e', nb', hC.trans f1, by omega, f3, f4, hM.trans f5⟩
      · have hv0 : ¬ nI 0 ≤ (-1 : Int32) := by decide
        rw [v4, bd2_e, if_neg hv0] at hC
        rw [v5, bd3_e] at hM
        obtain ⟨nb', w⟩ := dead_loop (tx := tx) (ln := nI t) (ss := ss) (asd := asd) (att4 := att4) (dn5 := dn5) (rec1 := rec1) hW hW3 k (i + 1) m b (upd nb i (nI 0)) (by omega) (by omega)
        exact Or.inl ⟨_, _, _, nb', hC, hM.trans w⟩
    by_cases i0 : i = 0
    · have i0' : i ≤ 0 := by omega
      refine one a (Nat.le_refl _) (by omega) ?_ ?_
      · simp (disch := omega) only [sX5_readCommand_rec8, q_mrg, q_l3, q_le, n1, n3, if_false, q_l0, i0', if_true, q_gd, q_cl, q_jl, pk_us, q_l1, nI_add]
      · simp (disch := omega) only [sX7_does_rec22, hW, bd1_e, q_le, n1, if_false, q_mrg, q_l0, i0', if_true, q_gd, q_cl, q_jl, q_l1, nI_add]
    · have i0' : ¬ i ≤ 0 := by omega
      rcases sign_sim h (i := a) (q := 44) (by omega) (by omega) with ⟨e1, e2⟩ | ⟨e1, e2⟩
      · refine one (a + 1) (by omega) (Nat.le_refl _) ?_ ?_
        · simp (disch := omega) only [sX5_readCommand_rec8, q_mrg, q_l3, q_le, n1, n3, if_false, q_l0, i0', q44, e1, bd2_e, d10, q_gd, q_cl, q_jl, pk_us, q_l1, nI_add]
        · simp (disch := omega) only [sX7_does_rec22, hW, bd1_e, q_le, n1, if_false, q_mrg, q_l0, i0', q44, e2, bd2_e, q_gd, q_cl, q_jl, q_l1, nI_add]
      · obtain ⟨nb', w⟩ := dead_loop (tx := tx) (ln := nI t) (ss := ss) (asd := asd) (att4 := att4) (dn5 := dn5) (rec1 := rec1) hW hW3 k (i + 1) m a (upd nb i (nI 0)) (by omega) (by omega)
        refine Or.inl ⟨nu, nI a, nI a, nb', ?_, ?_⟩
        · show sX5_readCommand_rec8 ch (nI t) (nI c) (nI W) _ (nI i) nu (nI a) = _
          simp (disch := omega) only [sX5_readCommand_rec8, q_mrg, q_l3, q_le, n1, n3, if_false, q_l0, i0', q44, e1, bd2_e, if_true]
        · rw [← w]
          show sX7_does_rec22 tx (nI t) rec1 ss asd att4 dn5 (nI c) _ (nI i) (nI a) (nI 1) nb = _
          simp (disch := omega) only [sX7_does_rec22, hW, bd1_e, q_le, n1, if_false, q_mrg, q_l0, i0', q44, e2, bd2_e, number0, bd3_e, q_gd, q_cl, q_jl, q_l1, nI_add]
/-- what a command does -/
theorem obey_sim {x : HutS} {s : Nat → Int32} {c W : Nat} {nu nb : Nat → Int32} (xt : HutS) (asd : Nat → Int32) (h : HR x s) (hc : (c = 98 ∧ W = 3) ∨ (c = 102 ∧ W = 0) ∨ (c = 108 ∧ W = 3) ∨ (c = 110 ∧ W = 1) ∨ (c = 115 ∧ W = 2) ∨ (c = 120 ∧ W = 1)) (hn : ∀ j, j < W → nu j = nb j) : ∃ ans x' xt' s' asd', fX3_obey x xt nu (nI c) = some (ans, x', xt') ∧ fX7_called s asd nb (nI c) = some (ans, s', asd') ∧ OpR ans x' s s' := by
  have l1 : (98 : Int32) = nI 98 := by decide
  have l2 : (102 : Int32) = nI 102 := by decide
  have l3 : (108 : Int32) = nI 108 := by decide
  have l4 : (110 : Int32) = nI 110 := by decide
  have l5 : (115 : Int32) = nI 115 := by decide
  have l6 : (120 : Int32) = nI 120 := by decide
  have i0 : ∀ {α : Type} (y : Option α), gd (inB (0 : Int32) 3) y = y := fun y => by rw [show inB (0 : Int32) 3 = true by decide]; rfl
  have i1 : ∀ {α : Type} (y : Option α), gd (inB (1 : Int32) 3) y = y := fun y => by rw [show inB (1 : Int32) 3 = true by decide]; rfl
  have i2 : ∀ {α : Type} (y : Option α), gd (inB (2 : Int32) 3) y = y := fun y => by rw [show inB (2 : Int32) 3 = true by decide]; rfl
  have c0 : (0 : Int32).toNatClampNeg = 0 := by decide
  have c1 : (1 : Int32).toNatClampNeg = 1 := by decide
  have c2 : (2 : Int32).toNatClampNeg = 2 := by decide
  unfold fX3_obey fX7_called
  rw [l1, l2, l3, l4, l5, l6]
  rcases hc with ⟨rfl, rfl⟩ | ⟨rfl, rfl⟩ | ⟨rfl, rfl⟩ | ⟨rfl, rfl⟩ | ⟨rfl, rfl⟩ | ⟨rfl, rfl⟩
  · obtain ⟨ans, x', y', s', asd', e1, e2, e3⟩ := g_book xt asd (nu 0) (nu 1) (nu 2) h
    refine ⟨ans, x', y', s', asd', ?_, ?_, e3⟩
    · rw [if_pos rfl, i0, i1, i2, c0, c1, c2, e1, bd3_e]
    · rw [if_pos rfl, i0, i1, i2, c0, c1, c2, ← hn 0 (by omega), ← hn 1 (by omega), ← hn 2 (by omega), e2, bd3_e]
  · obtain ⟨ans, x', s', e1, e2, e3⟩ := g_fly h
    refine ⟨ans, x', xt, s', asd, ?_, ?_, e3⟩
    · rw [if_neg (by decide), if_pos rfl, e1, bd2_e]
    · rw [if_neg (by decide), if_neg (by decide), if_neg (by decide), if_neg (by decide), if_neg (by decide), e2, bd2_e]
  · obtain ⟨ans, x', s', e1, e2, e3⟩ := g_load (nu 0) (nu 1) (nu 2) h
    refine ⟨ans, x', xt, s', asd, ?_, ?_, e3⟩
    · rw [if_neg (by decide), if_neg (by decide), if_pos rfl, i0, i1, i2, c0, c1, c2, e1, bd2_e]
    · rw [if_neg (by decide), if_pos rfl, i0, i1, i2, c0, c1, c2, ← hn 0 (by omega), ← hn 1 (by omega), ← hn 2 (by omega), e2, bd2_e]
  · obtain ⟨ans, x', s', e1, e2, e3⟩ := g_sleep (nu 0) h
    refine ⟨ans, x', xt, s', asd, ?_, ?_, e3⟩
    · rw [if_neg (by decide), if_neg (by decide), if_neg (by decide), if_pos rfl, i0, c0, e1, bd2_e]
    · rw [if_neg (by decide), if_neg (by decide), if_pos rfl, i0, c0, ← hn 0 (by omega), e2, bd2_e]
  · obtain ⟨ans, x', s', e1, e2, e3⟩ := g_storm (nu 0) (nu 1) h
    refine ⟨ans, x', xt, s', asd, ?_, ?_, e3⟩
    · rw [if_neg (by decide), if_neg (by decide), if_neg (by decide), if_neg (by decide), if_pos rfl, i0, i1, c0, c1, e1, bd2_e]
    · rw [if_neg (by decide), if_neg (by decide), if_neg (by decide), if_pos rfl, i0, i1, c0, c1, ← hn 0 (by omega), ← hn 1 (by omega), e2, bd2_e]
  · obtain ⟨ans, x', s', e1, e2, e3⟩ := g_cancel (nu 0) h
    refine ⟨ans, x', xt, s', asd, ?_, ?_, e3⟩
    · rw [if_neg (by decide), if_neg (by decide), if_neg (by decide), if_neg (by decide), if_neg (by decide), if_pos rfl, i0, c0, e1, bd2_e]
    · rw [if_neg (by decide), if_neg (by decide), if_neg (by decide), if_neg (by decide), if_pos rfl, i0, c0, ← hn 0 (by omega), e2, bd2_e]
