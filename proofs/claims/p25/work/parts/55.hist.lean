/-! ===== the history: the class's ring beside the reference's blocks ===== -/
def hsel (h0 h1 h2 h3 h4 : HutS) : Nat → HutS
  | 0 => h0
  | 1 => h1
  | 2 => h2
  | 3 => h3
  | _ => h4
theorem q_gt {α : Type} {x : Option α} : gd true x = x := rfl
theorem hv_us {α : Type} {f : Nat → α} {k : Nat} {x : α} : va_up f k x k = x := if_pos rfl
theorem hv_un {α : Type} {f : Nat → α} {k j : Nat} {x : α} (h : j ≠ k) : va_up f k x j = f j := if_neg h
theorem p_prepare {k : Nat} {pm : Nat → Nat} {h0 h1 h2 h3 h4 xn : HutS} {s : Nat → Int32} (hk : k ≤ 4) (hp : pm k < 5) (hx : HR xn s) : ∃ g0 g1 g2 g3 g4, fX0_prepare (nI k) pm h0 h1 h2 h3 h4 xn = some (g0, g1, g2, g3, g4) ∧ hsel g0 g1 g2 g3 g4 (pm k) = xn ∧ ∀ i, i < 5 → i ≠ pm k → hsel g0 g1 g2 g3 g4 i = hsel h0 h1 h2 h3 h4 i := by
  have k1 : ¬ k < 0 := by omega
  have k2 : ¬ 4 < k := by omega
  have z : ∀ X, (if pm k = 0 then bd1 (gX1_copyFrom h0 xn) fun h0_6 => some (h0_6, h1, h2, h3, h4) else if pm k = 1 then bd1 (gX1_copyFrom h1 xn) fun h1_10 => some (h0, h1_10, h2, h3, h4) else if pm k = 2 then bd1 (gX1_copyFrom h2 xn) fun h2_14 => some (h0, h1, h2_14, h3, h4) else if pm k = 3 then bd1 (gX1_copyFrom h3 xn) fun h3_18 => some (h0, h1, h2, h3_18, h4) else if pm k = 4 then bd1 (gX1_copyFrom h4 xn) fun h4_22 => some (h0, h1, h2, h3, h4_22) else none) = X → fX0_prepare (nI k) pm h0 h1 h2 h3 h4 xn = X := by
    intro X e
    rw [← e]
    unfold fX0_prepare
    simp (disch := omega) only [q_l0, q_l4, q_lt, k1, k2, if_false, q_gd, q_cl]
  rcases (show pm k = 0 ∨ pm k = 1 ∨ pm k = 2 ∨ pm k = 3 ∨ pm k = 4 by omega) with c | c | c | c | c
  · refine ⟨xn, h1, h2, h3, h4, z _ ?_, by rw [c]; rfl, fun i hi hne => ?_⟩
    · rw [if_pos c, hx.copy h0, bd1_e]
    · rw [c] at hne
      rcases (show i = 1 ∨ i = 2 ∨ i = 3 ∨ i = 4 by omega) with rfl | rfl | rfl | rfl <;> rfl
  · refine ⟨h0, xn, h2, h3, h4, z _ ?_, by rw [c]; rfl, fun i hi hne => ?_⟩
    · rw [if_neg (by omega), if_pos c, hx.copy h1, bd1_e]
    · rw [c] at hne
      rcases (show i = 0 ∨ i = 2 ∨ i = 3 ∨ i = 4 by omega) with rfl | rfl | rfl | rfl <;> rfl
  · refine ⟨h0, h1, xn, h3, h4, z _ ?_, by rw [c]; rfl, fun i hi hne => ?_⟩
    · rw [if_neg (by omega), if_neg (by omega), if_pos c, hx.copy h2, bd1_e]
    · rw [c] at hne
      rcases (show i = 0 ∨ i = 1 ∨ i = 3 ∨ i = 4 by omega) with rfl | rfl | rfl | rfl <;> rfl
  · refine ⟨h0, h1, h2, xn, h4, z _ ?_, by rw [c]; rfl, fun i hi hne => ?_⟩
    · rw [if_neg (by omega), if_neg (by omega), if_neg (by omega), if_pos c, hx.copy h3, bd1_e]
    · rw [c] at hne
      rcases (show i = 0 ∨ i = 1 ∨ i = 2 ∨ i = 4 by omega) with rfl | rfl | rfl | rfl <;> rfl
  · refine ⟨h0, h1, h2, h3, xn, z _ ?_, by rw [c]; rfl, fun i hi hne => ?_⟩
    · rw [if_neg (by omega), if_neg (by omega), if_neg (by omega), if_neg (by omega), if_pos c, hx.copy h4, bd1_e]
    · rw [c] at hne
      rcases (show i = 0 ∨ i = 1 ∨ i = 2 ∨ i = 3 by omega) with rfl | rfl | rfl | rfl <;> rfl
theorem p_commit {k : Nat} {pm : Nat → Nat} (hk : k < 4) : fX0_commit (nI k) pm = some (nI (k + 1), pm) := by
  have k1 : ¬ 4 < k + 1 := by omega
  unfold fX0_commit
  simp (disch := omega) only [q_l1, q_l4, nI_add, q_jl, q_lt, k1, if_false]
theorem commit_loop {pm : Nat → Nat} (hb : ∀ i, i < 5 → Nat.blt (pm i) 5 = true) : ∀ (k i n : Nat) (q : Nat → Nat), i + k = 4 → k < n → (∀ j, j < i → q j = pm (j + 1)) → (∀ j, i ≤ j → q j = pm j) → ∃ q', gl2 (sX0_commit_rec4 pm) n (nI i) q = some (nI 4, q') ∧ (∀ j, j < 4 → q' j = pm (j + 1)) ∧ q' 4 = pm 0 := by
  intro k
  induction k with
  | zero =>
    intro i n q hi hn h1 h2
    obtain ⟨n, rfl⟩ := Nat.exists_eq_succ_of_ne_zero (Nat.ne_of_gt hn)
    have : i = 4 := hi
    subst this
    refine ⟨va_up q 4 (pm 0), ?_, fun j hj => (hv_un (by omega)).trans (h1 j hj), hv_us⟩
    have hb0 := hb 0 (by omega)
    show sX0_commit_rec4 pm (gl2 (sX0_commit_rec4 pm) n) (nI 4) q = _
    unfold sX0_commit_rec4
    rw [q_l4, if_pos (show nI 4 ≤ nI 4 by rw [q_le (by omega) (by omega)]; exact Nat.le_refl _), q_gd (by omega) (by omega), q_l0, q_cl (by omega), hb0, q_gt, q_cl (by omega), q_jl]
  | succ k ih =>
    intro i n q hi hn h1 h2
    obtain ⟨n, rfl⟩ := Nat.exists_eq_succ_of_ne_zero (by omega : n ≠ 0)
    have hq := h2 (i + 1) (by omega)
    have hb1 := hb (i + 1) (by omega)
    obtain ⟨q', f1, f2, f3⟩ := ih (i + 1) n (va_up q i (pm (i + 1))) (by omega) (by omega) (fun j hj => by
      by_cases e : j = i
      · subst e; exact hv_us
      · exact (hv_un e).trans (h1 j (by omega))) (fun j hj => (hv_un (by omega)).trans (h2 j (by omega)))
    refine ⟨q', ?_, f2, f3⟩
    rw [← f1]
    show sX0_commit_rec4 pm (gl2 (sX0_commit_rec4 pm) n) (nI i) q = _
    unfold sX0_commit_rec4
    rw [q_l4, if_neg (show ¬ nI 4 ≤ nI i by rw [q_le (by omega) (by omega)]; omega), q_l1, nI_add, q_gd (by omega) (by omega), q_gd (by omega) (by omega), q_cl (by omega), hq, hb1, q_gt, q_cl (by omega), q_jl, q_jl]
theorem p_commit4 {pm : Nat → Nat} (hp : ∀ i, i < 5 → pm i < 5) : ∃ pm', fX0_commit (nI 4) pm = some (nI 4, pm') ∧ (∀ i, i < 4 → pm' i = pm (i + 1)) ∧ pm' 4 = pm 0 := by
  obtain ⟨q', f1, f2, f3⟩ := commit_loop (fun i hi => Nat.ble_eq_true_of_le (hp i hi)) 4 0 gFU pm (Nat.zero_add 4) (by unfold gFU; omega) (fun j hj => absurd hj (Nat.not_lt_zero j)) (fun _ _ => rfl)
  refine ⟨q', ?_, f2, f3⟩
  unfold fX0_commit
  rw [q_l1, nI_add, q_jl, q_l4, if_pos (show nI 4 < nI (4 + 1) by decide), q_l0, q_gd (by omega) (by omega)]
  exact f1
def HistR (lnn : Int32) (pm : Nat → Nat) (h0 h1 h2 h3 h4 : HutS) (pt : Nat → Int32) (st : Int32) : Prop := ∃ k, k ≤ 4 ∧ lnn = nI k ∧ st = nI k ∧ (∀ i, i < 5 → pm i < 5) ∧ (∀ i j, i < 5 → j < 5 → pm i = pm j → i = j) ∧ ∀ i, i < k → HR (hsel h0 h1 h2 h3 h4 (pm i)) (fun j => pt (599 * i + j))
/-- a change: prepared and recorded by the class, begun and noted by the reference -/
theorem change {lnn : Int32} {pm : Nat → Nat} {h0 h1 h2 h3 h4 xn : HutS} {pt ss : Nat → Int32} {st : Int32} (bg : Nat → Int32) (hH : HistR lnn pm h0 h1 h2 h3 h4 pt st) (hx : HR xn ss) : ∃ g0 g1 g2 g3 g4 bg1, fX0_prepare lnn pm h0 h1 h2 h3 h4 xn = some (g0, g1, g2, g3, g4) ∧ fX7_begins ss bg = some bg1 ∧ (∀ j, j < 599 → bg1 j = ss j) ∧ HistR lnn pm g0 g1 g2 g3 g4 pt st ∧ (∀ ans x' s', OpR ans x' ss s' → ∃ lnn' pm' ss3 pt' st', fX6_recorded lnn pm ans = some (ans, lnn', pm') ∧ fX7_acted s' bg1 pt st ans = some (ans, ss3, pt', st') ∧ HistR lnn' pm' g0 g1 g2 g3 g4 pt' st' ∧ HR x' ss3) := by
  obtain ⟨k, hk, rfl, rfl, hp, hi, hh⟩ := hH
  obtain ⟨g0, g1, g2, g3, g4, e1, e2, e3⟩ := p_prepare (h0 := h0) (h1 := h1) (h2 := h2) (h3 := h3) (h4 := h4) hk (hp k (by omega)) hx
  obtain ⟨bg1, b1, b2⟩ := m_begins ss bg
  have hg : ∀ i, i < k → HR (hsel g0 g1 g2 g3 g4 (pm i)) (fun j => pt (599 * i + j)) := by
    intro i hik
    rw [e3 (pm i) (hp i (by omega)) (fun q => absurd (hi i k (by omega) (by omega) q) (by omega))]
    exact hh i hik
  refine ⟨g0, g1, g2, g3, g4, bg1, e1, b1, b2, ⟨k, hk, rfl, rfl, hp, hi, hg⟩, fun ans x' s' hO => ?_⟩
  rcases hO with ⟨A, hA, rfl, hx'⟩ | ⟨hneg, hx'⟩
  · have nn : ¬ nI A < 0 := by rw [q_l0, q_lt (by omega) (by omega)]; omega
    obtain ⟨pt', a1, a2, a3⟩ := m_acted (ss := s') (bg := bg1) (pt := pt) (A := A) hk (by omega)
    by_cases c : k = 4
    · subst c
      rw [if_pos rfl] at a1
      have a2' : ∀ j, j < 599 → pt' (599 * 3 + j) = bg1 j := a2
      have a3' : ∀ j, j < 1797 → pt' j = pt (j + 599) := a3
      obtain ⟨pm', c1, c2, c3⟩ := p_commit4 hp
      refine ⟨nI 4, pm', s', pt', nI 4, ?_, a1, ⟨4, by omega, rfl, rfl, fun i hi5 => ?_, fun i j hi5 hj5 e => ?_, fun i hi4 => ?_⟩, hx'⟩
      · unfold fX6_recorded
        rw [if_neg nn, c1, bd2_e]
      · by_cases e : i = 4
        · rw [e, c3]; exact hp 0 (by omega)
        · rw [c2 i (by omega)]; exact hp (i + 1) (by omega)
      · by_cases ei : i = 4
        · by_cases ej : j = 4
          · omega
          · rw [ei, c3, c2 j (by omega)] at e
            have := hi 0 (j + 1) (by omega) (by omega) e
            omega
        · by_cases ej : j = 4
          · rw [ej, c3, c2 i (by omega)] at e
            have := hi (i + 1) 0 (by omega) (by omega) e
            omega
          · rw [c2 i (by omega), c2 j (by omega)] at e
            have := hi (i + 1) (j + 1) (by omega) (by omega) e
            omega
      · rw [c2 i hi4]
        by_cases e : i = 3
        · subst e
          rw [show 3 + 1 = 4 from rfl, e2]
          exact hx.congr (fun j hj => (a2' j hj).trans (b2 j hj))
        · refine (hg (i + 1) (by omega)).congr (fun j hj => ?_)
          show pt' (599 * i + j) = pt (599 * (i + 1) + j)
          rw [a3' (599 * i + j) (by omega), show 599 * i + j + 599 = 599 * (i + 1) + j by omega]
    · rw [if_neg c] at a1
      have a2' : ∀ j, j < 599 → pt' (599 * k + j) = bg1 j := fun j hj => by
        have := a2 j hj
        rw [if_neg c] at this
        exact this
      have a3' : ∀ j, j < 599 * k → pt' j = pt j := fun j hj => by
        have := a3 j (by rw [if_neg c]; exact hj)
        rw [if_neg c] at this
        exact this
      refine ⟨nI (k + 1), pm, s', pt', nI (k + 1), ?_, a1, ⟨k + 1, by omega, rfl, rfl, hp, hi, fun i hi4 => ?_⟩, hx'⟩
      · unfold fX6_recorded
        rw [if_neg nn, p_commit (by omega), bd2_e]
      · by_cases e : i = k
        · subst e
          rw [e2]
          exact hx.congr (fun j hj => (a2' j hj).trans (b2 j hj))
        · refine (hg i (by omega)).congr (fun j hj => ?_)
          have hlt : 599 * i + j < 599 * k := by omega
          exact a3' _ hlt
  · obtain ⟨ss3, r1, r2⟩ := m_returns s' bg1
    have n0 : ¬ (0 : Int32) ≤ ans := Int32.not_le.mpr hneg
    refine ⟨nI k, pm, ss3, pt, nI k, ?_, ?_, ⟨k, hk, rfl, rfl, hp, hi, hg⟩, hx'.congr (fun j hj => (r2 j hj).trans (b2 j hj))⟩
    · unfold fX6_recorded
      rw [if_pos hneg]
    · unfold fX7_acted
      rw [if_neg n0, r1, bd1_e]
theorem rec_neg {lnn : Int32} {pm : Nat → Nat} {ans : Int32} (h : ans < 0) : fX6_recorded lnn pm ans = some (ans, lnn, pm) := by
  unfold fX6_recorded
  rw [if_pos h]
theorem undo_sim {lnn : Int32} {pm : Nat → Nat} {h0 h1 h2 h3 h4 xn : HutS} {pt ss : Nat → Int32} {st : Int32} (hH : HistR lnn pm h0 h1 h2 h3 h4 pt st) (hx : HR xn ss) : ∃ r lnn' xn' ss' st', fX6_undo lnn pm xn h0 h1 h2 h3 h4 = some (r, lnn', xn') ∧ fX7_undo ss pt st = some (r, ss', st') ∧ HistR lnn' pm h0 h1 h2 h3 h4 pt st' ∧ HR xn' ss' := by
  obtain ⟨k, hk, rfl, rfl, hp, hi, hh⟩ := hH
  by_cases c : k = 0
  · subst c
    refine ⟨-2, nI 0, xn, ss, nI 0, ?_, ?_, ⟨0, by omega, rfl, rfl, hp, hi, hh⟩, hx⟩
    · unfold fX6_undo
      rw [q_l0, if_pos rfl]
    · unfold fX7_undo
      rw [q_l0, if_pos rfl]
  · obtain ⟨j, rfl⟩ : ∃ j, k = j + 1 := ⟨k - 1, by omega⟩
    have n0 : ¬ nI (j + 1) = 0 := by rw [q_l0, q_eq (by omega) (by omega)]; omega
    have j5 : pm j < 5 := hp j (by omega)
    have hj := hh j (by omega)
    obtain ⟨ss', u1, u2⟩ := m_undo (ss := ss) (pt := pt) (st := j) (by omega)
    refine ⟨nI j, nI j, hsel h0 h1 h2 h3 h4 (pm j), ss', nI j, ?_, u1, ⟨j, by omega, rfl, rfl, hp, hi, fun i hij => hh i (by omega)⟩, hj.congr u2⟩
    have k1 : ¬ j + 1 < 1 := by omega
    have k2 : ¬ 4 < j + 1 := by omega
    have z : ∀ X, (if pm j = 0 then bd1 (gX1_copyFrom xn h0) fun y => some (nI j, y) else if pm j = 1 then bd1 (gX1_copyFrom xn h1) fun y => some (nI j, y) else if pm j = 2 then bd1 (gX1_copyFrom xn h2) fun y => some (nI j, y) else if pm j = 3 then bd1 (gX1_copyFrom xn h3) fun y => some (nI j, y) else if pm j = 4 then bd1 (gX1_copyFrom xn h4) fun y => some (nI j, y) else none) = X → fX0_takeBack (nI (j + 1)) pm h0 h1 h2 h3 h4 xn = X := by
      intro X e
      rw [← e]
      unfold fX0_takeBack
      simp (disch := omega) only [q_l1, q_l4, q_lt, k1, k2, if_false, q_dec2, q_gd, q_cl, q_jl]
    have hT : fX0_takeBack (nI (j + 1)) pm h0 h1 h2 h3 h4 xn = some (nI j, hsel h0 h1 h2 h3 h4 (pm j)) := by
      refine z _ ?_
      rcases (show pm j = 0 ∨ pm j = 1 ∨ pm j = 2 ∨ pm j = 3 ∨ pm j = 4 by omega) with c | c | c | c | c
      · rw [c] at hj ⊢
        rw [if_pos rfl, show gX1_copyFrom xn h0 = some h0 from hj.copy xn, bd1_e]
        rfl
      · rw [c] at hj ⊢
        rw [if_neg (by omega), if_pos rfl, show gX1_copyFrom xn h1 = some h1 from hj.copy xn, bd1_e]
        rfl
      · rw [c] at hj ⊢
        rw [if_neg (by omega), if_neg (by omega), if_pos rfl, show gX1_copyFrom xn h2 = some h2 from hj.copy xn, bd1_e]
        rfl
      · rw [c] at hj ⊢
        rw [if_neg (by omega), if_neg (by omega), if_neg (by omega), if_pos rfl, show gX1_copyFrom xn h3 = some h3 from hj.copy xn, bd1_e]
        rfl
      · rw [c] at hj ⊢
        rw [if_neg (by omega), if_neg (by omega), if_neg (by omega), if_neg (by omega), if_pos rfl, show gX1_copyFrom xn h4 = some h4 from hj.copy xn, bd1_e]
        rfl
    unfold fX6_undo
    rw [if_neg n0, hT, bd2_e]
