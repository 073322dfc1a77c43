/-! ===== storms are told ===== -/
def cntS (f : Nat → Int32) : Nat → Nat → Nat
  | _, 0 => 0
  | i, k + 1 => (if f i = nI 1 then 1 else 0) + cntS f (i + 1) k
theorem cntS_congr {f g : Nat → Int32} : ∀ (k i : Nat), (∀ j, i ≤ j → j < i + k → f j = g j) → cntS f i k = cntS g i k := by
  intro k
  induction k with
  | zero => intro i _; rfl
  | succ k ih =>
    intro i h
    show (if f i = nI 1 then 1 else 0) + cntS f (i + 1) k = (if g i = nI 1 then 1 else 0) + cntS g (i + 1) k
    rw [h i (Nat.le_refl _) (by omega), ih (i + 1) (fun j a b => h j (by omega) (by omega))]
theorem cntS_le {f : Nat → Int32} : ∀ (k i : Nat), cntS f i k ≤ k := by
  intro k
  induction k with
  | zero => intro i; exact Nat.le_refl _
  | succ k ih =>
    intro i
    have := ih (i + 1)
    show (if f i = nI 1 then 1 else 0) + cntS f (i + 1) k ≤ k + 1
    split <;> omega
theorem m_ahead {s : Nat → Int32} {d : Nat} (hd : d ≤ 396) (h0 : s 0 = nI d) (hz : ∀ j, j < 396 → s (203 + j) = nI 0 ∨ s (203 + j) = nI 1) : fX7_stormsAhead s = some (nI (cntS (fun j => s (203 + j)) d (396 - d))) := by
  have hl : ∀ (k i n v : Nat), i + k = 396 → k < n → gl2 (sX7_stormsAhead_rec3 s) n (nI i) (nI v) = some (nI (v + cntS (fun j => s (203 + j)) i k)) := by
    intro k
    induction k with
    | zero =>
      intro i n v hi hn
      obtain ⟨n, rfl⟩ := Nat.exists_eq_succ_of_ne_zero (Nat.ne_of_gt hn)
      have : i = 396 := hi
      subst this
      show sX7_stormsAhead_rec3 s _ (nI 396) (nI v) = some (nI (v + 0))
      simp (disch := omega) only [sX7_stormsAhead_rec3, q_l396, q_le, Nat.le_refl, if_true, Nat.add_zero]
    | succ k ih =>
      intro i n v hi hn
      obtain ⟨n, rfl⟩ := Nat.exists_eq_succ_of_ne_zero (by omega : n ≠ 0)
      have ngt : ¬ 396 ≤ i := by omega
      show sX7_stormsAhead_rec3 s (gl2 (sX7_stormsAhead_rec3 s) n) (nI i) (nI v) = some (nI (v + ((if s (203 + i) = nI 1 then 1 else 0) + cntS (fun j => s (203 + j)) (i + 1) k)))
      rcases hz i (by omega) with h | h
      · rw [h, if_neg (show ¬ nI 0 = nI 1 by decide), Nat.zero_add, ← ih (i + 1) n v (by omega) (by omega)]
        simp (disch := omega) only [sX7_stormsAhead_rec3, q_l396, q_le, ngt, if_false, q_l203, nI_add, q_gd, q_cl, h, q_jl, q_l1, Nat.add_zero]
      · rw [h, if_pos rfl, ← Nat.add_assoc, ← ih (i + 1) n (v + 1) (by omega) (by omega)]
        simp (disch := omega) only [sX7_stormsAhead_rec3, q_l396, q_le, ngt, if_false, q_l203, nI_add, q_gd, q_cl, h, q_jl, q_l1]
  unfold fX7_stormsAhead
  have := hl (396 - d) d gFU 0 (by omega) (by unfold gFU; omega)
  rw [Nat.zero_add] at this
  simp (disch := omega) only [q_l0, q_gd, q_cl, q_jl, h0, this]
def told (sto : Nat → Int32) (a b : Nat) : Nat → Int32 := fun j => if a ≤ j ∧ j < a + b then nI 1 else sto j
theorem p_tell {sto : Nat → Int32} {a b : Nat} (hab : a + b ≤ 396) (hz : ∀ j, j < 396 → sto j = nI 0 ∨ sto j = nI 1) : ∀ (k i n v : Nat), i + k = 396 → k < n → v ≤ i → gl2 (sX1_tellStorm_rec6 sto (nI a) (nI (a + b))) n (nI i) (nI v) = (if v + cntS (told sto a b) i k ≤ 40 then gl2 (sX1_tellStorm_rec11 (nI (a + b)) (nI (v + cntS (told sto a b) i k))) gFU (nI a) sto else some (-3, sto)) := by
  intro k
  induction k with
  | zero =>
    intro i n v hi hn hv
    obtain ⟨n, rfl⟩ := Nat.exists_eq_succ_of_ne_zero (Nat.ne_of_gt hn)
    have : i = 396 := hi
    subst this
    show sX1_tellStorm_rec6 sto (nI a) (nI (a + b)) _ (nI 396) (nI v) = (if v + 0 ≤ 40 then gl2 (sX1_tellStorm_rec11 (nI (a + b)) (nI (v + 0))) gFU (nI a) sto else some (-3, sto))
    rw [Nat.add_zero]
    by_cases c : v ≤ 40
    · rw [if_pos c]
      simp (disch := omega) only [sX1_tellStorm_rec6, q_l396, q_l40, q_le, Nat.le_refl, c, if_true]
    · rw [if_neg c]
      simp (disch := omega) only [sX1_tellStorm_rec6, q_l396, q_l40, q_le, Nat.le_refl, c, if_true, if_false]
  | succ k ih =>
    intro i n v hi hn hv
    obtain ⟨n, rfl⟩ := Nat.exists_eq_succ_of_ne_zero (by omega : n ≠ 0)
    have ngt : ¬ 396 ≤ i := by omega
    have d10 : (nI 1 = nI 0) = False := by decide
    show sX1_tellStorm_rec6 sto (nI a) (nI (a + b)) (gl2 (sX1_tellStorm_rec6 sto (nI a) (nI (a + b))) n) (nI i) (nI v) = (if v + ((if told sto a b i = nI 1 then 1 else 0) + cntS (told sto a b) (i + 1) k) ≤ 40 then gl2 (sX1_tellStorm_rec11 (nI (a + b)) (nI (v + ((if told sto a b i = nI 1 then 1 else 0) + cntS (told sto a b) (i + 1) k)))) gFU (nI a) sto else some (-3, sto))
    have up : told sto a b i = nI 1 → sX1_tellStorm_rec6 sto (nI a) (nI (a + b)) (gl2 (sX1_tellStorm_rec6 sto (nI a) (nI (a + b))) n) (nI i) (nI v) = gl2 (sX1_tellStorm_rec6 sto (nI a) (nI (a + b))) n (nI (i + 1)) (nI (v + 1)) → sX1_tellStorm_rec6 sto (nI a) (nI (a + b)) (gl2 (sX1_tellStorm_rec6 sto (nI a) (nI (a + b))) n) (nI i) (nI v) = (if v + ((if told sto a b i = nI 1 then 1 else 0) + cntS (told sto a b) (i + 1) k) ≤ 40 then gl2 (sX1_tellStorm_rec11 (nI (a + b)) (nI (v + ((if told sto a b i = nI 1 then 1 else 0) + cntS (told sto a b) (i + 1) k)))) gFU (nI a) sto else some (-3, sto)) := by
      intro h e
      rw [if_pos h, ← Nat.add_assoc, e]
      exact ih (i + 1) n (v + 1) (by omega) (by omega) (by omega)
    have down : ¬ told sto a b i = nI 1 → sX1_tellStorm_rec6 sto (nI a) (nI (a + b)) (gl2 (sX1_tellStorm_rec6 sto (nI a) (nI (a + b))) n) (nI i) (nI v) = gl2 (sX1_tellStorm_rec6 sto (nI a) (nI (a + b))) n (nI (i + 1)) (nI v) → sX1_tellStorm_rec6 sto (nI a) (nI (a + b)) (gl2 (sX1_tellStorm_rec6 sto (nI a) (nI (a + b))) n) (nI i) (nI v) = (if v + ((if told sto a b i = nI 1 then 1 else 0) + cntS (told sto a b) (i + 1) k) ≤ 40 then gl2 (sX1_tellStorm_rec11 (nI (a + b)) (nI (v + ((if told sto a b i = nI 1 then 1 else 0) + cntS (told sto a b) (i + 1) k)))) gFU (nI a) sto else some (-3, sto)) := by
      intro h e
      rw [if_neg h, Nat.zero_add, e]
      exact ih (i + 1) n v (by omega) (by omega) (by omega)
    rcases hz i (by omega) with h | h
    · by_cases c1 : i < a
      · have ht : told sto a b i = nI 0 := by unfold told; rw [if_neg (by omega)]; exact h
        refine down (by rw [ht]; decide) ?_
        simp (disch := omega) only [sX1_tellStorm_rec6, q_l396, q_le, ngt, if_false, q_gd, q_cl, h, q_l0, if_true, q_lt, c1, q_jl, q_l1, nI_add]
      · by_cases c2 : a + b ≤ i
        · have ht : told sto a b i = nI 0 := by unfold told; rw [if_neg (by omega)]; exact h
          refine down (by rw [ht]; decide) ?_
          simp (disch := omega) only [sX1_tellStorm_rec6, q_l396, q_le, ngt, if_false, q_gd, q_cl, h, q_l0, if_true, q_lt, c1, c2, q_jl, q_l1, nI_add]
        · have ht : told sto a b i = nI 1 := by unfold told; rw [if_pos (by omega)]
          refine up ht ?_
          simp (disch := omega) only [sX1_tellStorm_rec6, q_l396, q_le, ngt, if_false, q_gd, q_cl, h, q_l0, if_true, q_lt, c1, c2, q_jl, q_l1, nI_add]
    · have ht : told sto a b i = nI 1 := by
        unfold told
        split
        · rfl
        · exact h
      refine up ht ?_
      simp (disch := omega) only [sX1_tellStorm_rec6, q_l396, q_le, ngt, if_false, q_gd, q_cl, h, q_l0, d10, q_jl, q_l1, nI_add]
theorem storm_sim {sto s : Nat → Int32} {d : Nat} (p1 p2 : Int32) (hd : d ≤ 365) (h0 : s 0 = nI d) (hT : StoR sto s) :
    ∃ ans sto' s', fX1_tellStorm sto (nI d) p1 p2 = some (ans, sto') ∧ fX7_storms s p1 p2 = some (ans, s') ∧ ((ans < 0 ∧ sto' = sto) ∨ (∃ c, c ≤ 40 ∧ ans = nI c ∧ StoR sto' s')) ∧ (∀ j, j < 203 → s' j = s j) := by
  have d10 : (nI 1 = nI 0) = False := by decide
  have nm1 : (-1 : Int32) < 0 := by decide
  have nm3 : (-3 : Int32) < 0 := by decide
  have bad : fX1_tellStorm sto (nI d) p1 p2 = some (-1, sto) → fX7_storms s p1 p2 = some (-1, s) → ∃ ans sto' s', fX1_tellStorm sto (nI d) p1 p2 = some (ans, sto') ∧ fX7_storms s p1 p2 = some (ans, s') ∧ ((ans < 0 ∧ sto' = sto) ∨ (∃ c, c ≤ 40 ∧ ans = nI c ∧ StoR sto' s')) ∧ (∀ j, j < 203 → s' j = s j) := fun a b => ⟨-1, sto, s, a, b, Or.inl ⟨nm1, rfl⟩, fun _ _ => rfl⟩
  rcases m_in p1 (lo := d) (hi := 365) (by omega) (by omega) with ⟨a1, a2⟩ | ⟨a, a1, rfl, a2, a3⟩
  · refine bad ?_ ?_
    · unfold fX1_tellStorm
      rw [if_pos a1]
    · unfold fX7_storms
      simp (disch := omega) only [q_l0, q_l365, q_gd, q_cl, h0, a2, bd1_e, if_true]
  · have k1 : ¬ a < d := by omega
    by_cases ca : a ≤ 365
    · rw [if_pos ca] at a3
      have k2 : ¬ 365 < a := by omega
      rcases m_in p2 (lo := 1) (hi := 30) (by omega) (by omega) with ⟨b1, b2⟩ | ⟨b, b1, rfl, b2, b3⟩
      · refine bad ?_ ?_
        · unfold fX1_tellStorm
          simp (disch := omega) only [q_lt, k1, if_false, q_l365, k2, q_l1, b1, if_true]
        · have q30 : (30 : Int32) = nI 30 := by decide
          unfold fX7_storms
          simp (disch := omega) only [q_l0, q_l1, q30, q_l365, q_gd, q_cl, h0, a3, bd1_e, d10, if_false, b2, if_true]
      · have k3 : ¬ b < 1 := by omega
        have q30 : (30 : Int32) = nI 30 := by decide
        by_cases cb : b ≤ 30
        · rw [if_pos cb] at b3
          -- the reference tells them at once
          obtain ⟨s', g1, g2, g3⟩ : ∃ s', gl2 (sX7_storms_rec8 (nI a) (nI b)) gFU 0 s = (bd1 (fX7_stormsAhead s') fun r12 => if r12 ≤ (40 : Int32) then some (r12, s') else some ((-3 : Int32), s')) ∧ (∀ j, j < 396 → s' (203 + j) = told sto a b j) ∧ (∀ j, j < 203 → s' j = s j) := by
            refine Exists.elim (scat_up (st := sX7_storms_rec8 (nI a) (nI b)) (out := fun s' => bd1 (fX7_stormsAhead s') fun r12 => if r12 ≤ (40 : Int32) then some (r12, s') else some ((-3 : Int32), s')) (fun k => 203 + a + k) (fun _ _ => nI 1) 0 b (fun _ => True) (fun _ _ _ _ _ _ => trivial) (fun rec a _ => ?_) (fun rec i a' _ hi _ => ?_) (fun _ _ _ _ h => by omega) (fun _ _ _ _ _ _ _ => rfl) b 0 gFU s (Nat.le_refl _) (by omega) (by unfold gFU; omega) trivial) (fun z ⟨g1, _, g2, g3⟩ => ?_)
            · simp (disch := omega) only [sX7_storms_rec8, q_le, Nat.le_refl, if_true]
            · simp (disch := omega) only [sX7_storms_rec8, q_le, if_neg (Nat.not_le.mpr hi), q_l203, q_l1, nI_add, q_gd, q_cl, q_jl]
            · refine ⟨z, g1, fun j hj => ?_, fun j hj => g3 j (fun m _ _ => by omega)⟩
              unfold told
              by_cases c : a ≤ j ∧ j < a + b
              · rw [if_pos c]
                have := g2 (j - a) (Nat.zero_le _) (by omega)
                rw [show 203 + a + (j - a) = 203 + j by omega] at this
                exact this
              · rw [if_neg c, g3 (203 + j) (fun m _ _ => by omega)]
                exact (hT j hj).1
          have hz : ∀ j, j < 396 → s' (203 + j) = nI 0 ∨ s' (203 + j) = nI 1 := by
            intro j hj
            rw [g2 j hj]
            unfold told
            split
            · exact Or.inr rfl
            · exact (hT j hj).2.1
          have hA := m_ahead (s := s') (d := d) (by omega) ((g3 0 (by omega)).trans h0) hz
          rw [cntS_congr (g := told sto a b) _ _ (fun j _ j2 => g2 j (by omega))] at hA
          have hcl := cntS_le (f := told sto a b) (396 - d) d
          have hC := p_tell (sto := sto) (a := a) (b := b) (by omega) (fun j hj => (hT j hj).2.1) (396 - d) d gFU 0 (by omega) (by unfold gFU; omega) (Nat.zero_le _)
          rw [Nat.zero_add] at hC
          generalize cntS (told sto a b) d (396 - d) = c at hA hC hcl
          have hM : fX7_storms s (nI a) (nI b) = (if c ≤ 40 then some (nI c, s') else some (-3, s')) := by
            unfold fX7_storms
            by_cases cc : c ≤ 40
            · rw [if_pos cc]
              rw [q_l0] at g1
              simp (disch := omega) only [q_l0, q_l1, q30, q_l365, q_gd, q_cl, h0, a3, bd1_e, d10, if_false, b3, g1, hA, q_l40, q_le, cc, if_true]
            · rw [if_neg cc]
              rw [q_l0] at g1
              simp (disch := omega) only [q_l0, q_l1, q30, q_l365, q_gd, q_cl, h0, a3, bd1_e, d10, if_false, b3, g1, hA, q_l40, q_le, cc]
          have hK : fX1_tellStorm sto (nI d) (nI a) (nI b) = (if c ≤ 40 then gl2 (sX1_tellStorm_rec11 (nI (a + b)) (nI c)) gFU (nI a) sto else some (-3, sto)) := by
            rw [← hC]
            unfold fX1_tellStorm
            simp (disch := omega) only [q_lt, k1, if_false, q_l365, k2, q_l1, k3, q30, q_le, cb, if_true, nI_add, q_jl, q_l0]
          by_cases cc : c ≤ 40
          · rw [if_pos cc] at hM hK
            obtain ⟨sto', w1, w2⟩ : ∃ sto', gl2 (sX1_tellStorm_rec11 (nI (a + b)) (nI c)) gFU (nI a) sto = some (nI c, sto') ∧ (∀ j, sto' j = told sto a b j) := by
              have hn : vp_nar .boolean (1 : Int32) = nI 1 := by decide
              refine Exists.elim (scat_up (st := sX1_tellStorm_rec11 (nI (a + b)) (nI c)) (out := fun z => some (nI c, z)) (fun k => k) (fun _ _ => nI 1) a (a + b) (fun _ => True) (fun _ _ _ _ _ _ => trivial) (fun rec a' _ => ?_) (fun rec i a' _ hi _ => ?_) (fun _ _ _ _ h => h) (fun _ _ _ _ _ _ _ => rfl) b a gFU sto (Nat.le_refl _) rfl (by unfold gFU; omega) trivial) (fun z ⟨g1, _, g2, g3⟩ => ?_)
              · simp (disch := omega) only [sX1_tellStorm_rec11, q_le, Nat.le_refl, if_true]
              · have n1 : ¬ 396 ≤ i := by omega
                have n2 : ¬ a + b ≤ i := by omega
                simp (disch := omega) only [sX1_tellStorm_rec11, hn, q_le, n2, if_false, q_l396, n1, q_gd, q_cl, q_jl]
                simp (disch := omega) only [q_l1, nI_add]
              · refine ⟨z, g1, fun j => ?_⟩
                unfold told
                by_cases w : a ≤ j ∧ j < a + b
                · rw [if_pos w]
                  exact g2 j w.1 w.2
                · rw [if_neg w, g3 j (fun m _ _ => by omega)]
            refine ⟨nI c, sto', s', hK.trans w1, hM, Or.inr ⟨c, cc, rfl, fun k hk => ⟨(g2 k hk).trans (w2 k).symm, ?_, fun k5 => ?_⟩⟩, g3⟩
            · rw [w2 k]
              unfold told
              split
              · exact Or.inr rfl
              · exact (hT k hk).2.1
            · rw [w2 k]
              unfold told
              rw [if_neg (by omega)]
              exact (hT k hk).2.2 k5
          · rw [if_neg cc] at hM hK
            exact ⟨-3, sto, s', hK, hM, Or.inl ⟨nm3, rfl⟩, g3⟩
        · rw [if_neg cb] at b3
          refine bad ?_ ?_
          · unfold fX1_tellStorm
            simp (disch := omega) only [q_lt, k1, if_false, q_l365, k2, q_l1, k3, q30, q_le, cb]
          · unfold fX7_storms
            simp (disch := omega) only [q_l0, q_l1, q30, q_l365, q_gd, q_cl, h0, a3, bd1_e, d10, if_false, b3, if_true]
    · rw [if_neg ca] at a3
      have k2 : 365 < a := by omega
      refine bad ?_ ?_
      · unfold fX1_tellStorm
        simp (disch := omega) only [q_lt, k1, if_false, q_l365, k2, if_true]
      · unfold fX7_storms
        simp (disch := omega) only [q_l0, q_l365, q_gd, q_cl, h0, a3, bd1_e, if_true]
