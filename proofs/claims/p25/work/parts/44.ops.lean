/-! ===== loads, cancels ===== -/
theorem m_in (p : Int32) {lo hi : Nat} (hlo : lo < 2 ^ 20) (hhi : hi < 2 ^ 20) : (p < nI lo ∧ fX7_in p (nI lo) (nI hi) = some (nI 0)) ∨ (∃ k, k < 2 ^ 31 ∧ p = nI k ∧ lo ≤ k ∧ fX7_in p (nI lo) (nI hi) = some (if k ≤ hi then nI 1 else nI 0)) := by
  unfold fX7_in
  by_cases h : p < nI lo
  · rw [if_pos h]
    exact Or.inl ⟨h, rfl⟩
  · refine Or.inr ?_
    rw [if_neg h]
    have h0 : ¬ p < 0 := fun q => h (Int32.lt_of_lt_of_le q (by rw [q_l0, q_le (by omega) (by omega)]; exact Nat.zero_le _))
    obtain ⟨k, hk, rfl⟩ := nI_of h0
    rw [q_lt hk (by omega)] at h
    refine ⟨k, hk, rfl, by omega, ?_⟩
    by_cases c : k ≤ hi
    · rw [if_pos c, if_neg (by rw [q_lt (by omega) hk]; omega), q_l1]
    · rw [if_neg c, if_pos (by rw [q_lt (by omega) hk]; omega), q_l0]
theorem load_sim {pl : List LT} {pk pa pd s : Nat → Int32} (p1 p2 p3 : Int32) (h : PalR pl pk pa pd s) :
    ∃ ans pk' pa' pd' pl' s', fX1_putOnPallet pk pa pd (nI pl.length) p1 p2 p3 = some (ans, pk', pa', pd', nI (List.length pl')) ∧ fX7_loads s p1 p2 p3 = some (ans, s') ∧ PalR pl' pk' pa' pd' s' ∧ (∀ j, j ≠ 3 → j < 23 ∨ 41 ≤ j → s' j = s j) ∧ ((0 ≤ ans ∧ ans ≤ nI 6) ∨ (ans < 0 ∧ s' = s)) := by
  have d10 : (nI 1 = nI 0) = False := by decide
  have nm1 : (-1 : Int32) < 0 := by decide
  have nm3 : (-3 : Int32) < 0 := by decide
  obtain ⟨h1, h2, h3, h4, h5⟩ := h
  have bad : fX1_putOnPallet pk pa pd (nI pl.length) p1 p2 p3 = some (-1, pk, pa, pd, nI pl.length) → fX7_loads s p1 p2 p3 = some (-1, s) → ∃ ans pk' pa' pd' pl' s', fX1_putOnPallet pk pa pd (nI pl.length) p1 p2 p3 = some (ans, pk', pa', pd', nI (List.length pl')) ∧ fX7_loads s p1 p2 p3 = some (ans, s') ∧ PalR pl' pk' pa' pd' s' ∧ (∀ j, j ≠ 3 → j < 23 ∨ 41 ≤ j → s' j = s j) ∧ ((0 ≤ ans ∧ ans ≤ nI 6) ∨ (ans < 0 ∧ s' = s)) := fun a b => ⟨-1, pk, pa, pd, pl, s, a, b, ⟨h1, h2, h3, h4, h5⟩, fun _ _ _ => rfl, Or.inr ⟨nm1, rfl⟩⟩
  rcases m_in p1 (lo := 0) (hi := 2) (by omega) (by omega) with ⟨a1, a2⟩ | ⟨k, a1, rfl, a2, a3⟩
  · refine bad ?_ ?_
    · unfold fX1_putOnPallet fX4_isKind
      simp (disch := omega) only [q_l0, a1, if_true, bd1_e]
    · unfold fX7_loads
      simp (disch := omega) only [q_l0, q_l2, a2, bd1_e, if_true]
  · by_cases ck : k ≤ 2
    · rw [if_pos ck] at a3
      have k1 : ¬ k < 0 := by omega
      have k2 : ¬ 3 ≤ k := by omega
      rcases m_in p2 (lo := 1) (hi := 999) (by omega) (by omega) with ⟨b1, b2⟩ | ⟨a, b1, rfl, b2, b3⟩
      · refine bad ?_ ?_
        · unfold fX1_putOnPallet fX4_isKind
          simp (disch := omega) only [q_l0, q_l1, q_l3, q_lt, q_le, k1, k2, if_false, bd1_e, d10, b1, if_true]
        · unfold fX7_loads
          simp (disch := omega) only [q_l0, q_l1, q_l2, q_l999, a3, bd1_e, d10, if_false, b2, if_true]
      · have b4 : ¬ a < 1 := by omega
        by_cases ca : a ≤ 999
        · rw [if_pos ca] at b3
          have b5 : ¬ 999 < a := by omega
          rcases m_in p3 (lo := 0) (hi := 365) (by omega) (by omega) with ⟨c1, c2⟩ | ⟨x, c1, rfl, c2, c3⟩
          · refine bad ?_ ?_
            · unfold fX1_putOnPallet fX4_isKind
              simp (disch := omega) only [q_l0, q_l1, q_l3, q_l999, q_lt, q_le, k1, k2, if_false, bd1_e, d10, b4, b5, c1, if_true]
            · unfold fX7_loads
              simp (disch := omega) only [q_l0, q_l1, q_l2, q_l999, q_l365, a3, bd1_e, d10, if_false, b3, c2, if_true]
          · have c4 : ¬ x < 0 := by omega
            by_cases cx : x ≤ 365
            · rw [if_pos cx] at c3
              by_cases cn : pl.length < 6
              · have cn2 : ¬ pl.length = 6 := by omega
                have hpl : (pl ++ [(k, a, x)]).length = pl.length + 1 := by rw [List.length_append]; rfl
                have hW : ∀ (f g h : Nat → Int32), CA f g h 0 pl → CA (upd f pl.length (nI k)) (upd g pl.length (nI a)) (upd h pl.length (nI x)) 0 (pl ++ [(k, a, x)]) := by
                  intro f g h d1
                  refine (CA_app pl _ 0).mpr ⟨CA_congr pl 0 (fun j _ j2 => ⟨pk_un (by omega), pk_un (by omega), pk_un (by omega)⟩) d1, ?_, trivial⟩
                  rw [Nat.zero_add]
                  exact ⟨pk_us, pk_us, pk_us⟩
                have hM := hW _ _ _ h5
                refine ⟨nI (pl.length + 1), upd pk pl.length (nI k), upd pa pl.length (nI a), upd pd pl.length (nI x), pl ++ [(k, a, x)], upd (upd (upd (upd s (23 + 3 * pl.length) (nI k)) (23 + 3 * pl.length + 1) (nI a)) (23 + 3 * pl.length + 2) (nI x)) 3 (nI (pl.length + 1)), ?_, ?_, ⟨by omega, fun t ht => ?_, hW _ _ _ h3, by rw [pk_us, hpl], CA_congr _ 0 (fun j _ _ => ?_) hM⟩, fun j j1 j2 => ?_, Or.inl ⟨?_, ?_⟩⟩
                · unfold fX1_putOnPallet fX4_isKind fX4_addToPallet
                  rw [hpl]
                  simp (disch := omega) only [q_l0, q_l1, q_l3, q_l6, q_l365, q_l999, q_lt, q_le, k1, k2, if_false, bd1_e, d10, b4, b5, c4, cx, cn, if_true, q_gd, q_cl, q_jl, nI_add, bd4_e]
                · unfold fX7_loads
                  simp (disch := omega) only [q_l0, q_l1, q_l2, q_l3, q_l6, q_l23, q_l999, q_l365, a3, bd1_e, d10, if_false, b3, c3, q_gd, q_cl, h4, q_eq, cn2, q_jl, pk_mul, nI_add, pk_un, pk_us]
                · rcases List.mem_append.mp ht with ht | ht
                  · exact h2 t ht
                  · rw [List.mem_singleton.mp ht]
                    exact ⟨ck, b2, ca, cx⟩
                · by_cases e : j = pl.length
                  · subst e
                    simp (disch := omega) only [pk_un, pk_us, and_self]
                  · simp (disch := omega) only [pk_un, and_self]
                · rw [pk_un j1, pk_un (by omega), pk_un (by omega), pk_un (by omega)]
                · rw [q_l0, q_le (by omega) (by omega)]; omega
                · rw [q_le (by omega) (by omega)]; omega
              · have cn2 : pl.length = 6 := by omega
                refine ⟨-3, pk, pa, pd, pl, s, ?_, ?_, ⟨h1, h2, h3, h4, h5⟩, fun _ _ _ => rfl, Or.inr ⟨nm3, rfl⟩⟩
                · unfold fX1_putOnPallet fX4_isKind
                  have d6 : ¬ 6 < 6 := by omega
                  simp (disch := omega) only [q_l0, q_l1, q_l3, q_l6, q_l365, q_l999, q_lt, k1, k2, if_false, bd1_e, d10, b4, b5, c4, q_le, cx, if_true, cn2, d6]
                · unfold fX7_loads
                  simp (disch := omega) only [q_l0, q_l1, q_l2, q_l3, q_l6, q_l999, q_l365, a3, bd1_e, d10, if_false, b3, c3, q_gd, q_cl, h4, q_eq, cn2, if_true]
            · rw [if_neg cx] at c3
              refine bad ?_ ?_
              · unfold fX1_putOnPallet fX4_isKind
                simp (disch := omega) only [q_l0, q_l1, q_l3, q_l999, q_l365, q_lt, q_le, k1, k2, if_false, bd1_e, d10, b4, b5, c4, cx]
              · unfold fX7_loads
                simp (disch := omega) only [q_l0, q_l1, q_l2, q_l999, q_l365, a3, bd1_e, d10, if_false, b3, c3, if_true]
        · rw [if_neg ca] at b3
          have b5 : 999 < a := by omega
          refine bad ?_ ?_
          · unfold fX1_putOnPallet fX4_isKind
            simp (disch := omega) only [q_l0, q_l1, q_l3, q_l999, q_lt, q_le, k1, k2, if_false, bd1_e, d10, b4, b5, if_true]
          · unfold fX7_loads
            simp (disch := omega) only [q_l0, q_l1, q_l2, q_l999, a3, bd1_e, d10, if_false, b3, if_true]
    · rw [if_neg ck] at a3
      have k1 : ¬ k < 0 := by omega
      have k2 : 3 ≤ k := by omega
      refine bad ?_ ?_
      · unfold fX1_putOnPallet fX4_isKind
        simp (disch := omega) only [q_l0, q_l3, q_lt, q_le, k1, k2, if_false, if_true, bd1_e]
      · unfold fX7_loads
        simp (disch := omega) only [q_l0, q_l2, a3, bd1_e, if_true]
