/-! ===== lots that come ===== -/
theorem q_dec {i : Nat} (h : i < 2 ^ 20) : nI (i + 1) + (-1 : Int32) = nI i := by
  have e : nI (i + 1) - nI 1 = nI i := q_subn (by omega) (by omega)
  rw [← e, Int32.sub_eq_add_neg]
  rfl
theorem q_dec1 {i : Nat} (h : i < 2 ^ 20) : nI (i + 1) + -nI 1 = nI i := by
  rw [← q_l1]
  exact q_dec h
theorem m_shift {s : Nat → Int32} {i : Nat} {rc : Int32 → (Nat → Int32) → Option (Nat → Int32)} (hi : i < 19) : ∃ s', gl2 (sX7_comes_rec11 rc (nI (i + 1))) gFU 0 s = rc (nI i) s' ∧ (∀ k, k < 3 → s' (41 + 3 * (i + 1) + k) = s (41 + 3 * i + k)) ∧ (∀ j, (∀ k, k < 3 → j ≠ 41 + 3 * (i + 1) + k) → s' j = s j) := by
  have e1 : nI (i + 1) - nI 1 = nI i := q_subn (by omega) (by omega)
  refine Exists.elim (scat_up (st := sX7_comes_rec11 rc (nI (i + 1))) (out := fun a => rc (nI i) a) (fun k => 41 + 3 * (i + 1) + k) (fun k a => a (41 + 3 * i + k)) 0 3 (fun _ => True) (fun _ _ _ _ _ _ => trivial) (fun rec a _ => ?_) (fun rec k a _ hk _ => ?_) (fun _ _ _ _ h => by omega) (fun i m a v _ _ h => pk_un (by omega)) 3 0 gFU s (Nat.le_refl _) (by omega) (by unfold gFU; omega) trivial) (fun a ⟨g1, _, g2, g3⟩ => ?_)
  · simp (disch := omega) only [sX7_comes_rec11, q_l3, q_le, Nat.le_refl, if_true, q_jl, q_dec]
  · simp (disch := omega) only [sX7_comes_rec11, q_l3, q_le, if_neg (Nat.not_le.mpr hk), q_l1, e1, m_ofLot, bd1_e, q_l41, pk_mul, nI_add, q_gd, q_cl, q_jl]
  · exact ⟨a, g1, fun k hk => g2 k (Nat.zero_le _) hk, fun j hj => g3 j (fun m _ hm => hj m hm)⟩
theorem come_loop {c a x L : Nat} {br : Nat → Int32} (hc : c ≤ 2) (hx : x < 4000) (hL : L ≤ 19) :
    ∀ (K : Nat) (p q : List LT) (n m : Nat) (lk la ll s : Nat → Int32), p.length = K → p.length + q.length = L → K < n → K < m → (∀ t ∈ p, t.2.2 < 4000) → CA lk la ll 0 p → CA lk la ll (p.length + 1) q → CA (fun k => s (41 + 3 * k)) (fun k => s (41 + 3 * k + 1)) (fun k => s (41 + 3 * k + 2)) 0 p → CA (fun k => s (41 + 3 * k)) (fun k => s (41 + 3 * k + 1)) (fun k => s (41 + 3 * k + 2)) (p.length + 1) q → s 2 = nI L →
      ∃ r lk' la' ll' s', gl4 (sX4_addLot_rec5 (nI L) br (nI c) (nI a) (nI x)) n (nI p.length) lk la ll = some (lk', la', ll', nI (L + 1), upd br c (br c + nI a)) ∧ gl2 (sX7_comes_rec3 (nI c) (nI a) (nI x)) m (nI p.length) s = some s' ∧ CA lk' la' ll' 0 r ∧ ML r s' ∧ r.length = L + 1 ∧ (∀ t ∈ r, t = (c, a, x) ∨ t ∈ p ∨ t ∈ q) ∧ s' (14 + c) = s (14 + c) + nI a ∧ (∀ j, j ≠ 2 → j < 41 ∨ 101 ≤ j → j ≠ 14 + c → s' j = s j) ∧ ∀ k, stN k r = stN k p + stN k q + (if c = k then a else 0) := by
  intro K
  -- it is put at its place
  have put : ∀ (p q : List LT) (n m : Nat) (lk la ll s : Nat → Int32), p.length + q.length = L → CA lk la ll 0 p → CA lk la ll (p.length + 1) q → CA (fun k => s (41 + 3 * k)) (fun k => s (41 + 3 * k + 1)) (fun k => s (41 + 3 * k + 2)) 0 p → CA (fun k => s (41 + 3 * k)) (fun k => s (41 + 3 * k + 1)) (fun k => s (41 + 3 * k + 2)) (p.length + 1) q → s 2 = nI L → (p.length = 0 ∨ ∃ y, y < 4000 ∧ y ≤ x ∧ 0 < p.length ∧ ll (p.length - 1) = nI y ∧ s (41 + 3 * (p.length - 1) + 2) = nI y) →
      ∃ r lk' la' ll' s', gl4 (sX4_addLot_rec5 (nI L) br (nI c) (nI a) (nI x)) (n + 1) (nI p.length) lk la ll = some (lk', la', ll', nI (L + 1), upd br c (br c + nI a)) ∧ gl2 (sX7_comes_rec3 (nI c) (nI a) (nI x)) (m + 1) (nI p.length) s = some s' ∧ CA lk' la' ll' 0 r ∧ ML r s' ∧ r.length = L + 1 ∧ (∀ t ∈ r, t = (c, a, x) ∨ t ∈ p ∨ t ∈ q) ∧ s' (14 + c) = s (14 + c) + nI a ∧ (∀ j, j ≠ 2 → j < 41 ∨ 101 ≤ j → j ≠ 14 + c → s' j = s j) ∧ ∀ k, stN k r = stN k p + stN k q + (if c = k then a else 0) := by
    intro p q n m lk la ll s hpq c1 c2 c3 c4 h2 hw
    have hrl : (p ++ (c, a, x) :: q).length = L + 1 := by
      rw [List.length_append]
      show p.length + (q.length + 1) = L + 1
      omega
    have hW : ∀ (f g h : Nat → Int32), CA f g h 0 p → CA f g h (p.length + 1) q → CA (upd f p.length (nI c)) (upd g p.length (nI a)) (upd h p.length (nI x)) 0 (p ++ (c, a, x) :: q) := by
      intro f g h d1 d2
      refine (CA_app p _ 0).mpr ⟨CA_congr p 0 (fun j _ j2 => ⟨pk_un (by omega), pk_un (by omega), pk_un (by omega)⟩) d1, ?_, ?_⟩
      · rw [Nat.zero_add]
        exact ⟨pk_us, pk_us, pk_us⟩
      · rw [Nat.zero_add]
        exact CA_congr q _ (fun j j1 _ => ⟨pk_un (by omega), pk_un (by omega), pk_un (by omega)⟩) d2
    have hM := hW _ _ _ c3 c4
    refine ⟨p ++ (c, a, x) :: q, upd lk p.length (nI c), upd la p.length (nI a), upd ll p.length (nI x), upd (upd (upd (upd (upd s (41 + 3 * p.length) (nI c)) (41 + 3 * p.length + 1) (nI a)) (41 + 3 * p.length + 2) (nI x)) 2 (nI (L + 1))) (14 + c) (s (14 + c) + nI a), ?_, ?_, hW _ _ _ c1 c2, ⟨?_, CA_congr _ 0 (fun j _ _ => ?_) hM⟩, hrl, fun t ht => ?_, pk_us, fun j j1 j2 j3 => ?_, fun k => ?_⟩
    · show sX4_addLot_rec5 (nI L) br (nI c) (nI a) (nI x) _ (nI p.length) lk la ll = _
      rcases hw with w | ⟨y, y1, y2, y3, y4, y5⟩
      · have w' : p.length ≤ 0 := by omega
        simp (disch := omega) only [sX4_addLot_rec5, q_mrg, q_l0, q_le, w', if_true, q_gd, q_cl, q_jl, q_l1, nI_add]
      · have w' : ¬ p.length ≤ 0 := by omega
        simp (disch := omega) only [sX4_addLot_rec5, q_mrg, q_l0, q_le, w', if_false, q_l1, q_subn, q_gd, q_cl, y4, y2, if_true, q_jl, nI_add]
    · show sX7_comes_rec3 (nI c) (nI a) (nI x) _ (nI p.length) s = _
      rcases hw with w | ⟨y, y1, y2, y3, y4, y5⟩
      · have w' : p.length ≤ 0 := by omega
        simp (disch := omega) only [sX7_comes_rec3, q_mrg, q_l0, q_le, w', if_true, q_gd, q_cl, q_jl, q_l1, q_l2, q_l3, q_l14, q_l41, pk_mul, nI_add, pk_un, pk_us, h2]
      · have w' : ¬ p.length ≤ 0 := by omega
        simp (disch := omega) only [sX7_comes_rec3, q_mrg, q_l0, q_le, w', if_false, q_l1, q_subn, m_ofLot, q_l2, bd1_e, y5, y2, if_true, q_gd, q_cl, q_jl, q_l3, q_l14, q_l41, pk_mul, nI_add, pk_un, pk_us, h2]
    · rw [pk_un (by omega), pk_us, hrl]
    · by_cases e : j = p.length
      · subst e
        simp (disch := omega) only [pk_un, pk_us, and_self]
      · simp (disch := omega) only [pk_un, and_self]
    · rcases List.mem_append.mp ht with ht | ht
      · exact Or.inr (Or.inl ht)
      · rcases List.mem_cons.mp ht with ht | ht
        · exact Or.inl ht
        · exact Or.inr (Or.inr ht)
    · rw [pk_un j3, pk_un j1, pk_un (by omega), pk_un (by omega), pk_un (by omega)]
    · have e1 : stN k ((c, a, x) :: q) = (if c = k then a else 0) + stN k q := rfl
      rw [stN_app, e1]
      generalize (if c = k then a else 0) = z1
      omega
  induction K with
  | zero =>
    intro p q n m lk la ll s hK hpq hn hm hb c1 c2 c3 c4 h2
    obtain ⟨n, rfl⟩ := Nat.exists_eq_succ_of_ne_zero (by omega : n ≠ 0)
    obtain ⟨m, rfl⟩ := Nat.exists_eq_succ_of_ne_zero (by omega : m ≠ 0)
    exact put p q n m lk la ll s hpq c1 c2 c3 c4 h2 (Or.inl hK)
  | succ K ih =>
    intro p q n m lk la ll s hK hpq hn hm hb c1 c2 c3 c4 h2
    obtain ⟨n, rfl⟩ := Nat.exists_eq_succ_of_ne_zero (by omega : n ≠ 0)
    obtain ⟨m, rfl⟩ := Nat.exists_eq_succ_of_ne_zero (by omega : m ≠ 0)
    rcases List.eq_nil_or_concat p with rfl | ⟨p, t, rfl⟩
    · exact absurd hK.symm (Nat.succ_ne_zero K)
    · rw [List.concat_eq_append] at *
      have hp1 : (p ++ [t]).length = p.length + 1 := by rw [List.length_append]; rfl
      obtain ⟨k, b, y⟩ := t
      have hy : y < 4000 := hb (k, b, y) (List.mem_append_right _ (List.mem_singleton_self _))
      obtain ⟨d1, ⟨d2, d3, d4⟩, _⟩ := (CA_app p _ 0).mp c1
      obtain ⟨g1, ⟨g2, g3, g4⟩, _⟩ := (CA_app p _ 0).mp c3
      rw [Nat.zero_add] at d2 d3 d4 g2 g3 g4
      have d2' : lk p.length = nI k := d2
      have d3' : la p.length = nI b := d3
      have d4' : ll p.length = nI y := d4
      have g2' : s (41 + 3 * p.length) = nI k := g2
      have g3' : s (41 + 3 * p.length + 1) = nI b := g3
      have g4' : s (41 + 3 * p.length + 2) = nI y := g4
      by_cases hyx : y ≤ x
      · refine Exists.elim (put (p ++ [(k, b, y)]) q n m lk la ll s hpq c1 c2 c3 c4 h2 (Or.inr ⟨y, hy, hyx, by omega, ?_, ?_⟩)) (fun r h => ⟨r, h⟩)
        · rw [hp1]; exact d4'
        · rw [hp1]; exact g4'
      · rw [hp1] at c2 c4 hpq ⊢
        have ngt : ¬ p.length + 1 ≤ 0 := by omega
        obtain ⟨s1, w1, w2, w3⟩ := m_shift (s := s) (rc := gl2 (sX7_comes_rec3 (nI c) (nI a) (nI x)) m) (i := p.length) (by omega)
        have hq : CA (upd lk (p.length + 1) (nI k)) (upd la (p.length + 1) (nI b)) (upd ll (p.length + 1) (nI y)) (p.length + 1) ((k, b, y) :: q) := ⟨⟨pk_us, pk_us, pk_us⟩, CA_congr q _ (fun j j1 _ => ⟨pk_un (by omega), pk_un (by omega), pk_un (by omega)⟩) c2⟩
        have hp0 : CA (upd lk (p.length + 1) (nI k)) (upd la (p.length + 1) (nI b)) (upd ll (p.length + 1) (nI y)) 0 p := CA_congr p _ (fun j _ j2 => ⟨pk_un (by omega), pk_un (by omega), pk_un (by omega)⟩) d1
        have hq2 : CA (fun k => s1 (41 + 3 * k)) (fun k => s1 (41 + 3 * k + 1)) (fun k => s1 (41 + 3 * k + 2)) (p.length + 1) ((k, b, y) :: q) := ⟨⟨(w2 0 (by omega)).trans g2', (w2 1 (by omega)).trans g3', (w2 2 (by omega)).trans g4'⟩, CA_congr q _ (fun j j1 _ => ⟨w3 _ (fun k _ => by omega), w3 _ (fun k _ => by omega), w3 _ (fun k _ => by omega)⟩) c4⟩
        have hp2 : CA (fun k => s1 (41 + 3 * k)) (fun k => s1 (41 + 3 * k + 1)) (fun k => s1 (41 + 3 * k + 2)) 0 p := CA_congr p _ (fun j _ j2 => ⟨w3 _ (fun k _ => by omega), w3 _ (fun k _ => by omega), w3 _ (fun k _ => by omega)⟩) g1
        obtain ⟨r, lk', la', ll', s', f1, f2, f3, f4, f5, f6, f7, f8, f9⟩ := ih p ((k, b, y) :: q) n m _ _ _ s1 (by omega) (by show p.length + (q.length + 1) = L; omega) (by omega) (by omega) (fun t ht => hb t (List.mem_append_left _ ht)) hp0 hq hp2 hq2 ((w3 2 (fun k _ => by omega)).trans h2)
        refine ⟨r, lk', la', ll', s', ?_, ?_, f3, f4, f5, fun t ht => ?_, f7.trans (congrArg (· + nI a) (w3 _ (fun k _ => by omega))), fun j j1 j2 j3 => (f8 j j1 j2 j3).trans (w3 j (fun k _ => by omega)), fun k' => ?_⟩
        · rw [← f1]
          show sX4_addLot_rec5 (nI L) br (nI c) (nI a) (nI x) (gl4 (sX4_addLot_rec5 (nI L) br (nI c) (nI a) (nI x)) n) (nI (p.length + 1)) lk la ll = _
          have e1 : nI (p.length + 1) - nI 1 = nI p.length := q_subn (by omega) (by omega)
          simp (disch := omega) only [sX4_addLot_rec5, q_mrg, q_l0, q_le, ngt, if_false, q_l1, e1, q_gd, q_cl, d2', d3', d4', hyx, q_jl, q_dec1]
        · rw [← f2, ← w1]
          show sX7_comes_rec3 (nI c) (nI a) (nI x) (gl2 (sX7_comes_rec3 (nI c) (nI a) (nI x)) m) (nI (p.length + 1)) s = _
          have e1 : nI (p.length + 1) - nI 1 = nI p.length := q_subn (by omega) (by omega)
          simp (disch := omega) only [sX7_comes_rec3, q_mrg, q_l0, q_le, ngt, if_false, q_l1, e1, m_ofLot, q_l2, bd1_e, g4', hyx]
        · rcases f6 t ht with h | h | h
          · exact Or.inl h
          · exact Or.inr (Or.inl (List.mem_append_left _ h))
          · rcases List.mem_cons.mp h with h | h
            · exact Or.inr (Or.inl (List.mem_append_right _ (by rw [h]; exact List.mem_singleton_self _)))
            · exact Or.inr (Or.inr h)
        · have e1 : stN k' ((k, b, y) :: q) = (if k = k' then b else 0) + stN k' q := rfl
          have e2 : stN k' [(k, b, y)] = (if k = k' then b else 0) + 0 := rfl
          rw [f9 k', stN_app, e1, e2]
          generalize (if k = k' then b else 0) = z1
          generalize (if c = k' then a else 0) = z2
          omega
theorem come_sim {l : List LT} {c a x : Nat} {lk la ll br s : Nat → Int32} (hL : l.length ≤ 19) (hc : c ≤ 2) (ha : 1 ≤ a ∧ a ≤ 999) (hx : x < 4000) (h : LotR l lk la ll s) : ∃ r lk' la' ll' s', fX4_addLot lk la ll (nI l.length) br (nI c) (nI a) (nI x) = some (lk', la', ll', nI (List.length r), upd br c (br c + nI a)) ∧ fX7_comes s (nI c) (nI a) (nI x) = some s' ∧ LotR r lk' la' ll' s' ∧ r.length = l.length + 1 ∧ s' (14 + c) = s (14 + c) + nI a ∧ (∀ j, j ≠ 2 → j < 41 ∨ 101 ≤ j → j ≠ 14 + c → s' j = s j) ∧ (∀ k, stN k r = stN k l + (if c = k then a else 0)) := by
  obtain ⟨hl, hlb, hlz, hcl, hml⟩ := h
  obtain ⟨r, lk', la', ll', s', f1, f2, f3, f4, f5, f6, f7, f8, f9⟩ := come_loop (br := br) (a := a) (x := x) hc hx hL l.length l [] gFU gFU lk la ll s rfl rfl (by unfold gFU; omega) (by unfold gFU; omega) (fun t ht => (hlb t ht).2.2) hcl trivial hml.2 trivial hml.1
  have hr : ∀ t ∈ r, lotB t ∧ t.2.1 ≠ 0 := by
    intro t ht
    rcases f6 t ht with rfl | h | h
    · refine ⟨⟨hc, ha.2, hx⟩, ?_⟩
      show a ≠ 0
      omega
    · exact ⟨hlb t h, hlz t h⟩
    · exact absurd h (List.not_mem_nil)
  refine ⟨r, lk', la', ll', s', ?_, ?_, ⟨by omega, fun t ht => (hr t ht).1, fun t ht => (hr t ht).2, f3, f4⟩, f5, f7, f8, fun k => by rw [f9 k, show stN k ([] : List LT) = 0 from rfl, Nat.add_zero]⟩
  · have n1 : ¬ 20 ≤ l.length := by omega
    have n2 : ¬ c < 0 := by omega
    have n3 : ¬ 3 ≤ c := by omega
    have d10 : (nI 1 = nI 0) = False := by decide
    rw [f5, ← f1]
    unfold fX4_addLot fX4_isKind
    simp (disch := omega) only [q_l20, q_le, n1, if_false, q_l0, q_l3, q_lt, n2, n3, bd1_e, q_l1, d10]
  · rw [← f2]
    unfold fX7_comes
    simp (disch := omega) only [q_l2, q_gd, q_cl, q_jl, hml.1]
