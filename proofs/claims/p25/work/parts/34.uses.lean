/-! ===== the reference's lots ===== -/
def mf (s : Nat → Int32) (j : Nat) : Nat → Int32 := fun k => s (41 + 3 * k + j)
/-- the reference's lots are the list -/
def ML (l : List LT) (s : Nat → Int32) : Prop := s 2 = nI l.length ∧ CA (fun k => s (41 + 3 * k)) (fun k => s (41 + 3 * k + 1)) (fun k => s (41 + 3 * k + 2)) 0 l
theorem ML_congr {l : List LT} {s s' : Nat → Int32} (hl : l.length ≤ 20) (h2 : s' 2 = s 2) (h : ∀ j, 41 ≤ j → j < 101 → s' j = s j) (hm : ML l s) : ML l s' :=
  ⟨h2.trans hm.1, CA_congr l 0 (fun j _ q => ⟨h _ (by omega) (by omega), h _ (by omega) (by omega), h _ (by omega) (by omega)⟩) hm.2⟩
theorem scat_up {R : Type} {st : (Int32 → (Nat → Int32) → Option R) → Int32 → (Nat → Int32) → Option R} {out : (Nat → Int32) → Option R} (pos : Nat → Nat) (F : Nat → (Nat → Int32) → Int32) (lo N : Nat) (I : (Nat → Int32) → Prop)
    (hI : ∀ a i v, I a → lo ≤ i → i < N → I (upd a (pos i) v)) (hx : ∀ rec a, I a → st rec (nI N) a = out a) (hs : ∀ rec i a, lo ≤ i → i < N → I a → st rec (nI i) a = rec (nI (i + 1)) (upd a (pos i) (F i a)))
    (hinj : ∀ i m, i < N → m < N → i ≠ m → pos i ≠ pos m) (hF : ∀ i m a v, i < N → m < N → i < m → F m (upd a (pos i) v) = F m a) :
    ∀ (k i n : Nat) (a : Nat → Int32), lo ≤ i → i + k = N → k < n → I a → ∃ a', gl2 st n (nI i) a = out a' ∧ I a' ∧ (∀ m, i ≤ m → m < N → a' (pos m) = F m a) ∧ (∀ j, (∀ m, i ≤ m → m < N → j ≠ pos m) → a' j = a j) := by
  intro k
  induction k with
  | zero =>
    intro i n a hlo hi hn ha
    obtain ⟨n, rfl⟩ := Nat.exists_eq_succ_of_ne_zero (Nat.ne_of_gt hn)
    have : i = N := by omega
    subst this
    exact ⟨a, hx _ _ ha, ha, fun m h1 h2 => absurd h2 (by omega), fun _ _ => rfl⟩
  | succ k ih =>
    intro i n a hlo hi hn ha
    obtain ⟨n, rfl⟩ := Nat.exists_eq_succ_of_ne_zero (by omega : n ≠ 0)
    obtain ⟨a', h1, h2, h3, h4⟩ := ih (i + 1) n (upd a (pos i) (F i a)) (by omega) (by omega) (by omega) (hI a i _ ha hlo (by omega))
    refine ⟨a', ?_, h2, fun m hm1 hm2 => ?_, fun j hj => ?_⟩
    · show st (gl2 st n) (nI i) a = _
      rw [hs _ _ _ hlo (by omega) ha]
      exact h1
    · by_cases hm : m = i
      · subst hm
        rw [h4 (pos m) (fun q q1 q2 => hinj m q (by omega) q2 (by omega))]
        exact pk_us
      · rw [h3 m (by omega) hm2, hF i m a _ (by omega) hm2 (by omega)]
    · rw [h4 j (fun m q1 q2 => hj m (by omega) q2)]
      exact pk_un (hj i (Nat.le_refl _) (by omega))
/-- one lot goes, those behind it close up -/
theorem m_removes {s : Nat → Int32} {p q : List LT} {t : LT} (hl : (p ++ t :: q).length ≤ 20) (hm : ML (p ++ t :: q) s) : ∃ s', fX7_removes s (nI p.length) = some s' ∧ ML (p ++ q) s' ∧ (∀ j, j ≠ 2 → j < 41 ∨ 101 ≤ j → s' j = s j) := by
  obtain ⟨h2, hc⟩ := hm
  have el : (p ++ t :: q).length = p.length + q.length + 1 := by
    rw [List.length_append]; rfl
  rw [el] at h2 hl
  unfold fX7_removes
  have e1 : nI (p.length + q.length + 1) - nI 1 = nI (p.length + q.length) := q_subn (by omega) (by omega)
  simp (disch := omega) only [q_l2, q_l1, q_l41, q_l3, q_gd, q_cl, q_jl, h2, e1, pk_mul, nI_add]
  have hq : ∀ a : Nat → Int32, a 2 = nI (p.length + q.length) → ∃ a', gl2 sX7_removes_rec8 gFU 0 a = some a' ∧ (∀ j, j < 41 + 3 * (p.length + q.length) ∨ 101 ≤ j → a' j = a j) := by
    intro a ha
    refine Exists.elim (scat_up (st := sX7_removes_rec8) (out := some) (fun k => 41 + 3 * (p.length + q.length) + k) (fun _ _ => nI 0) 0 3 (fun a => a 2 = nI (p.length + q.length)) (fun a i v ha _ hi => (pk_un (by omega)).trans ha) (fun rec a ha => ?_) (fun rec i a _ hi ha => ?_) (fun i m _ _ h => by omega) (fun i m a v _ _ h => rfl) 3 0 gFU a (Nat.zero_le _) (by omega) (by unfold gFU; omega) ha) (fun a' ⟨g1, _, g2, g3⟩ => ?_)
    · simp (disch := omega) only [sX7_removes_rec8, q_l3, q_le, Nat.le_refl, if_true]
    · simp (disch := omega) only [sX7_removes_rec8, q_l41, q_l3, q_l2, q_l1, q_l0, q_le, if_neg (Nat.not_le.mpr hi), q_gd, q_cl, ha, pk_mul, nI_add, q_jl]
    · exact ⟨a', g1, fun j hj => g3 j (fun m _ hm => by omega)⟩
  refine Exists.elim (scat_up (st := sX7_removes_rec4) (out := fun a => gl2 sX7_removes_rec8 gFU 0 a) (fun k => k) (fun k a => a (k + 3)) (41 + 3 * p.length) (41 + 3 * (p.length + q.length)) (fun a => a 2 = nI (p.length + q.length)) (fun a i v ha hlo hi => (pk_un (by omega)).trans ha) (fun rec a ha => ?_) (fun rec i a hlo hi ha => ?_) (fun _ _ _ _ h => h) (fun i m a v _ _ h => pk_un (by omega)) (3 * q.length) (41 + 3 * p.length) gFU (upd s 2 (nI (p.length + q.length))) (Nat.le_refl _) (by omega) (by unfold gFU; omega) pk_us) (fun a' ⟨g1, ga, g2, g3⟩ => ?_)
  · simp (disch := omega) only [sX7_removes_rec4, q_l2, q_l41, q_l3, q_cl, ha, pk_mul, nI_add, q_le, Nat.le_refl, if_true]
  · simp (disch := omega) only [sX7_removes_rec4, q_l2, q_l41, q_l3, q_l1, q_cl, ha, pk_mul, nI_add, q_le, if_neg (Nat.not_le.mpr hi), q_gd, q_jl]
  · obtain ⟨b, b1, b2⟩ := hq a' ga
    refine ⟨b, g1.trans b1, ⟨?_, ?_⟩, fun j j1 j2 => ?_⟩
    · rw [b2 2 (by omega), ga, List.length_append]
    · obtain ⟨c1, c2⟩ := (CA_app p (t :: q) 0).mp hc
      have hb : ∀ j, 41 ≤ j → j < 41 + 3 * (p.length + q.length) → b j = if j < 41 + 3 * p.length then s j else s (j + 3) := by
        intro j q1 q2
        rw [b2 j (Or.inl q2)]
        split
        · rw [g3 j (fun m m1 m2 => by omega), pk_un (by omega)]
        · rw [g2 j (by omega) q2, pk_un (by omega)]
      refine (CA_app p q 0).mpr ⟨CA_congr p 0 (fun j q1 q2 => ⟨?_, ?_, ?_⟩) c1, CA_congr q _ (fun j q1 q2 => ⟨?_, ?_, ?_⟩) (CA_shift q _ c2.2)⟩
      · show b (41 + 3 * j) = s (41 + 3 * j)
        rw [hb _ (by omega) (by omega), if_pos (by omega)]
      · show b (41 + 3 * j + 1) = s (41 + 3 * j + 1)
        rw [hb _ (by omega) (by omega), if_pos (by omega)]
      · show b (41 + 3 * j + 2) = s (41 + 3 * j + 2)
        rw [hb _ (by omega) (by omega), if_pos (by omega)]
      · show b (41 + 3 * j) = s (41 + 3 * (j + 1))
        rw [hb _ (by omega) (by omega), if_neg (by omega)]
        congr 1
      · show b (41 + 3 * j + 1) = s (41 + 3 * (j + 1) + 1)
        rw [hb _ (by omega) (by omega), if_neg (by omega)]
        congr 1
      · show b (41 + 3 * j + 2) = s (41 + 3 * (j + 1) + 2)
        rw [hb _ (by omega) (by omega), if_neg (by omega)]
        congr 1
    · rw [b2 j (by omega), g3 j (fun m m1 m2 => by omega), pk_un j1]
/-- the first lot of a kind -/
theorem first_loop {s : Nat → Int32} {c N : Nat} (hN : N ≤ 20) (hc : c ≤ 2) (h2 : s 2 = nI N) : ∀ (r : List LT) (i n : Nat), i + r.length = N → r.length < n → (∀ t ∈ r, t.1 ≤ 2 ∧ t.2.1 ≤ 999) → CA (fun k => s (41 + 3 * k)) (fun k => s (41 + 3 * k + 1)) (fun k => s (41 + 3 * k + 2)) i r →
    ∃ m, gl1 (sX7_firstOf_rec1 s (nI c)) n (nI i) = some (nI (i + m)) ∧ ((m = r.length ∧ ∀ t ∈ r, t.1 ≠ c) ∨ ∃ p t q, r = p ++ t :: q ∧ (∀ u ∈ p, u.1 ≠ c) ∧ t.1 = c ∧ m = p.length) := by
  intro r
  induction r with
  | nil =>
    intro i n hi hn hb hc2
    obtain ⟨n, rfl⟩ := Nat.exists_eq_succ_of_ne_zero (Nat.ne_of_gt hn)
    have : i = N := hi
    subst this
    refine ⟨0, ?_, Or.inl ⟨rfl, fun t ht => absurd ht (List.not_mem_nil)⟩⟩
    show sX7_firstOf_rec1 s (nI c) _ (nI i) = _
    simp (disch := omega) only [sX7_firstOf_rec1, q_l2, q_gd, q_cl, h2, q_le, Nat.le_refl, if_true, Nat.add_zero]
  | cons t r ih =>
    intro i n hi hn hb hc2
    obtain ⟨n, rfl⟩ := Nat.exists_eq_succ_of_ne_zero (Nat.ne_of_gt (Nat.lt_of_le_of_lt (Nat.zero_le _) hn))
    obtain ⟨k, a, x⟩ := t
    obtain ⟨⟨e1, e2, e3⟩, hr⟩ := hc2
    have hl : ((k, a, x) :: r).length = r.length + 1 := rfl
    have ngt : ¬ N ≤ i := by omega
    have hk' : k ≤ 2 := (hb (k, a, x) (List.mem_cons_self ..)).1
    have e1' : s (41 + 3 * i) = nI k := e1
    show ∃ m, sX7_firstOf_rec1 s (nI c) (gl1 (sX7_firstOf_rec1 s (nI c)) n) (nI i) = _ ∧ _
    by_cases hkc : k = c
    · refine ⟨0, ?_, Or.inr ⟨[], (k, a, x), r, rfl, fun u hu => absurd hu (List.not_mem_nil), hkc, rfl⟩⟩
      simp (disch := omega) only [sX7_firstOf_rec1, q_l2, q_l0, q_gd, q_cl, h2, q_le, ngt, if_false, m_ofLot, Nat.add_zero, e1', bd1_e, q_eq, hkc, if_true]
    · obtain ⟨m, h1, h3⟩ := ih (i + 1) n (by omega) (by omega) (fun t ht => hb t (List.mem_cons_of_mem _ ht)) hr
      refine ⟨m + 1, ?_, ?_⟩
      · rw [show i + (m + 1) = i + 1 + m by omega, ← h1]
        simp (disch := omega) only [sX7_firstOf_rec1, q_l2, q_l1, q_l0, q_gd, q_cl, h2, q_le, ngt, if_false, m_ofLot, Nat.add_zero, e1', bd1_e, q_eq, hkc, q_jl, nI_add]
      · rcases h3 with ⟨g1, g2⟩ | ⟨p, u, q, g1, g2, g3, g4⟩
        · refine Or.inl ⟨by omega, fun v hv => ?_⟩
          rcases List.mem_cons.mp hv with rfl | hv
          · exact hkc
          · exact g2 v hv
        · refine Or.inr ⟨(k, a, x) :: p, u, q, by rw [g1]; rfl, fun v hv => ?_, g3, by rw [g4]; rfl⟩
          rcases List.mem_cons.mp hv with rfl | hv
          · exact hkc
          · exact g2 v hv
theorem m_firstOf {s : Nat → Int32} {l : List LT} {c : Nat} (hl : l.length ≤ 20) (hc : c ≤ 2) (hb : ∀ t ∈ l, t.1 ≤ 2 ∧ t.2.1 ≤ 999) (hm : ML l s) : ∃ m, fX7_firstOf s (nI c) = some (nI m) ∧ ((m = l.length ∧ ∀ t ∈ l, t.1 ≠ c) ∨ ∃ p t q, l = p ++ t :: q ∧ (∀ u ∈ p, u.1 ≠ c) ∧ t.1 = c ∧ m = p.length) := by
  obtain ⟨m, h1, h2⟩ := first_loop hl hc hm.1 l 0 gFU (Nat.zero_add _) (by unfold gFU; omega) hb hm.2
  rw [Nat.zero_add] at h1
  exact ⟨m, h1, h2⟩

def nzL (t : LT) : Bool := decide (t.2.1 ≠ 0)
theorem nzL_all : ∀ (l : List LT), (∀ t ∈ l, t.2.1 ≠ 0) → l.filter nzL = l := fun l h => List.filter_eq_self.mpr (fun t ht => decide_eq_true (h t ht))
theorem CA_set {f g h : Nat → Int32} {p q : List LT} {k a b x i : Nat} (hc : CA f g h 0 (p ++ (k, a, x) :: q)) (hi : i = p.length) : CA f (upd g i (nI b)) h 0 (p ++ (k, b, x) :: q) := by
  subst hi
  obtain ⟨c1, ⟨c2, c3⟩⟩ := (CA_app p _ 0).mp hc
  refine (CA_app p _ 0).mpr ⟨CA_congr p 0 (fun j _ q2 => ⟨rfl, pk_un (by omega), rfl⟩) c1, ⟨c2.1, ?_, c2.2.2⟩, CA_congr q _ (fun j q1 _ => ⟨rfl, pk_un (by omega), rfl⟩) c3⟩
  rw [Nat.zero_add]
  exact pk_us
theorem ML_set {s : Nat → Int32} {p q : List LT} {k a b x : Nat} (hm : ML (p ++ (k, a, x) :: q) s) : ML (p ++ (k, b, x) :: q) (upd s (41 + 3 * p.length + 1) (nI b)) := by
  obtain ⟨h2, hc⟩ := hm
  refine ⟨?_, ?_⟩
  · rw [pk_un (by omega), h2, List.length_append, List.length_append]; rfl
  · have e : CA (fun k => s (41 + 3 * k)) (upd (fun k => s (41 + 3 * k + 1)) p.length (nI b)) (fun k => s (41 + 3 * k + 2)) 0 (p ++ (k, b, x) :: q) := CA_set hc rfl
    refine CA_congr _ 0 (fun j _ _ => ⟨pk_un (by omega), ?_, pk_un (by omega)⟩) e
    by_cases hj : j = p.length
    · subst hj
      exact pk_us.trans pk_us.symm
    · have e2 : upd (fun k => s (41 + 3 * k + 1)) p.length (nI b) j = s (41 + 3 * j + 1) := pk_un hj
      exact (pk_un (by omega)).trans e2.symm
theorem ML_at {s : Nat → Int32} {p q : List LT} {t : LT} (hm : ML (p ++ t :: q) s) : s (41 + 3 * p.length) = nI t.1 ∧ s (41 + 3 * p.length + 1) = nI t.2.1 ∧ s (41 + 3 * p.length + 2) = nI t.2.2 := by
  obtain ⟨_, h, _⟩ := (CA_app p _ 0).mp hm.2
  rw [Nat.zero_add] at h
  exact h
def lotOK (t : LT) : Prop := t.1 ≤ 2 ∧ t.2.1 ≤ 999
theorem uses_end {s : Nat → Int32} {l : List LT} {c w need m n : Nat} (hc : c ≤ 2) (hl : l.length ≤ 20) (hw : w < 2 ^ 20) (hn : need ≤ w) (hm : ML l s) (h : need = 0 ∨ m = l.length) : gl3 (sX7_uses_rec3 (nI c) (nI w)) (n + 1) (nI m) (nI need) s = some (nI need, upd s (17 + c) (s (17 + c) + nI (w - need))) := by
  show sX7_uses_rec3 (nI c) (nI w) _ (nI m) (nI need) s = _
  rcases h with rfl | rfl
  · simp (disch := omega) only [sX7_uses_rec3, q_mrg, q_l0, q_l17, q_le, Nat.le_refl, if_true, nI_add, q_gd, q_cl, q_jl, q_subn]
  · by_cases h0 : need ≤ 0
    · simp (disch := omega) only [sX7_uses_rec3, q_mrg, q_l0, q_l17, q_le, h0, if_true, nI_add, q_gd, q_cl, q_jl, q_subn]
    · simp (disch := omega) only [sX7_uses_rec3, q_mrg, q_l0, q_l2, q_l17, q_le, h0, if_false, hm.1, Nat.le_refl, if_true, nI_add, q_gd, q_cl, q_jl, q_subn]
theorem uses_loop {c w : Nat} (hc : c ≤ 2) (hw : w < 2 ^ 20) :
    ∀ (K : Nat) (l : List LT) (need m n : Nat) (s : Nat → Int32), l.length ≤ K → K ≤ 20 → K + 1 < n → need ≤ w → (∀ t ∈ l, t.1 ≤ 2 ∧ t.2.1 ≤ 999) → (∀ t ∈ l, t.2.1 ≠ 0) → ML l s → ((m = l.length ∧ ∀ t ∈ l, t.1 ≠ c) ∨ ∃ p t q, l = p ++ t :: q ∧ (∀ u ∈ p, u.1 ≠ c) ∧ t.1 = c ∧ m = p.length) →
      ∃ s', gl3 (sX7_uses_rec3 (nI c) (nI w)) n (nI m) (nI need) s = some (nI (takeL c need l).2, s') ∧ ML ((takeL c need l).1.filter nzL) s' ∧ s' (17 + c) = s (17 + c) + nI (w - (takeL c need l).2) ∧ (∀ j, j ≠ 2 → j < 41 ∨ 101 ≤ j → j ≠ 17 + c → s' j = s j) := by
  intro K
  induction K with
  | zero =>
    intro l need m n s hK hK2 hn hnw hb hz hm hf
    obtain ⟨n, rfl⟩ := Nat.exists_eq_succ_of_ne_zero (by omega : n ≠ 0)
    have hl : l = [] := List.length_eq_zero_iff.mp (by omega)
    subst hl
    rcases hf with ⟨e, _⟩ | ⟨p, t, q, e, _⟩
    · refine ⟨_, uses_end hc (by omega) hw hnw hm (Or.inr e), ML_congr (l := []) (Nat.zero_le _) (pk_un (by omega)) (fun j q1 q2 => pk_un (by omega)) hm, pk_us, fun j _ _ q3 => pk_un q3⟩
    · exact absurd (congrArg List.length e) (by rw [List.length_append]; show 0 ≠ _ + (_ + 1); omega)
  | succ K ih =>
    intro l need m n s hK hK2 hn hnw hb hz hm hf
    obtain ⟨n, rfl⟩ := Nat.exists_eq_succ_of_ne_zero (by omega : n ≠ 0)
    obtain ⟨n, rfl⟩ := Nat.exists_eq_succ_of_ne_zero (by omega : n ≠ 0)
    by_cases h0 : need = 0
    · subst h0
      rw [takeL_zero, nzL_all l hz]
      exact ⟨_, uses_end hc (by omega) hw hnw hm (Or.inl rfl), ML_congr (by omega) (pk_un (by omega)) (fun j q1 q2 => pk_un (by omega)) hm, pk_us, fun j _ _ q3 => pk_un q3⟩
    · rcases hf with ⟨e, hno⟩ | ⟨p, ⟨k, a, x⟩, q, rfl, hno, hk, rfl⟩
      · rw [takeL_none l need hno, nzL_all l hz]
        exact ⟨_, uses_end hc (by omega) hw hnw hm (Or.inr e), ML_congr (by omega) (pk_un (by omega)) (fun j q1 q2 => pk_un (by omega)) hm, pk_us, fun j _ _ q3 => pk_un q3⟩
      · have hk' : k = c := hk
        subst hk'
        have el : (p ++ (k, a, x) :: q).length = p.length + q.length + 1 := by rw [List.length_append]; rfl
        obtain ⟨m1, m2, m3⟩ := ML_at hm
        have m2' : s (41 + 3 * p.length + 1) = nI a := m2
        have ha : a ≤ 999 := (hb (k, a, x) (List.mem_append_right _ (List.mem_cons_self ..))).2
        have ha0 : a ≠ 0 := hz (k, a, x) (List.mem_append_right _ (List.mem_cons_self ..))
        have et : ∀ nd, takeL k nd (p ++ (k, a, x) :: q) = (p ++ (k, a - nd, x) :: (takeL k (nd - a) q).1, (takeL k (nd - a) q).2) := by
          intro nd
          rw [takeL_app p _ nd hno]
          show (p ++ (takeL k nd ((k, a, x) :: q)).1, (takeL k nd ((k, a, x) :: q)).2) = _
          conv => lhs; unfold takeL
          rw [if_pos rfl]
        have hm1 := hm.1
        rw [el] at hm1
        have n1 : ¬ need ≤ 0 := by omega
        have n2 : ¬ p.length + q.length + 1 ≤ p.length := by omega
        show ∃ s', sX7_uses_rec3 (nI k) (nI w) (gl3 (sX7_uses_rec3 (nI k) (nI w)) (n + 1)) (nI p.length) (nI need) s = _ ∧ _
        by_cases hna : need < a
        · have hb2 : ∀ t ∈ p ++ (k, a - need, x) :: q, t.1 ≤ 2 ∧ t.2.1 ≤ 999 := by
            intro t ht
            rcases List.mem_append.mp ht with ht | ht
            · exact hb t (List.mem_append_left _ ht)
            · rcases List.mem_cons.mp ht with rfl | ht
              · exact ⟨hc, by show a - need ≤ 999; omega⟩
              · exact hb t (List.mem_append_right _ (List.mem_cons_of_mem _ ht))
          have hz2 : ∀ t ∈ p ++ (k, a - need, x) :: q, t.2.1 ≠ 0 := by
            intro t ht
            rcases List.mem_append.mp ht with ht | ht
            · exact hz t (List.mem_append_left _ ht)
            · rcases List.mem_cons.mp ht with rfl | ht
              · show a - need ≠ 0; omega
              · exact hz t (List.mem_append_right _ (List.mem_cons_of_mem _ ht))
          have hl2 : (p ++ (k, a - need, x) :: q).length ≤ 20 := by rw [List.length_append]; show p.length + (q.length + 1) ≤ 20; omega
          have hML := ML_set (b := a - need) hm
          obtain ⟨m', f1, -⟩ := m_firstOf hl2 hc hb2 hML
          rw [et need, show need - a = 0 by omega, takeL_zero]
          show ∃ s', _ = some (nI 0, s') ∧ ML ((p ++ (k, a - need, x) :: q).filter nzL) s' ∧ s' (17 + k) = s (17 + k) + nI (w - 0) ∧ _
          rw [nzL_all _ hz2]
          refine ⟨upd (upd s (41 + 3 * p.length + 1) (nI (a - need))) (17 + k) (upd s (41 + 3 * p.length + 1) (nI (a - need)) (17 + k) + nI (w - 0)), ?_, ML_congr hl2 (pk_un (by omega)) (fun j q1 q2 => pk_un (by omega)) hML, by rw [pk_us, pk_un (by omega)], fun j q1 q2 q3 => (pk_un q3).trans (pk_un (by omega))⟩
          rw [← uses_end (m := m') (n := n) hc hl2 hw (Nat.zero_le w) hML (Or.inl rfl)]
          have n3 : need ≤ a := by omega
          have n4 : ¬ a - need = 0 := by omega
          simp (disch := omega) only [sX7_uses_rec3, q_mrg, q_l0, q_l1, q_l2, q_l3, q_l41, q_le, n1, n2, if_false, hm1, q_gd, q_cl, m_ofLot, bd1_e, m2', n3, if_true, pk_mul, nI_add, q_jl, q_subn, pk_us, q_eq, n4, f1, Nat.sub_self]
        · have el2 : (p ++ q).length = p.length + q.length := List.length_append
          have hb2 : ∀ t ∈ p ++ q, t.1 ≤ 2 ∧ t.2.1 ≤ 999 := by
            intro t ht
            rcases List.mem_append.mp ht with ht | ht
            · exact hb t (List.mem_append_left _ ht)
            · exact hb t (List.mem_append_right _ (List.mem_cons_of_mem _ ht))
          have hz2 : ∀ t ∈ p ++ q, t.2.1 ≠ 0 := by
            intro t ht
            rcases List.mem_append.mp ht with ht | ht
            · exact hz t (List.mem_append_left _ ht)
            · exact hz t (List.mem_append_right _ (List.mem_cons_of_mem _ ht))
          have hML := ML_set (b := 0) hm
          obtain ⟨s2, r1, r2, r3⟩ := m_removes (by rw [List.length_append]; show p.length + (q.length + 1) ≤ 20; omega) hML
          obtain ⟨m', f1, f2⟩ := m_firstOf (by omega) hc hb2 r2
          obtain ⟨s', g1, g2, g3, g4⟩ := ih (p ++ q) (need - a) m' (n + 1) s2 (by omega) (by omega) (by omega) (by omega) hb2 hz2 r2 f2
          have e2 := takeL_app p q (need - a) hno
          have e3 : (takeL k need (p ++ (k, a, x) :: q)).2 = (takeL k (need - a) (p ++ q)).2 := by rw [et, e2]
          have e4 : (takeL k need (p ++ (k, a, x) :: q)).1.filter nzL = (takeL k (need - a) (p ++ q)).1.filter nzL := by
            rw [et, e2]
            show (p ++ (k, a - need, x) :: _).filter nzL = (p ++ _).filter nzL
            rw [List.filter_append, List.filter_append, List.filter_cons, if_neg]
            rw [show a - need = 0 by omega]
            exact Bool.false_ne_true
          rw [e3, e4]
          refine ⟨s', ?_, g2, ?_, fun j q1 q2 q3 => ?_⟩
          · rw [← g1]
            have r1' : fX7_removes (upd s (41 + 3 * p.length + 1) (nI (a - a))) (nI p.length) = some s2 := by rw [Nat.sub_self]; exact r1
            by_cases n3 : need ≤ a
            · have n5 : need = a := by omega
              subst n5
              simp (disch := omega) only [sX7_uses_rec3, q_mrg, q_l0, q_l1, q_l2, q_l3, q_l41, q_le, n1, n2, if_false, hm1, q_gd, q_cl, m_ofLot, bd1_e, m2', Nat.le_refl, if_true, pk_mul, nI_add, q_jl, q_subn, pk_us, q_eq, Nat.sub_self, r1, f1]
            · simp (disch := omega) only [sX7_uses_rec3, q_mrg, q_l0, q_l1, q_l2, q_l3, q_l41, q_le, n1, n2, if_false, hm1, q_gd, q_cl, m_ofLot, bd1_e, m2', n3, if_true, pk_mul, nI_add, q_jl, q_subn, pk_us, q_eq, Nat.sub_self, r1, f1]
          · rw [g3, r3 (17 + k) (by omega) (by omega), pk_un (by omega)]
          · rw [g4 j q1 q2 q3, r3 j q1 q2, pk_un (by omega)]
theorem m_uses {s : Nat → Int32} {c w : Nat} {l : List LT} (hl : l.length ≤ 20) (hc : c ≤ 2) (hw : w < 2 ^ 20) (hb : ∀ t ∈ l, t.1 ≤ 2 ∧ t.2.1 ≤ 999) (hz : ∀ t ∈ l, t.2.1 ≠ 0) (hm : ML l s) :
    ∃ s', fX7_uses s (nI c) (nI w) = some (nI (takeL c w l).2, s') ∧ ML ((takeL c w l).1.filter nzL) s' ∧ s' (17 + c) = s (17 + c) + nI (w - (takeL c w l).2) ∧ (∀ j, j ≠ 2 → j < 41 ∨ 101 ≤ j → j ≠ 17 + c → s' j = s j) := by
  obtain ⟨m, f1, f2⟩ := m_firstOf hl hc hb hm
  obtain ⟨s', g1, g2⟩ := uses_loop hc hw l.length l w m gFU s (Nat.le_refl _) hl (by unfold gFU; omega) (Nat.le_refl _) hb hz hm f2
  refine ⟨s', ?_, g2⟩
  unfold fX7_uses
  rw [f1, bd1_e]
  exact g1
