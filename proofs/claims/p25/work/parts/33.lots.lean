/-! ===== lots: lists of (kind, amount, last day) ===== -/
abbrev LT := Nat × Nat × Nat
def CA (f g h : Nat → Int32) : Nat → List LT → Prop
  | _, [] => True
  | i, t :: r => (f i = nI t.1 ∧ g i = nI t.2.1 ∧ h i = nI t.2.2) ∧ CA f g h (i + 1) r
theorem CA_congr {f g h f2 g2 h2 : Nat → Int32} : ∀ (r : List LT) (i : Nat), (∀ j, i ≤ j → j < i + r.length → f2 j = f j ∧ g2 j = g j ∧ h2 j = h j) → CA f g h i r → CA f2 g2 h2 i r := by
  intro r
  induction r with
  | nil => intro i _ _; trivial
  | cons t r ih =>
    intro i hj hc
    obtain ⟨⟨a1, a2, a3⟩, hr⟩ := hc
    have hl : (t :: r).length = r.length + 1 := rfl
    obtain ⟨b1, b2, b3⟩ := hj i (Nat.le_refl _) (by omega)
    exact ⟨⟨b1.trans a1, b2.trans a2, b3.trans a3⟩, ih (i + 1) (fun j q1 q2 => hj j (by omega) (by omega)) hr⟩
theorem CA_app {f g h : Nat → Int32} : ∀ (p q : List LT) (i : Nat), CA f g h i (p ++ q) ↔ CA f g h i p ∧ CA f g h (i + p.length) q := by
  intro p
  induction p with
  | nil => intro q i; exact ⟨fun a => ⟨trivial, a⟩, fun a => a.2⟩
  | cons t p ih =>
    intro q i
    have e : i + (t :: p).length = i + 1 + p.length := by
      show i + (p.length + 1) = _
      omega
    rw [e]
    show (_ ∧ CA f g h (i + 1) (p ++ q)) ↔ (_ ∧ CA f g h (i + 1) p) ∧ _
    rw [ih q (i + 1)]
    exact ⟨fun ⟨a, b, c⟩ => ⟨⟨a, b⟩, c⟩, fun ⟨⟨a, b⟩, c⟩ => ⟨a, b, c⟩⟩
theorem CA_shift {f g h : Nat → Int32} : ∀ (r : List LT) (i : Nat), CA f g h (i + 1) r → CA (fun j => f (j + 1)) (fun j => g (j + 1)) (fun j => h (j + 1)) i r := by
  intro r
  induction r with
  | nil => intro i _; trivial
  | cons t r ih => intro i hc; exact ⟨hc.1, ih (i + 1) hc.2⟩
/-- what is taken: the lots after it, and what is still needed -/
def takeL (c : Nat) : Nat → List LT → List LT × Nat
  | n, [] => ([], n)
  | n, (k, a, x) :: r => if k = c then ((k, a - n, x) :: (takeL c (n - a) r).1, (takeL c (n - a) r).2) else ((k, a, x) :: (takeL c n r).1, (takeL c n r).2)
theorem takeL_le {c : Nat} : ∀ (r : List LT) (n : Nat), (takeL c n r).2 ≤ n := by
  intro r
  induction r with
  | nil => intro n; exact Nat.le_refl _
  | cons t r ih =>
    intro n
    obtain ⟨k, a, x⟩ := t
    unfold takeL
    split
    · exact Nat.le_trans (ih (n - a)) (by omega)
    · exact ih n
theorem takeL_len {c : Nat} : ∀ (r : List LT) (n : Nat), (takeL c n r).1.length = r.length := by
  intro r
  induction r with
  | nil => intro n; rfl
  | cons t r ih =>
    intro n
    obtain ⟨k, a, x⟩ := t
    unfold takeL
    split
    · exact congrArg (· + 1) (ih (n - a))
    · exact congrArg (· + 1) (ih n)
theorem takeL_zero {c : Nat} : ∀ (r : List LT), takeL c 0 r = (r, 0) := by
  intro r
  induction r with
  | nil => rfl
  | cons t r ih =>
    obtain ⟨k, a, x⟩ := t
    unfold takeL
    simp only [Nat.zero_sub, ih, Nat.sub_zero]
    split <;> rfl
theorem takeL_app {c : Nat} : ∀ (p q : List LT) (n : Nat), (∀ t ∈ p, t.1 ≠ c) → takeL c n (p ++ q) = (p ++ (takeL c n q).1, (takeL c n q).2) := by
  intro p
  induction p with
  | nil => intro q n _; rfl
  | cons t p ih =>
    intro q n h
    obtain ⟨k, a, x⟩ := t
    have hk : k ≠ c := h (k, a, x) (List.mem_cons_self ..)
    show takeL c n ((k, a, x) :: (p ++ q)) = _
    conv => lhs; unfold takeL
    rw [if_neg hk, ih q n (fun t ht => h t (List.mem_cons_of_mem _ ht))]
    rfl
theorem takeL_none {c : Nat} (p : List LT) (n : Nat) (h : ∀ t ∈ p, t.1 ≠ c) : takeL c n p = (p, n) := by
  have := takeL_app p [] n h
  rw [List.append_nil] at this
  rw [this]
  show (p ++ [], n) = _
  rw [List.append_nil]
theorem q_subn {a b : Nat} (h : b ≤ a) (_ : a < 2 ^ 31) : nI a - nI b = nI (a - b) := pk_sub h
/-- the class takes -/
theorem take_loop {lk us : Nat → Int32} {ll : Nat → Int32} {N c w : Nat} (hN : N ≤ 20) (hc : c ≤ 2) (hw : w < 2 ^ 20) :
    ∀ (r : List LT) (i need n : Nat) (la : Nat → Int32), i + r.length = N → r.length < n → need ≤ w → (∀ t ∈ r, t.1 ≤ 2 ∧ t.2.1 ≤ 999) → CA lk la ll i r →
      ∃ la', gl3 (sX4_take_rec1 lk (nI N) us (nI c) (nI w)) n (nI i) (nI (w - need)) la = some (nI (w - (takeL c need r).2), la', upd us c (us c + nI (w - (takeL c need r).2))) ∧ CA lk la' ll i (takeL c need r).1 ∧ (∀ j, j < i ∨ N ≤ j → la' j = la j) := by
  intro r
  induction r with
  | nil =>
    intro i need n la hi hn hw2 hb hc2
    obtain ⟨n, rfl⟩ := Nat.exists_eq_succ_of_ne_zero (Nat.ne_of_gt hn)
    have : i = N := hi
    subst this
    refine ⟨la, ?_, trivial, fun _ _ => rfl⟩
    show sX4_take_rec1 lk (nI i) us (nI c) (nI w) _ (nI i) _ la = _
    simp (disch := omega) only [sX4_take_rec1, q_le, Nat.le_refl, if_true, q_gd, q_cl, q_jl]
    rfl
  | cons t r ih =>
    intro i need n la hi hn hw2 hb hc2
    obtain ⟨n, rfl⟩ := Nat.exists_eq_succ_of_ne_zero (Nat.ne_of_gt (Nat.lt_of_le_of_lt (Nat.zero_le _) hn))
    obtain ⟨k, a, x⟩ := t
    obtain ⟨⟨e1, e2, e3⟩, hr⟩ := hc2
    have hl : ((k, a, x) :: r).length = r.length + 1 := rfl
    have hiN : i < N := by omega
    have ngt : ¬ N ≤ i := Nat.not_le.mpr hiN
    obtain ⟨hk, ha⟩ := hb (k, a, x) (List.mem_cons_self ..)
    have hk' : k ≤ 2 := hk
    have ha' : a ≤ 999 := ha
    have e1' : lk i = nI k := e1
    have e2' : la i = nI a := e2
    show ∃ la', sX4_take_rec1 lk (nI N) us (nI c) (nI w) (gl3 (sX4_take_rec1 lk (nI N) us (nI c) (nI w)) n) (nI i) (nI (w - need)) la = _ ∧ _
    by_cases hkc : k = c
    · have et : takeL c need ((k, a, x) :: r) = ((k, a - need, x) :: (takeL c (need - a) r).1, (takeL c (need - a) r).2) := by
        conv => lhs; unfold takeL
        rw [if_pos hkc]
      rw [et]
      have ew : w - (w - need) = need := by omega
      by_cases hna : need ≤ a
      · obtain ⟨la', h1, h2, h3⟩ := ih (i + 1) (need - a) n (upd la i (nI (a - need))) (by omega) (by omega) (by omega) (fun t ht => hb t (List.mem_cons_of_mem _ ht)) (CA_congr r (i + 1) (fun j q1 q2 => ⟨rfl, pk_un (by omega), rfl⟩) hr)
        refine ⟨la', ?_, ⟨⟨e1, ?_, e3⟩, h2⟩, fun j hj => ?_⟩
        · rw [← h1]
          have ev : w - need + need = w - (need - a) := by omega
          simp (disch := omega) only [sX4_take_rec1, q_le, ngt, if_false, q_gd, q_cl, e1', e2', q_eq, hkc, if_true, q_subn, ew, q_jl, q_mrg, hna, nI_add, q_l1, ev]
        · rw [h3 i (Or.inl (by omega)), pk_us]
        · rw [h3 j (by omega), pk_un (by omega)]
      · obtain ⟨la', h1, h2, h3⟩ := ih (i + 1) (need - a) n (upd la i (nI (a - need))) (by omega) (by omega) (by omega) (fun t ht => hb t (List.mem_cons_of_mem _ ht)) (CA_congr r (i + 1) (fun j q1 q2 => ⟨rfl, pk_un (by omega), rfl⟩) hr)
        refine ⟨la', ?_, ⟨⟨e1, ?_, e3⟩, h2⟩, fun j hj => ?_⟩
        · rw [← h1]
          have ev : w - need + a = w - (need - a) := by omega
          have ev2 : a - need = a - a := by omega
          simp (disch := omega) only [sX4_take_rec1, q_le, ngt, if_false, q_gd, q_cl, e1', e2', q_eq, hkc, if_true, q_subn, ew, q_jl, q_mrg, hna, nI_add, q_l1, ev, ev2]
        · rw [h3 i (Or.inl (by omega)), pk_us]
        · rw [h3 j (by omega), pk_un (by omega)]
    · have et : takeL c need ((k, a, x) :: r) = ((k, a, x) :: (takeL c need r).1, (takeL c need r).2) := by
        conv => lhs; unfold takeL
        rw [if_neg hkc]
      rw [et]
      obtain ⟨la', h1, h2, h3⟩ := ih (i + 1) need n la (by omega) (by omega) hw2 (fun t ht => hb t (List.mem_cons_of_mem _ ht)) hr
      refine ⟨la', ?_, ⟨⟨e1, ?_, e3⟩, h2⟩, fun j hj => ?_⟩
      · rw [← h1]
        simp (disch := omega) only [sX4_take_rec1, q_le, ngt, if_false, q_gd, q_cl, e1', q_eq, hkc, q_jl, nI_add, q_l1]
      · rw [h3 i (Or.inl (by omega))]; exact e2
      · exact h3 j (by omega)
theorem p_take {lk la ll us : Nat → Int32} {c w : Nat} {l : List LT} (hN : l.length ≤ 20) (hc : c ≤ 2) (hw : w < 2 ^ 20) (hb : ∀ t ∈ l, t.1 ≤ 2 ∧ t.2.1 ≤ 999) (h : CA lk la ll 0 l) :
    ∃ la', fX4_take lk la (nI l.length) us (nI c) (nI w) = some (nI (w - (takeL c w l).2), la', upd us c (us c + nI (w - (takeL c w l).2))) ∧ CA lk la' ll 0 (takeL c w l).1 := by
  obtain ⟨la', h1, h2, -⟩ := take_loop (us := us) hN hc hw l 0 w gFU la (Nat.zero_add _) (by unfold gFU; omega) (Nat.le_refl _) hb h
  refine ⟨la', ?_, h2⟩
  unfold fX4_take
  rw [Nat.sub_self] at h1
  rw [q_l0]
  exact h1
