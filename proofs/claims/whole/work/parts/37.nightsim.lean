/-! ===== one night: both programs ===== -/
theorem q_mif {α β : Type} {c : Prop} [Decidable c] (K : α → β) (a b : α) : mrg K (fun J => if c then J a else J b) = K (if c then a else b) := by
  unfold mrg
  show (if c then K a else K b) = _
  split <;> rfl
theorem q_mif1 {α β : Type} {c : Prop} [Decidable c] (K : α → β) (a b : α) : mrg K (fun J => if c then J a else jl b fun v => J v) = K (if c then a else b) := q_mif K a b
theorem q_some {α β : Type} {c : Prop} [Decidable c] (a b : α) (x : β) : (if c then some (a, x) else some (b, x)) = some (if c then a else b, x) := by
  split <;> rfl
theorem p_night_eq {lk la ll us sp zs zd zn zt zl zc sto sg : Nat → Int32} {lots nm dy hu cn gn cs : Int32} {sv g1 r G S Ra t1 r31 hg r36 r38 lots2 : Int32} {zt1 zt2 zc2 la1 la2 la3 us1 us2 us3 zl2 la4 sp2 lk5 la5 ll5 : Nat → Int32}
    (e1 : fX1_isStorm sto dy = some sv) (e2 : (sv = 0 ∧ fX2_leave zn zt zl nm = some zt1) ∨ (sv ≠ 0 ∧ zt1 = zt)) (e3 : fX2_guests zs zt1 nm = some g1) (e4 : fX2_arrive zs zd zn zt1 zc nm dy sv (sg 0 - g1) = some (r, zt2, zc2)) (e5 : fX2_guests zs zt2 nm = some G) (e6 : fX4_stock lk la lots 0 = some S) (e7 : fX1_rationFor sg G S = some Ra) (e8 : fX4_take lk la lots us 1 G = some (t1, la1, us1)) (e9 : fX4_take lk la1 lots us1 0 (G * Ra + G - t1) = some (r31, la2, us2)) (e10 : (if G * Ra + G - t1 - r31 < G then G * Ra + G - t1 - r31 else G) = hg) (e11 : fX1_gasFor G sv = some r36) (e12 : fX4_take lk la2 lots us2 2 r36 = some (r38, la3, us3)) (e13 : fX2_sleepOnce zt2 zl nm = some zl2) (e14 : fX4_spoil lk la3 ll lots sp dy = some (la4, sp2)) (e15 : fX4_dropEmptyLots lk la4 ll lots = some (lk5, la5, ll5, lots2)) :
    fX1_passNight lk la ll lots us sp zs zd zn zt zl zc nm sto sg dy hu cn gn cs = some (if r = 0 then 0 else if hg = 0 then (if r36 ≤ r38 then 1 else 0) else 0, lk5, la5, ll5, lots2, us3, sp2, zt2, zl2, zc2, dy + 1, hu + hg, (if r36 ≤ r38 then cn else cn + 1), gn + G, (if sg 1 ≤ Ra then cs else cs + 1)) := by
  have i0 : inB (0 : Int32) 4 = true := by decide
  have i1 : inB (1 : Int32) 4 = true := by decide
  have c0 : (0 : Int32).toNatClampNeg = 0 := by decide
  have c1 : (1 : Int32).toNatClampNeg = 1 := by decide
  have g0 : ∀ {α : Type} (x : Option α), gd (inB (0 : Int32) 4) x = x := fun x => by rw [i0]; rfl
  have g1' : ∀ {α : Type} (x : Option α), gd (inB (1 : Int32) 4) x = x := fun x => by rw [i1]; rfl
  unfold fX1_passNight
  rw [e1, bd1_e]
  have hl : ∀ (J : (Nat → Int32) → Option (Int32 × (Nat → Int32) × (Nat → Int32) × (Nat → Int32) × Int32 × (Nat → Int32) × (Nat → Int32) × (Nat → Int32) × (Nat → Int32) × (Nat → Int32) × Int32 × Int32 × Int32 × Int32 × Int32)), (mrg J fun J4 => if sv = 0 then bd1 (fX2_leave zn zt zl nm) fun zt5 => J4 zt5 else J4 zt) = J zt1 := by
    intro J
    unfold mrg
    rcases e2 with ⟨h1, h2⟩ | ⟨h1, h2⟩
    · show (if sv = 0 then bd1 (fX2_leave zn zt zl nm) fun zt5 => J zt5 else J zt) = _
      rw [if_pos h1, h2]
      rfl
    · show (if sv = 0 then bd1 (fX2_leave zn zt zl nm) fun zt5 => J zt5 else J zt) = _
      rw [if_neg h1, h2]
  rw [hl, g0, e3, bd1_e, c0, e4, bd3_e, e5, bd1_e, e6, bd1_e, e7, bd1_e, g1', c1]
  rw [q_mif1, e8, bd3_e, q_jl, e9, bd3_e]
  simp only [q_jl, e10, e11, bd1_e, e12, bd3_e]
  by_cases k1 : r36 ≤ r38
  · simp only [k1, if_true, q_mrg, q_jl, e13, bd1_e, e14, bd2_e, e15, bd4_e]
    by_cases k2 : r = 0
    · simp only [k2, if_true]
    · by_cases k3 : hg = 0
      · simp only [k2, k3, if_true, if_false]
      · simp only [k2, k3, if_false]
  · have d1 : (1 : Int32) = 0 ↔ False := by decide
    simp only [k1, if_false, q_mrg, d1, q_jl, e13, bd1_e, e14, bd2_e, e15, bd4_e]
    by_cases k2 : r = 0
    · simp only [k2, if_true]
    · by_cases k3 : hg = 0
      · simp only [k2, k3, if_true, if_false]
      · simp only [k2, k3, if_false]
def LotR (l : List LT) (lk la ll s : Nat → Int32) : Prop := l.length ≤ 20 ∧ (∀ t ∈ l, lotB t) ∧ (∀ t ∈ l, t.2.1 ≠ 0) ∧ CA lk la ll 0 l ∧ ML l s
def pOK (d : Nat) (zs zd zn zt zl zc : Int32) : Prop :=
  (∃ z dd n, 1 ≤ z ∧ z ≤ 6 ∧ zs = nI z ∧ dd ≤ 365 ∧ zd = nI dd ∧ 1 ≤ n ∧ n ≤ 9 ∧ zn = nI n) ∧ ((zt = nI 0 ∧ zl = nI 0 ∧ zc + nI 1 = nI 0) ∨ (∃ c L, zt = nI 1 ∧ zl = nI L ∧ zc = nI c ∧ c + L = d) ∨ (∃ c L, zt = nI 2 ∧ zl = nI L ∧ zc = nI c ∧ c ≤ d ∧ L ≤ d) ∨ (zt = nI 3 ∧ zl = nI 0 ∧ zc + nI 1 = nI 0))
def ParR (N d : Nat) (zs zd zn zt zl zc s : Nat → Int32) : Prop := N ≤ 17 ∧ s 4 = nI N ∧ (∀ j, j < N → pOK d (zs j) (zd j) (zn j) (zt j) (zl j) (zc j)) ∧ RP N zs zd zn zt zc s ∧ (∀ j, j < N → s (101 + 6 * j + 4) = zl j)
def SetR (sg s : Nat → Int32) : Prop := (∀ k, k ≤ 3 → s (10 + k) = sg k) ∧ ∃ B R Q F, sg 0 = nI B ∧ 1 ≤ B ∧ B ≤ 40 ∧ sg 1 = nI R ∧ 1 ≤ R ∧ R ≤ 3 ∧ sg 2 = nI Q ∧ Q ≤ 9 ∧ sg 3 = nI F ∧ F ≤ 9
def StoR (sto s : Nat → Int32) : Prop := ∀ k, k < 396 → s (203 + k) = sto k ∧ (sto k = nI 0 ∨ sto k = nI 1) ∧ (k = 395 → sto k = nI 0)
def CntR (us sp s : Nat → Int32) : Prop := ∀ k, k ≤ 2 → s (17 + k) = us k ∧ s (20 + k) = sp k
/-- who leaves -/
theorem leave_sim {N d : Nat} {zs zd zn zt zl zc s : Nat → Int32} (h : ParR N d zs zd zn zt zl zc s) : ∃ zt1 s1, fX2_leave zn zt zl (nI N) = some zt1 ∧ fX7_leave s = some s1 ∧ ParR N d zs zd zn zt1 zl zc s1 ∧ (∀ j, (∀ k, k < N → j ≠ 101 + 6 * k + 3) → s1 j = s j) := by
  obtain ⟨hN, h4, hp, hr, hl⟩ := h
  obtain ⟨zt1, a1, a2, a3⟩ := p_leave (zn := zn) (zt := zt) (zl := zl) hN
  obtain ⟨s1, b1, b2, b3⟩ := m_leave h4 hN
  refine ⟨zt1, s1, a1, b1, ⟨hN, (b3 4 (fun k _ => by omega)).trans h4, fun j hj => ?_, fun j hj => ?_, fun j hj => (b3 _ (fun k _ => by omega)).trans (hl j hj)⟩, b3⟩
  · obtain ⟨p1, p2⟩ := hp j hj
    refine ⟨p1, ?_⟩
    rw [a2 j hj]
    have d01 : nI 0 ≠ nI 1 := by decide
    have d21 : nI 2 ≠ nI 1 := by decide
    have d31 : nI 3 ≠ nI 1 := by decide
    rcases p2 with q | ⟨c, L, q1, q2, q3, q4⟩ | ⟨c, L, q1, q2, q3, q4, q5⟩ | q
    · rw [if_neg (fun w => d01 (q.1.symm.trans w.1))]
      exact Or.inl q
    · by_cases w : zt j = nI 1 ∧ zn j ≤ zl j
      · rw [if_pos w]
        exact Or.inr (Or.inr (Or.inl ⟨c, L, rfl, q2, q3, by omega, by omega⟩))
      · rw [if_neg w]
        exact Or.inr (Or.inl ⟨c, L, q1, q2, q3, q4⟩)
    · rw [if_neg (fun w => d21 (q1.symm.trans w.1))]
      exact Or.inr (Or.inr (Or.inl ⟨c, L, q1, q2, q3, q4, q5⟩))
    · rw [if_neg (fun w => d31 (q.1.symm.trans w.1))]
      exact Or.inr (Or.inr (Or.inr q))
  · obtain ⟨r1, r2, r3, r4, r5⟩ := hr j hj
    refine ⟨(b3 _ (fun k _ => by omega)).trans r1, (b3 _ (fun k _ => by omega)).trans r2, (b3 _ (fun k _ => by omega)).trans r3, ?_, (b3 _ (fun k _ => by omega)).trans r5⟩
    rw [b2 j hj, a2 j hj, r4, r3, hl j hj]
