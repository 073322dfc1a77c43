/-! ===== one night: both programs ===== -/
theorem q_mif {α β : Type} {c : Prop} [Decidable c] (K : α → β) (a b : α) : mrg K (fun J => if c then J a else J b) = K (if c then a else b) := by
  unfold mrg
  show (if c then K a else K b) = _
  split <;> rfl
theorem q_mif1 {α β : Type} {c : Prop} [Decidable c] (K : α → β) (a b : α) : mrg K (fun J => if c then J a else jl b fun v => J v) = K (if c then a else b) := q_mif K a b
theorem q_some {α β : Type} {c : Prop} [Decidable c] (a b : α) (x : β) : (if c then some (a, x) else some (b, x)) = some (if c then a else b, x) := by
  split <;> rfl
theorem p_night_eq {lk la ll us sp zs zd zn zt zl zc sto sg : Nat → Int32} {lots nm dy hu cn gn cs : Int32} {sv g1 r G S Ra t1 r31 hg r36 r38 lots2 : Int32} {zt1 zt2 zc2 la1 la2 la3 us1 us2 us3 zl2 la4 sp2 lk5 la5 ll5 : Nat → Int32}
    (e1 : fX1_isStorm sto dy = some sv) (e2 : (sv = 0 ∧ fX2_leave zn zt zl nm = some zt1) ∨ (sv ≠ 0 ∧ zt1 = zt)) (e3 : fX2_guests zs zt1 nm = some g1) (e4 : fX2_arrive zs zd zn zt1 zc nm dy sv (sg 0 - g1) = some (r, zt2, zc2)) (e5 : fX2_guests zs zt2 nm = some G) (e6 : fX4_stock lk la lots 0 = some S) (e7 : fX1_rationFor sg G S = some Ra) (e8 : fX4_take lk la lots us 1 G = some (t1, la1, us1)) (e9 : fX4_take lk la1 lots us1 0 (G * Ra + G - t1) = some (r31, la2, us2)) (e10 : (if G * Ra + G - t1 - r31 < G then G * Ra + G - t1 - r31 else G) = hg) (e11 : fX1_gasFor G sv = some r36) (e12 : fX4_take lk la2 lots us2 2 r36 = some (r38, la3, us3)) (e13 : fX2_sleepOnce zt2 zl nm = some zl2) (e14 : fX4_spoil lk la3 ll lots sp dy = some (la4, sp2)) (e15 : fX4_dropEmptyLots lk la4 ll lots = some (lk5, la5, ll5, lots2)) :
    fX1_passNight lk la ll lots us sp zs zd zn zt zl zc nm sto sg dy hu cn gn cs = some (if r = 0 then 0 else if hg = 0 then (if r36 ≤ r38 then 1 else 0) else 0, lk5, la5, ll5, lots2, us3, sp2, zt2, zl2, zc2, dy + 1, hu + hg, (if r36 ≤ r38 then cn else cn + 1), gn + G, (if sg 1 ≤ Ra then cs else cs + 1)) := by
  have i0 : inB (0 : Int32) 4 = true := by decide
  have i1 : inB (1 : Int32) 4 = true := by decide
  have c0 : (0 : Int32).toNatClampNeg = 0 := by decide
  have c1 : (1 : Int32).toNatClampNeg = 1 := by decide
  have g0 : ∀ {α : Type} (x : Option α), gd (inB (0 : Int32) 4) x = x := fun x => by rw [i0]; rfl
  have g1' : ∀ {α : Type} (x : Option α), gd (inB (1 : Int32) 4) x = x := fun x => by rw [i1]; rfl
  unfold fX1_passNight
  rw [e1, bd1_e]
  have hl : ∀ (J : (Nat → Int32) → Option (Int32 × (Nat → Int32) × (Nat → Int32) × (Nat → Int32) × Int32 × (Nat → Int32) × (Nat → Int32) × (Nat → Int32) × (Nat → Int32) × (Nat → Int32) × Int32 × Int32 × Int32 × Int32 × Int32)), (mrg J fun J4 => if sv = 0 then bd1 (fX2_leave zn zt zl nm) fun zt5 => J4 zt5 else J4 zt) = J zt1 := by
    intro J
    unfold mrg
    rcases e2 with ⟨h1, h2⟩ | ⟨h1, h2⟩
    · show (if sv = 0 then bd1 (fX2_leave zn zt zl nm) fun zt5 => J zt5 else J zt) = _
      rw [if_pos h1, h2]
      rfl
    · show (if sv = 0 then bd1 (fX2_leave zn zt zl nm) fun zt5 => J zt5 else J zt) = _
      rw [if_neg h1, h2]
  rw [hl, g0, e3, bd1_e, c0, e4, bd3_e, e5, bd1_e, e6, bd1_e, e7, bd1_e, g1', c1]
  rw [q_mif1, e8, bd3_e, q_jl, e9, bd3_e]
  simp only [q_jl, e10, e11, bd1_e, e12, bd3_e]
  by_cases k1 : r36 ≤ r38
  · simp only [k1, if_true, q_mrg, q_jl, e13, bd1_e, e14, bd2_e, e15, bd4_e]
    by_cases k2 : r = 0
    · simp only [k2, if_true]
    · by_cases k3 : hg = 0
      · simp only [k2, k3, if_true, if_false]
      · simp only [k2, k3, if_false]
  · have d1 : (1 : Int32) = 0 ↔ False := by decide
    simp only [k1, if_false, q_mrg, d1, q_jl, e13, bd1_e, e14, bd2_e, e15, bd4_e]
    by_cases k2 : r = 0
    · simp only [k2, if_true]
    · by_cases k3 : hg = 0
      · simp only [k2, k3, if_true, if_false]
      · simp only [k2, k3, if_false]
def LotR (l : List LT) (lk la ll s : Nat → Int32) : Prop := l.length ≤ 20 ∧ (∀ t ∈ l, lotB t) ∧ (∀ t ∈ l, t.2.1 ≠ 0) ∧ CA lk la ll 0 l ∧ ML l s
def pOK (d : Nat) (zs zd zn zt zl zc : Int32) : Prop :=
  (∃ z dd n, 1 ≤ z ∧ z ≤ 6 ∧ zs = nI z ∧ dd ≤ 365 ∧ zd = nI dd ∧ 1 ≤ n ∧ n ≤ 9 ∧ zn = nI n) ∧ ((zt = nI 0 ∧ zl = nI 0 ∧ zc + nI 1 = nI 0) ∨ (∃ c L, zt = nI 1 ∧ zl = nI L ∧ zc = nI c ∧ c + L = d ∧ c < 374) ∨ (∃ c L, zt = nI 2 ∧ zl = nI L ∧ zc = nI c ∧ c ≤ d ∧ L ≤ d) ∨ (zt = nI 3 ∧ zl = nI 0 ∧ zc + nI 1 = nI 0))
def ParR (N d : Nat) (zs zd zn zt zl zc s : Nat → Int32) : Prop := N ≤ 17 ∧ s 4 = nI N ∧ (∀ j, j < N → pOK d (zs j) (zd j) (zn j) (zt j) (zl j) (zc j)) ∧ RP N zs zd zn zt zc s ∧ (∀ j, j < N → s (101 + 6 * j + 4) = zl j)
def SetR (sg s : Nat → Int32) : Prop := (∀ k, k ≤ 3 → s (10 + k) = sg k) ∧ ∃ B R Q F, sg 0 = nI B ∧ 1 ≤ B ∧ B ≤ 40 ∧ sg 1 = nI R ∧ 1 ≤ R ∧ R ≤ 3 ∧ sg 2 = nI Q ∧ Q ≤ 9 ∧ sg 3 = nI F ∧ F ≤ 9
def StoR (sto s : Nat → Int32) : Prop := ∀ k, k < 396 → s (203 + k) = sto k ∧ (sto k = nI 0 ∨ sto k = nI 1) ∧ (k = 395 → sto k = nI 0)
def CntR (us sp s : Nat → Int32) : Prop := ∀ k, k ≤ 2 → s (17 + k) = us k ∧ s (20 + k) = sp k
/-- who leaves -/
theorem leave_sim {N d : Nat} {zs zd zn zt zl zc s : Nat → Int32} (h : ParR N d zs zd zn zt zl zc s) : ∃ zt1 s1, fX2_leave zn zt zl (nI N) = some zt1 ∧ fX7_leave s = some s1 ∧ ParR N d zs zd zn zt1 zl zc s1 ∧ (∀ j, (∀ k, k < N → j ≠ 101 + 6 * k + 3) → s1 j = s j) ∧ (∀ j, j < N → zt1 j = nI 1 → zl j < zn j) := by
  obtain ⟨hN, h4, hp, hr, hl⟩ := h
  obtain ⟨zt1, a1, a2, a3⟩ := p_leave (zn := zn) (zt := zt) (zl := zl) hN
  obtain ⟨s1, b1, b2, b3⟩ := m_leave h4 hN
  refine ⟨zt1, s1, a1, b1, ⟨hN, (b3 4 (fun k _ => by omega)).trans h4, fun j hj => ?_, fun j hj => ?_, fun j hj => (b3 _ (fun k _ => by omega)).trans (hl j hj)⟩, b3, fun j hj hz => ?_⟩
  · obtain ⟨p1, p2⟩ := hp j hj
    refine ⟨p1, ?_⟩
    rw [a2 j hj]
    have d01 : nI 0 ≠ nI 1 := by decide
    have d21 : nI 2 ≠ nI 1 := by decide
    have d31 : nI 3 ≠ nI 1 := by decide
    rcases p2 with q | ⟨c, L, q1, q2, q3, q4, q6⟩ | ⟨c, L, q1, q2, q3, q4, q5⟩ | q
    · rw [if_neg (fun w => d01 (q.1.symm.trans w.1))]
      exact Or.inl q
    · by_cases w : zt j = nI 1 ∧ zn j ≤ zl j
      · rw [if_pos w]
        exact Or.inr (Or.inr (Or.inl ⟨c, L, rfl, q2, q3, by omega, by omega⟩))
      · rw [if_neg w]
        exact Or.inr (Or.inl ⟨c, L, q1, q2, q3, q4, q6⟩)
    · rw [if_neg (fun w => d21 (q1.symm.trans w.1))]
      exact Or.inr (Or.inr (Or.inl ⟨c, L, q1, q2, q3, q4, q5⟩))
    · rw [if_neg (fun w => d31 (q.1.symm.trans w.1))]
      exact Or.inr (Or.inr (Or.inr q))
  · obtain ⟨r1, r2, r3, r4, r5⟩ := hr j hj
    refine ⟨(b3 _ (fun k _ => by omega)).trans r1, (b3 _ (fun k _ => by omega)).trans r2, (b3 _ (fun k _ => by omega)).trans r3, ?_, (b3 _ (fun k _ => by omega)).trans r5⟩
    rw [b2 j hj, a2 j hj, r4, r3, hl j hj]
  · have d21 : nI 2 ≠ nI 1 := by decide
    rw [a2 j hj] at hz
    by_cases w : zt j = nI 1 ∧ zn j ≤ zl j
    · rw [if_pos w] at hz
      exact absurd hz d21
    · rw [if_neg w] at hz
      exact Int32.not_le.mp (fun q => w ⟨hz, q⟩)
theorem zeroK_B {c d : Nat} {q : List LT} (hq : ∀ t ∈ q, lotB t) : ∀ t ∈ q.map (zeroK c d), lotB t := by
  intro t ht
  obtain ⟨u, hu, rfl⟩ := List.mem_map.mp ht
  have h := hq u hu
  unfold zeroK
  split
  · exact ⟨h.1, Nat.zero_le _, h.2.2⟩
  · exact h
theorem p_ration {sg : Nat → Int32} {R Q G S : Nat} (hR : sg 1 = nI R) (hR2 : R ≤ 3) (hQ : sg 2 = nI Q) (hQ2 : Q ≤ 9) (hG : G ≤ 102) (hS : S < 2 ^ 30) : fX1_rationFor sg (nI G) (nI S) = some (nI (ratN Q G R S)) := by
  have hQG : Q * G ≤ 9 * 102 := Nat.mul_le_mul hQ2 hG
  have hQGR : Q * G * R ≤ 9 * 102 * 3 := Nat.mul_le_mul hQG hR2
  unfold fX1_rationFor ratN
  by_cases c1 : Q * G * R ≤ S
  · simp (disch := omega) only [q_l1, q_l2, q_gd, q_cl, q_jl, hR, hQ, pk_mul, q_le, c1, if_true]
  · simp (disch := omega) only [q_l1, q_l2, q_gd, q_cl, q_jl, hR, hQ, pk_mul, q_le, c1, if_false]
theorem pOK_stat {d : Nat} {zs zd zn zt zl zc : Int32} (h : pOK d zs zd zn zt zl zc) (h0 : zt = nI 0) : zl = nI 0 ∧ zc + nI 1 = nI 0 := by
  have d01 : nI 0 ≠ nI 1 := by decide
  have d02 : nI 0 ≠ nI 2 := by decide
  rcases h.2 with ⟨_, q2, q3⟩ | ⟨c, L, q1, _⟩ | ⟨c, L, q1, _⟩ | ⟨_, q2, q3⟩
  · exact ⟨q2, q3⟩
  · exact absurd (h0.symm.trans q1) d01
  · exact absurd (h0.symm.trans q1) d02
  · exact ⟨q2, q3⟩
theorem arr_sim {N d B : Nat} {zs zd zn zt zl zc s : Nat → Int32} {sv : Int32} (hd : d < 1000) (hB : B ≤ 40) (h : ParR N d zs zd zn zt zl zc s) (h0 : s 0 = nI d) (h10 : s 10 = nI B) (hsv : sv = nI 0 ∨ sv = nI 1) (hst : (if d < 396 ∧ s (203 + d) = nI 1 then nI 1 else nI 0) = sv) :
    ∃ zt2 zc2 s2 r cnt, fX2_arrive zs zd zn zt zc (nI N) (nI d) sv (nI B - sumS zs zt (nI 1) 0 N (nI 0)) = some (r, zt2, zc2) ∧ gl2 sX7_night_rec9 gFU 0 s = gl2 sX7_night_rec9 (gFU - N) (nI N) s2 ∧ ParR N d zs zd zn zt2 zl zc2 s2 ∧ (∀ j, (∀ k, k < N → j ≠ 101 + 6 * k + 3 ∧ j ≠ 101 + 6 * k + 5) → j ≠ 9 → s2 j = s j) ∧ s2 9 = s 9 + nI cnt ∧ cnt ≤ 17 ∧ r = (if cnt = 0 then nI 1 else nI 0) ∧ (374 ≤ d → sv = nI 0 → ∀ j, j < N → zt2 j ≠ nI 0 ∧ (zt2 j = nI 1 → zt j = nI 1)) := by
  obtain ⟨hN, h4, hp, hr, hl⟩ := h
  obtain ⟨zt2, zc2, s2, r, cnt, a1, a2, a3, a4, a5, a6, a7, a8, a9, a10⟩ := arrive_sim (zs := zs) (zd := zd) (zn := zn) (B := B) (sv := sv) hN hd hB (fun j hj => by obtain ⟨⟨z, dd, n, _, q2, q3, _⟩, _⟩ := hp j hj; exact ⟨z, q2, q3⟩) hsv N 0 (nI 1) zt zc s (Nat.zero_add _) hr h4 h0 h10 hst (fun j _ hj hz => (pOK_stat (hp j hj) hz).2) gFU (gFU - N) (by unfold gFU; omega)
  have hrr : r = (if cnt = 0 then nI 1 else nI 0) := by
    by_cases hc : cnt = 0
    · rw [if_pos hc]; exact a7 hc
    · rw [if_neg hc]; exact a8 (by omega)
  refine ⟨zt2, zc2, s2, r, cnt, ?_, ?_, ⟨hN, (a4 4 (fun q _ => by omega) (by omega)).trans h4, fun j hj => ?_, a3, fun j hj => (a4 _ (fun q _ => by omega) (by omega)).trans (hl j hj)⟩, a4, a5, by omega, hrr, fun hd3 hs0 j hj => ?_⟩
  · unfold fX2_arrive
    rw [q_l0, q_l1, a1]
    have : nzB r = true := by
      rw [hrr]
      split <;> decide
    rw [this]
    rfl
  · rw [q_l0, ← a2]
    congr 1
    have : N ≤ gFU := by unfold gFU; omega
    omega
  · obtain ⟨p1, p2⟩ := hp j hj
    refine ⟨p1, ?_⟩
    rcases a9 j (Nat.zero_le _) hj with ⟨e1, e2, _⟩ | ⟨e0, _, ⟨e1, e2⟩ | ⟨e1, e2, e3, _⟩⟩
    · rw [e1, e2]; exact p2
    · obtain ⟨w1, w2⟩ := pOK_stat (hp j hj) e0
      rw [e1, e2]
      exact Or.inr (Or.inr (Or.inr ⟨rfl, w1, w2⟩))
    · obtain ⟨w1, w2⟩ := pOK_stat (hp j hj) e0
      rw [e1, e2]
      obtain ⟨z, dd, nn, _, _, _, y1, y2, _, y3, y4⟩ := p1
      rw [y2, y4, nI_add, q_lt (by omega) (by omega)] at e3
      exact Or.inr (Or.inl ⟨d, 0, rfl, w1, rfl, Nat.add_zero d, by omega⟩)
  · obtain ⟨⟨z, dd, nn, _, _, _, y1, y2, _, y3, y4⟩, p2⟩ := hp j hj
    have d31 : nI 3 ≠ nI 1 := by decide
    have d30 : nI 3 ≠ nI 0 := by decide
    rcases a9 j (Nat.zero_le _) hj with ⟨e1, e2, e3⟩ | ⟨e0, _, ⟨e1, e2⟩ | ⟨e1, e2, e3, _⟩⟩
    · rw [e1]
      refine ⟨?_, fun q => q⟩
      rcases e3 with e3 | e3 | e3
      · exact e3
      · rw [y2, q_lt (by omega) (by omega)] at e3
        omega
      · exact absurd hs0 e3.2
    · rw [e1]
      exact ⟨d30, fun q => absurd q d31⟩
    · rw [y2, y4, nI_add, q_lt (by omega) (by omega)] at e3
      omega
theorem m_night_end {s2 s3 s4 s5 : Nat → Int32} {N G m : Nat} (hN : N ≤ 17) (h4 : s2 4 = nI N) (e1 : fX7_guests s2 = some (nI G)) (e2 : fX7_sups s2 (nI G) = some s3) (e3 : fX7_heats s3 (nI G) = some s4) (e4 : gl2 sX7_night_rec22 gFU 0 (upd s4 7 (s4 7 + nI G)) = some s5) : gl2 sX7_night_rec9 (m + 1) (nI N) s2 = some s5 := by
  show sX7_night_rec9 _ (nI N) s2 = _
  rw [← e4]
  simp (disch := omega) only [sX7_night_rec9, q_l4, q_l7, q_gd, q_cl, h4, q_le, Nat.le_refl, if_true, e1, bd1_e, e2, e3, q_jl]
/-- what both hold, as far as a night reads or writes it -/
def NightR (l : List LT) (N d : Nat) (lk la ll us sp zs zd zn zt zl zc sto sg : Nat → Int32) (hu cn gn cs : Int32) (s : Nat → Int32) : Prop :=
  LotR l lk la ll s ∧ ParR N d zs zd zn zt zl zc s ∧ CntR us sp s ∧ SetR sg s ∧ StoR sto s ∧ s 0 = nI d ∧ s 5 = hu ∧ s 6 = cn ∧ s 7 = gn ∧ s 8 = cs
/-- places that a night leaves alone -/
def nightF (j : Nat) : Prop := j = 1 ∨ j = 3 ∨ (10 ≤ j ∧ j ≤ 16) ∨ (23 ≤ j ∧ j < 41) ∨ 203 ≤ j
theorem night_sim {l : List LT} {N d : Nat} {lk la ll us sp zs zd zn zt zl zc sto sg : Nat → Int32} {hu cn gn cs : Int32} {s : Nat → Int32} (hd : d < 1000) (h : NightR l N d lk la ll us sp zs zd zn zt zl zc sto sg hu cn gn cs s) :
    ∃ ok l' lk' la' ll' us' sp' zt' zl' zc' cn' gn' cs' s' a b c, fX1_passNight lk la ll (nI l.length) us sp zs zd zn zt zl zc (nI N) sto sg (nI d) hu cn gn cs = some (ok, lk', la', ll', nI (List.length l'), us', sp', zt', zl', zc', nI (d + 1), hu + nI a, cn', gn', cs') ∧ fX7_night s = some s' ∧ NightR l' N (d + 1) lk' la' ll' us' sp' zs zd zn zt' zl' zc' sto sg (hu + nI a) cn' gn' cs' s' ∧ a ≤ 102 ∧ s' 6 = s 6 + nI b ∧ b ≤ 1 ∧ s' 9 = s 9 + nI c ∧ c ≤ 17 ∧ ok = (if a = 0 ∧ b = 0 ∧ c = 0 then nI 1 else nI 0) ∧ (∀ j, nightF j → s' j = s j) ∧ (d = 395 → ∀ j, j < N → zt' j ≠ nI 0 ∧ zt' j ≠ nI 1) := by
  obtain ⟨⟨hl, hlb, hlz, hcl, hml⟩, hP, hU, ⟨hSS, B, R, Q, F, hB, hB1, hB2, hR, hR1, hR2, hQ, hQ1, hF, hF1⟩, hT, h0, h5, h6, h7, h8⟩ := h
  have hS10 : s 10 = nI B := (hSS 0 (by omega)).trans hB
  have hS11 : s 11 = nI R := (hSS 1 (by omega)).trans hR
  have hS12 : s 12 = nI Q := (hSS 2 (by omega)).trans hQ
  have hN := hP.1
  -- storm
  have e1 := p_isStorm (sto := sto) hd (fun hk => (hT d hk).2.1)
  have eT : (if d < 396 ∧ s (203 + d) = nI 1 then nI 1 else nI 0) = (if d < 396 ∧ sto d = nI 1 then nI 1 else nI 0) := by
    by_cases hk : d < 396
    · rw [(hT d hk).1]
    · rw [if_neg (fun q => hk q.1), if_neg (fun q => hk q.1)]
  have m1 := m_isStorm (s := s) hd
  rw [eT] at m1
  generalize hsvd : (if d < 396 ∧ sto d = nI 1 then nI 1 else nI 0) = sv at e1 m1 eT
  have hsv : sv = nI 0 ∨ sv = nI 1 := by
    rw [← hsvd]
    split
    · exact Or.inr rfl
    · exact Or.inl rfl
  -- who leaves
  obtain ⟨zt1, s1, e2, hP1, hM1, hF1, hLv⟩ : ∃ zt1 s1, ((sv = 0 ∧ fX2_leave zn zt zl (nI N) = some zt1) ∨ (sv ≠ 0 ∧ zt1 = zt)) ∧ ParR N d zs zd zn zt1 zl zc s1 ∧ fX7_night s = gl2 sX7_night_rec9 gFU 0 s1 ∧ (∀ j, (∀ k, k < N → j ≠ 101 + 6 * k + 3) → s1 j = s j) ∧ (sv = nI 0 → ∀ j, j < N → zt1 j = nI 1 → zl j < zn j) := by
    by_cases hs : sv = nI 0
    · obtain ⟨zt1, s1, a1, a2, a3, a4, a5⟩ := leave_sim hP
      refine ⟨zt1, s1, Or.inl ⟨hs, a1⟩, a3, ?_, a4, fun _ => a5⟩
      unfold fX7_night
      simp (disch := omega) only [q_l0, q_gd, q_cl, h0, m1, bd1_e, hs, if_true, q_mrg, a2]
    · refine ⟨zt, s, Or.inr ⟨hs, rfl⟩, hP, ?_, fun _ _ => rfl, fun q => absurd q hs⟩
      unfold fX7_night
      simp (disch := omega) only [q_l0, q_gd, q_cl, h0, m1, bd1_e, hs, if_false, q_mrg]
  have hst1 : (if d < 396 ∧ s1 (203 + d) = nI 1 then nI 1 else nI 0) = sv := by
    rw [hF1 (203 + d) (fun k _ => by omega)]
    exact eT
  -- who comes
  obtain ⟨zt2, zc2, s2, r, cnt, a1, a2, hP2, a4, a5, a6, a7, a8⟩ := arr_sim hd hB2 hP1 ((hF1 0 (fun k _ => by omega)).trans h0) ((hF1 10 (fun k _ => by omega)).trans hS10) hsv hst1
  have hF2 : ∀ j, j < 101 ∨ 203 ≤ j → j ≠ 9 → s2 j = s j := fun j q1 q2 => (a4 j (fun k _ => by omega) q2).trans (hF1 j (fun k _ => by omega))
  have hP2' := hP2
  obtain ⟨_, h4, hp2, hr2, hl2⟩ := hP2'
  obtain ⟨G, eG, -, hG⟩ := sumS_nat (f := zs) (g := zt2) (c := nI 1) (M := 6) N 0 0 (fun j _ hj => by obtain ⟨⟨z, dd, n, _, q2, q3, _⟩, _⟩ := hp2 j (by omega); exact ⟨z, q2, q3⟩)
  have hG2 : G ≤ 102 := by omega
  have e3 : fX2_guests zs zt1 (nI N) = some (sumS zs zt1 (nI 1) 0 N (nI 0)) := p_guests hN
  have e5 : fX2_guests zs zt2 (nI N) = some (nI G) := by rw [p_guests hN, eG]
  have m5 : fX7_guests s2 = some (nI G) := by rw [m_guests h4 hN, hr2.guests, eG]
  have e4 : fX2_arrive zs zd zn zt1 zc (nI N) (nI d) sv (sg 0 - sumS zs zt1 (nI 1) 0 N (nI 0)) = some (r, zt2, zc2) := by rw [hB]; exact a1
  -- supper
  have hml2 : ML l s2 := ML_congr hl (hF2 2 (by omega) (by omega)) (fun j q1 q2 => hF2 j (by omega) (by omega)) hml
  obtain ⟨s3, w, x1, x2, k1, k2, k3, k4, k5, k6, k7, k8, k9, k10⟩ := m_sups hl hlb hlz hml2 hG2 hQ1 ⟨hR1, hR2⟩ ((hF2 11 (by omega) (by omega)).trans hS11) ((hF2 12 (by omega) (by omega)).trans hS12)
  have hSb := stN_le (c := 0) l (fun t ht => (hlb t ht).2.1)
  have e6 : fX4_stock lk la (nI l.length) 0 = some (nI (stN 0 l)) := by
    rw [q_l0, p_stock hl]
    have := sumS_CA (c := 0) (by omega) l 0 0 (fun t ht => (hlb t ht).1) hcl
    rw [Nat.zero_add] at this
    exact congrArg some this
  have e7 := p_ration (S := stN 0 l) hR hR2 hQ hQ1 hG2 (by omega)
  generalize hRa : ratN Q G R (stN 0 l) = Ra at *
  have hRa3 : Ra ≤ 3 := by
    rw [← hRa]
    unfold ratN
    split <;> omega
  have hRG : Ra * G ≤ 3 * 102 := Nat.mul_le_mul hRa3 hG2
  obtain ⟨la1, t1, t2⟩ := p_take (us := us) (c := 1) (w := G) hl (by omega) (by omega) (lotB2 hlb) hcl
  have hy1 := takeL_le (c := 1) l G
  have hL1len : (takeL 1 G l).1.length = l.length := takeL_len l G
  have hL1B := takeL_B (c := 1) l G hlb
  generalize hL1 : (takeL 1 G l).1 = L1 at *
  generalize hY1 : (takeL 1 G l).2 = y1 at *
  subst k2
  have hw : w ≤ 408 := by omega
  obtain ⟨la2, t3, t4⟩ := p_take (us := upd us 1 (us 1 + nI (G - y1))) (c := 0) (w := w) (hL1len ▸ hl) (by omega) (by omega) (lotB2 hL1B) t2
  obtain ⟨n1, n2⟩ := takeL_nz (c := 0) L1 w
  rw [n1] at k3
  rw [n2] at k5
  rw [← k3] at t3
  have hx2 : x2 ≤ w := by rw [k3]; exact takeL_le L1 w
  have hL2len : (takeL 0 w L1).1.length = l.length := (takeL_len L1 w).trans hL1len
  have hL2B := takeL_B (c := 0) L1 w hL1B
  generalize hL2 : (takeL 0 w L1).1 = L2 at *
  -- gas
  have hg := gasN_le (sv := sv) hG2
  have hlen2 : (L2.filter nzL).length ≤ 20 := Nat.le_trans (List.length_filter_le _ _) (by omega)
  have h30 : s3 0 = nI d := (k10 0 (by omega) (by omega) (by omega) (by omega) (by omega) (by omega)).trans ((hF2 0 (by omega) (by omega)).trans h0)
  have hst3 : (if d < 396 ∧ s3 (203 + d) = nI 1 then nI 1 else nI 0) = sv := by
    rw [k10 (203 + d) (by omega) (by omega) (by omega) (by omega) (by omega) (by omega), hF2 (203 + d) (by omega) (by omega)]
    exact eT
  obtain ⟨s4, g1, g2, g3, g4, g5⟩ := m_heats hlen2 (filter_B hL2B) filter_nz k5 hG2 hd h30 hst3
  obtain ⟨n3, n4⟩ := takeL_nz (c := 2) L2 (gasN G sv)
  rw [n3] at g3 g4
  rw [n4] at g2
  obtain ⟨la3, t5, t6⟩ := p_take (us := upd (upd us 1 (us 1 + nI (G - y1))) 0 (upd us 1 (us 1 + nI (G - y1)) 0 + nI (w - x2))) (c := 2) (w := gasN G sv) (hL2len ▸ hl) (by omega) (by omega) (lotB2 hL2B) t4
  have hy3 := takeL_le (c := 2) L2 (gasN G sv)
  have hL3len : (takeL 2 (gasN G sv) L2).1.length = l.length := (takeL_len L2 _).trans hL2len
  have hL3B := takeL_B (c := 2) L2 (gasN G sv) hL2B
  generalize hL3 : (takeL 2 (gasN G sv) L2).1 = L3 at *
  generalize hY3 : (takeL 2 (gasN G sv) L2).2 = y3 at *
  generalize hgg : gasN G sv = g at *
  -- the night
  have h4' : (upd s4 7 (s4 7 + nI G)) 4 = nI N := by
    rw [pk_un (by omega), g5 4 (by omega) (by omega) (by omega) (by omega), k10 4 (by omega) (by omega) (by omega) (by omega) (by omega) (by omega)]
    exact h4
  have h0' : (upd s4 7 (s4 7 + nI G)) 0 = nI d := by
    rw [pk_un (by omega), g5 0 (by omega) (by omega) (by omega) (by omega)]
    exact h30
  have hlen3 : (L3.filter nzL).length ≤ 20 := Nat.le_trans (List.length_filter_le _ _) (by omega)
  obtain ⟨s5, b1, b2, b3, b4, b5, b6⟩ := m_sleep hlen3 (filter_B hL3B) (ML_congr hlen3 (pk_un (by omega)) (fun j _ _ => pk_un (by omega)) g2) hN h4' (by omega) h0'
  obtain ⟨zl2, z1, z2, z3⟩ := p_sleepOnce (zt := zt2) (zl := zl) hN
  obtain ⟨la4, sp2, u1, u2, u3, u4⟩ := p_spoil (sp := sp) (d := d) (hL3len ▸ hl) (by omega) hL3B t6
  have hZB := zeroK_B (c := 2) (d := d) (zeroK_B (c := 1) (d := d) (zeroK_B (c := 0) (d := d) hL3B))
  have hZlen : (((L3.map (zeroK 0 d)).map (zeroK 1 d)).map (zeroK 2 d)).length = l.length := by
    rw [List.length_map, List.length_map, List.length_map]; exact hL3len
  obtain ⟨lk5, la5, ll5, v1, v2⟩ := p_drop (hZlen ▸ hl) (fun t ht => (hZB t ht).2.1) u2
  rw [zero_all L3 (fun t ht => (hL3B t ht).1)] at v1 v2
  rw [hZlen] at v1
  rw [hL3len] at u1
  rw [hL1len] at t3
  rw [hL2len] at t5
  have hgm : nI G * nI Ra = nI (Ra * G) := by rw [pk_mul, Nat.mul_comm]
  have ew : nI G * nI Ra + nI G - nI (G - y1) = nI w := by
    rw [hgm, nI_add, pk_sub (by omega)]
    congr 1
    omega
  have ey : nI w - nI (w - x2) = nI x2 := by
    rw [pk_sub (by omega)]
    congr 1
    omega
  have e8 : fX4_take lk la (nI l.length) us 1 (nI G) = some (nI (G - y1), la1, upd us 1 (us 1 + nI (G - y1))) := by rw [q_l1]; exact t1
  have e9 : fX4_take lk la1 (nI l.length) (upd us 1 (us 1 + nI (G - y1))) 0 (nI G * nI Ra + nI G - nI (G - y1)) = some (nI (w - x2), la2, upd (upd us 1 (us 1 + nI (G - y1))) 0 (upd us 1 (us 1 + nI (G - y1)) 0 + nI (w - x2))) := by rw [ew, q_l0]; exact t3
  have e10 : (if nI G * nI Ra + nI G - nI (G - y1) - nI (w - x2) < nI G then nI G * nI Ra + nI G - nI (G - y1) - nI (w - x2) else nI G) = nI (if G ≤ x2 then G else x2) := by
    have q : (nI x2 < nI G) = (x2 < G) := q_lt (by omega) (by omega)
    rw [ew, ey]
    by_cases c : G ≤ x2
    · rw [if_pos c, if_neg (fun z => by rw [q] at z; omega)]
    · rw [if_neg c, if_pos (by rw [q]; omega)]
  have e11 : fX1_gasFor (nI G) sv = some (nI g) := by rw [← hgg]; exact p_gas hG2
  have e12 : fX4_take lk la2 (nI l.length) (upd (upd us 1 (us 1 + nI (G - y1))) 0 (upd us 1 (us 1 + nI (G - y1)) 0 + nI (w - x2))) 2 (nI g) = some (nI (g - y3), la3, upd (upd (upd us 1 (us 1 + nI (G - y1))) 0 (upd us 1 (us 1 + nI (G - y1)) 0 + nI (w - x2))) 2 (upd (upd us 1 (us 1 + nI (G - y1))) 0 (upd us 1 (us 1 + nI (G - y1)) 0 + nI (w - x2)) 2 + nI (g - y3))) := by rw [q_l2]; exact t5
  have PN := p_night_eq (hu := hu) (cn := cn) (gn := gn) (cs := cs) e1 e2 e3 e4 e5 e6 e7 e8 e9 e10 e11 e12 z1 u1 v1
  have hd1 : nI d + 1 = nI (d + 1) := by rw [q_l1, nI_add]
  rw [hd1] at PN
  have hF5 : ∀ j, j ≠ 0 → j ≠ 2 → j ≠ 5 → j ≠ 6 → j ≠ 7 → j ≠ 8 → (j < 17 ∨ 22 < j) → (j < 41 ∨ 101 ≤ j) → (∀ k, k < N → j ≠ 101 + 6 * k + 4) → s5 j = s2 j := by
    intro j q0 q2 q5 q6 q7 q8 q9 q10 q11
    rw [b6 j q0 q2 q10 (by omega) q11, pk_un q7, g5 j q2 q10 (by omega) q6, k10 j q2 q10 (by omega) (by omega) q5 q8]
  have hF6 : ∀ j, nightF j → s5 j = s j := by
    intro j hj
    unfold nightF at hj
    rw [hF5 j (by omega) (by omega) (by omega) (by omega) (by omega) (by omega) (by omega) (by omega) (fun k _ => by omega), hF2 j (by omega) (by omega)]
  have hle : (nI g ≤ nI (g - y3)) = (y3 ≤ 0) := by
    rw [q_le (by omega) (by omega)]
    apply propext
    omega
  have hgl : ((L3.filter nzL).filter (fresh d)).length ≤ 20 := Nat.le_trans (List.length_filter_le _ _) hlen3
  refine ⟨_, (L3.filter nzL).filter (fresh d), lk5, la5, ll5, _, sp2, zt2, zl2, zc2, _, _, _, s5, (if G ≤ x2 then G else x2), (if y3 ≤ 0 then 0 else 1), cnt, PN, ?_, ⟨⟨hgl, filter_B (filter_B hL3B), fun t ht => filter_nz t (List.mem_filter.mp ht).1, v2, b2⟩, ⟨hN, ?_, fun j hj => ?_, fun j hj => ?_, fun j hj => ?_⟩, fun k hk => ⟨?_, ?_⟩, ⟨fun k hk => ?_, B, R, Q, F, hB, hB1, hB2, hR, hR1, hR2, hQ, hQ1, hF, by assumption⟩, fun k hk => ?_, b3, ?_, ?_, ?_, ?_⟩, ?_, ?_, ?_, ?_, a6, ?_, hF6, fun hd5 j hj => ?_⟩
  · have eN : gFU - N = (gFU - N - 1) + 1 := by
      have : N < gFU := by unfold gFU; omega
      omega
    rw [hM1, a2, eN]
    exact m_night_end hN h4 m5 k4 g1 b1
  · exact (hF5 4 (by omega) (by omega) (by omega) (by omega) (by omega) (by omega) (by omega) (by omega) (fun k _ => by omega)).trans h4
  · obtain ⟨p1, p2⟩ := hp2 j hj
    refine ⟨p1, ?_⟩
    rw [z2 j hj]
    have d01 : nI 0 ≠ nI 1 := by decide
    have d21 : nI 2 ≠ nI 1 := by decide
    have d31 : nI 3 ≠ nI 1 := by decide
    rcases p2 with q | ⟨c, L, q1, q2, q3, q4, q6⟩ | ⟨c, L, q1, q2, q3, q4, q5⟩ | q
    · rw [if_neg (fun w => d01 (q.1.symm.trans w))]
      exact Or.inl q
    · rw [if_pos q1]
      exact Or.inr (Or.inl ⟨c, L + 1, q1, by rw [q2, nI_add], q3, by omega, q6⟩)
    · rw [if_neg (fun w => d21 (q1.symm.trans w))]
      exact Or.inr (Or.inr (Or.inl ⟨c, L, q1, q2, q3, by omega, by omega⟩))
    · rw [if_neg (fun w => d31 (q.1.symm.trans w))]
      exact Or.inr (Or.inr (Or.inr q))
  · obtain ⟨r1, r2, r3, r4, r5⟩ := hr2 j hj
    refine ⟨?_, ?_, ?_, ?_, ?_⟩
    · exact (hF5 _ (by omega) (by omega) (by omega) (by omega) (by omega) (by omega) (by omega) (by omega) (fun k _ => by omega)).trans r1
    · exact (hF5 _ (by omega) (by omega) (by omega) (by omega) (by omega) (by omega) (by omega) (by omega) (fun k _ => by omega)).trans r2
    · exact (hF5 _ (by omega) (by omega) (by omega) (by omega) (by omega) (by omega) (by omega) (by omega) (fun k _ => by omega)).trans r3
    · exact (hF5 _ (by omega) (by omega) (by omega) (by omega) (by omega) (by omega) (by omega) (by omega) (fun k _ => by omega)).trans r4
    · exact (hF5 _ (by omega) (by omega) (by omega) (by omega) (by omega) (by omega) (by omega) (by omega) (fun k _ => by omega)).trans r5
  · have w3 : (upd s4 7 (s4 7 + nI G)) (101 + 6 * j + 3) = zt2 j := by
      rw [pk_un (by omega), g5 _ (by omega) (by omega) (by omega) (by omega), k10 _ (by omega) (by omega) (by omega) (by omega) (by omega) (by omega)]
      exact (hr2 j hj).2.2.2.1
    have w4 : (upd s4 7 (s4 7 + nI G)) (101 + 6 * j + 4) = zl j := by
      rw [pk_un (by omega), g5 _ (by omega) (by omega) (by omega) (by omega), k10 _ (by omega) (by omega) (by omega) (by omega) (by omega) (by omega)]
      exact hl2 j hj
    rw [b5 j hj, w3, w4, z2 j hj]
  · -- used
    rcases (show k = 0 ∨ k = 1 ∨ k = 2 by omega) with rfl | rfl | rfl
    · have w : s5 17 = s2 17 + nI (w - x2) := by
        rw [b6 17 (by omega) (by omega) (by omega) (by omega) (fun k _ => by omega), pk_un (by omega), g5 17 (by omega) (by omega) (by omega) (by omega), k7]
      show s5 17 = _
      rw [w, pk_un (by omega), pk_us, pk_un (by omega), hF2 17 (by omega) (by omega), (hU 0 (by omega)).1]
    · have w : s5 18 = s2 18 + nI (G - y1) := by
        rw [b6 18 (by omega) (by omega) (by omega) (by omega) (fun k _ => by omega), pk_un (by omega), g5 18 (by omega) (by omega) (by omega) (by omega), k6]
      show s5 18 = _
      rw [w, pk_un (by omega), pk_un (by omega), pk_us, hF2 18 (by omega) (by omega), (hU 1 (by omega)).1]
    · have w : s5 19 = s2 19 + nI (g - y3) := by
        rw [b6 19 (by omega) (by omega) (by omega) (by omega) (fun k _ => by omega), pk_un (by omega), g3, k10 19 (by omega) (by omega) (by omega) (by omega) (by omega) (by omega)]
      show s5 19 = _
      rw [w, pk_us, pk_un (by omega), pk_un (by omega), hF2 19 (by omega) (by omega), (hU 2 (by omega)).1]
  · -- spoilt
    rw [b4 k hk, pk_un (by omega), g5 _ (by omega) (by omega) (by omega) (by omega), k10 _ (by omega) (by omega) (by omega) (by omega) (by omega) (by omega), hF2 _ (by omega) (by omega), (hU k hk).2, u3 k hk, spN_nz]
  · rw [hF6 _ (by unfold nightF; omega)]
    exact hSS k hk
  · obtain ⟨w1, w2⟩ := hT k hk
    exact ⟨(hF6 _ (by unfold nightF; omega)).trans w1, w2⟩
  · rw [b6 5 (by omega) (by omega) (by omega) (by omega) (fun k _ => by omega), pk_un (by omega), g5 5 (by omega) (by omega) (by omega) (by omega), k8, hF2 5 (by omega) (by omega), h5]
  · rw [b6 6 (by omega) (by omega) (by omega) (by omega) (fun k _ => by omega), pk_un (by omega), g4, k10 6 (by omega) (by omega) (by omega) (by omega) (by omega) (by omega), hF2 6 (by omega) (by omega), h6]
    by_cases c : y3 ≤ 0
    · rw [if_pos c, if_pos (by rw [hle]; exact c), q_z]
    · rw [if_neg c, if_neg (fun q => c (by rw [hle] at q; exact q)), q_l1]
  · rw [b6 7 (by omega) (by omega) (by omega) (by omega) (fun k _ => by omega), pk_us, g5 7 (by omega) (by omega) (by omega) (by omega), k10 7 (by omega) (by omega) (by omega) (by omega) (by omega) (by omega), hF2 7 (by omega) (by omega), h7]
  · rw [b6 8 (by omega) (by omega) (by omega) (by omega) (fun k _ => by omega), pk_un (by omega), g5 8 (by omega) (by omega) (by omega) (by omega), k9, hF2 8 (by omega) (by omega), h8]
    have q : (sg 1 ≤ nI Ra) = (R ≤ Ra) := by rw [hR, q_le (by omega) (by omega)]
    by_cases c : R ≤ Ra
    · rw [if_pos c, if_pos (by rw [q]; exact c), q_z]
    · rw [if_neg c, if_neg (fun z => c (by rw [q] at z; exact z)), q_l1]
  · split <;> omega
  · rw [b6 6 (by omega) (by omega) (by omega) (by omega) (fun k _ => by omega), pk_un (by omega), g4, k10 6 (by omega) (by omega) (by omega) (by omega) (by omega) (by omega), hF2 6 (by omega) (by omega)]
  · split <;> omega
  · rw [hF5 9 (by omega) (by omega) (by omega) (by omega) (by omega) (by omega) (by omega) (by omega) (fun k _ => by omega), a5, hF1 9 (fun k _ => by omega)]
  · -- all well
    have d10 : nI 1 ≠ 0 := by decide
    have d00 : nI 0 = 0 := by decide
    rw [a7]
    by_cases c1 : cnt = 0
    · rw [if_pos c1, if_neg d10]
      by_cases c2 : (if G ≤ x2 then G else x2) = 0
      · rw [c2, if_pos d00]
        by_cases c3 : y3 ≤ 0
        · rw [if_pos (by rw [hle]; exact c3), if_pos c3, if_pos ⟨rfl, rfl, c1⟩, q_l1]
        · rw [if_neg (fun q => c3 (by rw [hle] at q; exact q)), if_neg c3, if_neg (fun q => absurd q.2.1 (by decide)), q_l0]
      · have hab : (if G ≤ x2 then G else x2) ≤ 102 := by split <;> omega
        rw [if_neg (fun q => c2 (by rw [q_l0, q_eq (by omega) (by omega)] at q; exact q)), if_neg (fun q => c2 q.1), q_l0]
    · rw [if_neg c1, if_pos d00, if_neg (fun q => c1 q.2.2), q_l0]
  · subst hd5
    have hs0 : sv = nI 0 := by
      rw [← hsvd, if_neg]
      intro q
      rw [(hT 395 (by omega)).2.2 rfl] at q
      exact absurd q.2 (by decide)
    obtain ⟨w1, w2⟩ := a8 (by omega) hs0 j hj
    refine ⟨w1, fun q => ?_⟩
    have w3 := w2 q
    have w4 := hLv hs0 j hj w3
    obtain ⟨⟨z, dd, nn, _, _, _, y1, y2, _, y3, y4⟩, p2⟩ := hP1.2.2.1 j hj
    rcases p2 with p | ⟨c, L, q1, q2, q3, q4, q6⟩ | ⟨c, L, q1, q2, q3, q4, q5⟩ | p
    · exact absurd (w3.symm.trans p.1) (by decide)
    · rw [q2, y4, q_lt (by omega) (by omega)] at w4
      omega
    · exact absurd (w3.symm.trans q1) (by decide)
    · exact absurd (w3.symm.trans p.1) (by decide)
