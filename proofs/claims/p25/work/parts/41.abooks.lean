/-! ===== what the books of a hut say: stores, nights slept, who left ===== -/
/-- stores: what was brought is there, used or spoilt -/
def BI (lk la : Nat → Int32) (n : Int32) (br us sp : Nat → Int32) : Prop := ∀ k, k ≤ 2 → br k = sumS la lk (nI k) 0 n.toNatClampNeg (nI 0) + us k + sp k
/-- who stays has slept, who left has slept all its nights -/
def PI (zn zt zl : Nat → Int32) (N : Int32) : Prop := ∀ j, j < N.toNatClampNeg → (zt j = nI 1 → nI 1 ≤ zl j) ∧ (zt j = nI 2 → zn j ≤ zl j)
def wS (f g : Nat → Int32) : Nat → Nat → Int32 → Int32
  | _, 0, v => v
  | i, k + 1, v => wS f g (i + 1) k (v + f i * g i)
/-- nights slept by guests -/
def GI (zs zl : Nat → Int32) (N gn : Int32) : Prop := gn = wS zl zs 0 N.toNatClampNeg (nI 0)
theorem wS_sleep {zs zt zl zl2 : Nat → Int32} : ∀ (k i : Nat) (v w : Int32), (∀ j, i ≤ j → j < i + k → zl2 j = if zt j = nI 1 then zl j + nI 1 else zl j) → wS zl2 zs i k (v + w) = wS zl zs i k v + sumS zs zt (nI 1) i k w := by
  intro k
  induction k with
  | zero => intro i v w _; rfl
  | succ k ih =>
    intro i v w h
    have h0 := h i (Nat.le_refl _) (by omega)
    have hn := fun v w => ih (i + 1) v w (fun j a b => h j (by omega) (by omega))
    show wS zl2 zs (i + 1) k (v + w + zl2 i * zs i) = wS zl zs (i + 1) k (v + zl i * zs i) + sumS zs zt (nI 1) (i + 1) k (if zt i = nI 1 then w + zs i else w)
    by_cases c : zt i = nI 1
    · rw [if_pos c] at h0
      rw [if_pos c, ← hn, h0, Int32.add_mul, show nI 1 * zs i = zs i by rw [← q_l1, Int32.one_mul]]
      congr 1
      ac_rfl
    · rw [if_neg c] at h0
      rw [if_neg c, ← hn, h0]
      congr 1
      ac_rfl
theorem wS_congr {f g f2 g2 : Nat → Int32} : ∀ (k i : Nat) (v : Int32), (∀ j, i ≤ j → j < i + k → f2 j = f j ∧ g2 j = g j) → wS f2 g2 i k v = wS f g i k v := by
  intro k
  induction k with
  | zero => intro i v _; rfl
  | succ k ih =>
    intro i v h
    obtain ⟨a, b⟩ := h i (Nat.le_refl _) (by omega)
    show wS f2 g2 (i + 1) k (v + f2 i * g2 i) = wS f g (i + 1) k (v + f i * g i)
    rw [a, b]
    exact ih (i + 1) _ (fun j p q => h j (by omega) (by omega))
theorem wS_last {f g : Nat → Int32} : ∀ (k i : Nat) (v : Int32), wS f g i (k + 1) v = wS f g i k v + f (i + k) * g (i + k) := by
  intro k
  induction k with
  | zero => intro i v; rfl
  | succ k ih =>
    intro i v
    show wS f g (i + 1) (k + 1) (v + f i * g i) = wS f g (i + 1) k (v + f i * g i) + _
    rw [ih, show i + 1 + k = i + (k + 1) by omega]
theorem stN_take {c : Nat} : ∀ (r : List LT) (n : Nat), stN c (takeL c n r).1 + (n - (takeL c n r).2) = stN c r := by
  intro r
  induction r with
  | nil =>
    intro n
    show 0 + (n - n) = 0
    omega
  | cons t r ih =>
    intro n
    obtain ⟨k, a, x⟩ := t
    by_cases e : k = c
    · have h := ih (n - a)
      have hl := takeL_le (c := c) r (n - a)
      have e1 : takeL c n ((k, a, x) :: r) = ((k, a - n, x) :: (takeL c (n - a) r).1, (takeL c (n - a) r).2) := if_pos e
      have e2 : stN c ((k, a - n, x) :: (takeL c (n - a) r).1) = (a - n) + stN c (takeL c (n - a) r).1 := congrArg (· + _) (if_pos e)
      have e3 : stN c ((k, a, x) :: r) = a + stN c r := congrArg (· + _) (if_pos e)
      rw [e1, e3]
      show stN c ((k, a - n, x) :: (takeL c (n - a) r).1) + (n - (takeL c (n - a) r).2) = _
      rw [e2]
      omega
    · have h := ih n
      have e1 : takeL c n ((k, a, x) :: r) = ((k, a, x) :: (takeL c n r).1, (takeL c n r).2) := if_neg e
      have e2 : stN c ((k, a, x) :: (takeL c n r).1) = 0 + stN c (takeL c n r).1 := congrArg (· + _) (if_neg e)
      have e3 : stN c ((k, a, x) :: r) = 0 + stN c r := congrArg (· + _) (if_neg e)
      rw [e1, e3]
      show stN c ((k, a, x) :: (takeL c n r).1) + (n - (takeL c n r).2) = _
      rw [e2]
      omega
theorem stN_cons {c : Nat} {t : LT} {r : List LT} : stN c (t :: r) = (if t.1 = c then t.2.1 else 0) + stN c r := rfl
theorem stN_take_ne {c e : Nat} (h : e ≠ c) : ∀ (r : List LT) (n : Nat), stN e (takeL c n r).1 = stN e r := by
  intro r
  induction r with
  | nil => intro n; rfl
  | cons t r ih =>
    intro n
    obtain ⟨k, a, x⟩ := t
    by_cases q : k = c
    · have e1 : takeL c n ((k, a, x) :: r) = ((k, a - n, x) :: (takeL c (n - a) r).1, (takeL c (n - a) r).2) := if_pos q
      have ne : ¬ k = e := fun z => h (z.symm.trans q)
      rw [e1]
      show (if k = e then a - n else 0) + stN e (takeL c (n - a) r).1 = (if k = e then a else 0) + stN e r
      rw [if_neg ne, if_neg ne, ih]
    · have e1 : takeL c n ((k, a, x) :: r) = ((k, a, x) :: (takeL c n r).1, (takeL c n r).2) := if_neg q
      rw [e1]
      show (if k = e then a else 0) + stN e (takeL c n r).1 = (if k = e then a else 0) + stN e r
      rw [ih]
theorem stN_app {c : Nat} : ∀ (p q : List LT), stN c (p ++ q) = stN c p + stN c q := by
  intro p q
  induction p with
  | nil => show stN c q = 0 + stN c q; omega
  | cons t p ih =>
    show (if t.1 = c then t.2.1 else 0) + stN c (p ++ q) = (if t.1 = c then t.2.1 else 0) + stN c p + stN c q
    rw [ih]
    omega
theorem stN_zero {c d : Nat} : ∀ (p : List LT), stN c (p.map (zeroK c d)) + spN c d p = stN c p := by
  intro p
  induction p with
  | nil => rfl
  | cons t p ih =>
    show (if (zeroK c d t).1 = c then (zeroK c d t).2.1 else 0) + stN c (p.map (zeroK c d)) + ((if t.1 = c ∧ t.2.2 = d then t.2.1 else 0) + spN c d p) = (if t.1 = c then t.2.1 else 0) + stN c p
    by_cases w : t.1 = c ∧ t.2.2 = d
    · have hz : zeroK c d t = (t.1, 0, t.2.2) := if_pos w
      rw [hz, if_pos w]
      show (if t.1 = c then 0 else 0) + stN c (p.map (zeroK c d)) + (t.2.1 + spN c d p) = (if t.1 = c then t.2.1 else 0) + stN c p
      rw [if_pos w.1, if_pos w.1]
      omega
    · have hz : zeroK c d t = t := if_neg w
      rw [hz, if_neg w]
      generalize (if t.1 = c then t.2.1 else 0) = z
      omega
theorem stN_zero_ne {c e d : Nat} (h : c ≠ e) : ∀ (p : List LT), stN c (p.map (zeroK e d)) = stN c p := by
  intro p
  induction p with
  | nil => rfl
  | cons t p ih =>
    show (if (zeroK e d t).1 = c then (zeroK e d t).2.1 else 0) + stN c (p.map (zeroK e d)) = (if t.1 = c then t.2.1 else 0) + stN c p
    rw [ih]
    by_cases w : t.1 = e ∧ t.2.2 = d
    · have n : ¬ t.1 = c := fun z => h (z.symm.trans w.1)
      have hz : zeroK e d t = (t.1, 0, t.2.2) := if_pos w
      rw [hz]
      show (if t.1 = c then 0 else 0) + stN c p = (if t.1 = c then t.2.1 else 0) + stN c p
      rw [if_neg n, if_neg n]
    · have hz : zeroK e d t = t := if_neg w
      rw [hz]
theorem stN_nz {c : Nat} : ∀ (p : List LT), stN c (p.filter nzL) = stN c p := by
  intro p
  induction p with
  | nil => rfl
  | cons t p ih =>
    by_cases w : t.2.1 = 0
    · have e : nzL t = false := decide_eq_false (fun q => q w)
      rw [List.filter_cons_of_neg (by rw [e]; exact Bool.false_ne_true), ih, stN_cons, w, ite_self, Nat.zero_add]
    · have e : nzL t = true := decide_eq_true w
      rw [List.filter_cons_of_pos e, stN_cons, stN_cons, ih]
theorem stN_zero_all {d k : Nat} (hk : k ≤ 2) (p : List LT) : stN k (((p.map (zeroK 0 d)).map (zeroK 1 d)).map (zeroK 2 d)) + spN k d p = stN k p := by
  rcases (show k = 0 ∨ k = 1 ∨ k = 2 by omega) with rfl | rfl | rfl
  · rw [stN_zero_ne (by omega), stN_zero_ne (by omega), stN_zero]
  · have h := stN_zero (c := 1) (d := d) (p.map (zeroK 0 d))
    rw [spN_zero (by omega), stN_zero_ne (c := 1) (e := 0) (by omega)] at h
    rw [stN_zero_ne (by omega), h]
  · have h := stN_zero (c := 2) (d := d) ((p.map (zeroK 0 d)).map (zeroK 1 d))
    rw [spN_zero (by omega), spN_zero (by omega), stN_zero_ne (c := 2) (e := 1) (by omega), stN_zero_ne (c := 2) (e := 0) (by omega)] at h
    exact h
theorem st_split {a b c e : Nat} (x y : Int32) (h : a + b + c = e) : nI e + x + y = nI a + (x + nI b) + (y + nI c) := by
  rw [← h, ← nI_add, ← nI_add]
  ac_rfl
theorem st_split2 {a c e : Nat} (x y : Int32) (h : a + c = e) : nI e + x + y = nI a + x + (y + nI c) := by
  rw [← h, ← nI_add]
  ac_rfl
/-- the stores of a list of lots -/
theorem BI_l {l : List LT} {lk la ll br us sp : Nat → Int32} (hl : l.length ≤ 20) (hb : ∀ t ∈ l, t.1 ≤ 2) (h : CA lk la ll 0 l) : BI lk la (nI l.length) br us sp ↔ ∀ k, k ≤ 2 → br k = nI (stN k l) + us k + sp k := by
  have e : ∀ k, k ≤ 2 → sumS la lk (nI k) 0 (nI l.length).toNatClampNeg (nI 0) = nI (stN k l) := by
    intro k hk
    rw [q_cl (by omega), sumS_CA hk l 0 0 hb h, Nat.zero_add]
  constructor
  · intro w k hk
    rw [w k hk, e k hk]
  · intro w k hk
    rw [w k hk, e k hk]
/-- who comes, told of the class alone -/
theorem arr_O {N d B : Nat} {zs zd zn zt zl zc s zt2 zc2 : Nat → Int32} {sv r : Int32} (hd : d < 1000) (hB : B ≤ 40) (h : ParR N d zs zd zn zt zl zc s) (h0 : s 0 = nI d) (h10 : s 10 = nI B) (hsv : sv = nI 0 ∨ sv = nI 1) (hst : (if d < 396 ∧ s (203 + d) = nI 1 then nI 1 else nI 0) = sv) (e : fX2_arrive zs zd zn zt zc (nI N) (nI d) sv (nI B - sumS zs zt (nI 1) 0 N (nI 0)) = some (r, zt2, zc2)) : ∀ j, j < N → arrO d sv (zd j) (zn j) (zt j) (zc j) (zt2 j) (zc2 j) := by
  obtain ⟨hN, h4, hp, hr, hl⟩ := h
  obtain ⟨zt3, zc3, s2, r2, cnt, a1, a2, a3, a4, a5, a6, a7, a8, a9, a10⟩ := arrive_sim (zs := zs) (zd := zd) (zn := zn) (B := B) (sv := sv) hN hd hB (fun j hj => by obtain ⟨⟨z, dd, n, _, q2, q3, _⟩, _⟩ := hp j hj; exact ⟨z, q2, q3⟩) hsv N 0 (nI 1) zt zc s (Nat.zero_add _) hr h4 h0 h10 hst (fun j _ hj hz => (pOK_stat (hp j hj) hz).2) gFU (gFU - N) (by unfold gFU; omega)
  unfold fX2_arrive at e
  rw [q_l0, q_l1, a1] at e
  have hrr : nzB r2 = true := by
    by_cases hc : cnt = 0
    · rw [a7 hc]; decide
    · rw [a8 (by omega)]; decide
  rw [hrr] at e
  have e2 : some (r2, zt3, zc3) = some (r, zt2, zc2) := e
  cases e2
  exact fun j hj => a9 j (Nat.zero_le _) hj
/-! one night, nights: the books -/
theorem night_I {l : List LT} {N d : Nat} {lk la ll us sp zs zd zn zt zl zc sto sg br : Nat → Int32} {hu cn gn cs : Int32} {s : Nat → Int32} (hd : d < 1000) (h : NightR l N d lk la ll us sp zs zd zn zt zl zc sto sg hu cn gn cs s) {ok' n' dy' hu' cn' gn' cs' : Int32} {lk' la' ll' us' sp' zt' zl' zc' : Nat → Int32} (e : fX1_passNight lk la ll (nI l.length) us sp zs zd zn zt zl zc (nI N) sto sg (nI d) hu cn gn cs = some (ok', lk', la', ll', n', us', sp', zt', zl', zc', dy', hu', cn', gn', cs')) :
    (BI lk la (nI l.length) br us sp → BI lk' la' n' br us' sp') ∧ (PI zn zt zl (nI N) → PI zn zt' zl' (nI N)) ∧ (GI zs zl (nI N) gn → GI zs zl' (nI N) gn') ∧ (∀ j, j < N → zt j = nI 1 → zt' j = nI 1 ∨ zt' j = nI 2) := by
  obtain ⟨⟨hl, hlb, hlz, hcl, hml⟩, hP, hU, ⟨hSS, B, R, Q, F, hB, hB1, hB2, hR, hR1, hR2, hQ, hQ1, hF, hF1⟩, hT, h0, h5, h6, h7, h8⟩ := h
  have hS10 : s 10 = nI B := (hSS 0 (by omega)).trans hB
  have hS11 : s 11 = nI R := (hSS 1 (by omega)).trans hR
  have hS12 : s 12 = nI Q := (hSS 2 (by omega)).trans hQ
  have hN := hP.1
  -- storm
  have e1 := p_isStorm (sto := sto) hd (fun hk => (hT d hk).2.1)
  have eT : (if d < 396 ∧ s (203 + d) = nI 1 then nI 1 else nI 0) = (if d < 396 ∧ sto d = nI 1 then nI 1 else nI 0) := by
    by_cases hk : d < 396
    · rw [(hT d hk).1]
    · rw [if_neg (fun q => hk q.1), if_neg (fun q => hk q.1)]
  have m1 := m_isStorm (s := s) hd
  rw [eT] at m1
  generalize hsvd : (if d < 396 ∧ sto d = nI 1 then nI 1 else nI 0) = sv at e1 m1 eT
  have hsv : sv = nI 0 ∨ sv = nI 1 := by
    rw [← hsvd]
    split
    · exact Or.inr rfl
    · exact Or.inl rfl
  -- who leaves
  obtain ⟨zt1, s1, e2, hP1, hM1, hF1, hLv⟩ : ∃ zt1 s1, ((sv = 0 ∧ fX2_leave zn zt zl (nI N) = some zt1) ∨ (sv ≠ 0 ∧ zt1 = zt)) ∧ ParR N d zs zd zn zt1 zl zc s1 ∧ fX7_night s = gl2 sX7_night_rec9 gFU 0 s1 ∧ (∀ j, (∀ k, k < N → j ≠ 101 + 6 * k + 3) → s1 j = s j) ∧ (sv = nI 0 → ∀ j, j < N → zt1 j = nI 1 → zl j < zn j) := by
    by_cases hs : sv = nI 0
    · obtain ⟨zt1, s1, a1, a2, a3, a4, a5⟩ := leave_sim hP
      refine ⟨zt1, s1, Or.inl ⟨hs, a1⟩, a3, ?_, a4, fun _ => a5⟩
      unfold fX7_night
      simp (disch := omega) only [q_l0, q_gd, q_cl, h0, m1, bd1_e, hs, if_true, q_mrg, a2]
    · refine ⟨zt, s, Or.inr ⟨hs, rfl⟩, hP, ?_, fun _ _ => rfl, fun q => absurd q hs⟩
      unfold fX7_night
      simp (disch := omega) only [q_l0, q_gd, q_cl, h0, m1, bd1_e, hs, if_false, q_mrg]
  have hst1 : (if d < 396 ∧ s1 (203 + d) = nI 1 then nI 1 else nI 0) = sv := by
    rw [hF1 (203 + d) (fun k _ => by omega)]
    exact eT
  -- who comes
  obtain ⟨zt2, zc2, s2, r, cnt, a1, a2, hP2, a4, a5, a6, a7, a8⟩ := arr_sim hd hB2 hP1 ((hF1 0 (fun k _ => by omega)).trans h0) ((hF1 10 (fun k _ => by omega)).trans hS10) hsv hst1
  have hF2 : ∀ j, j < 101 ∨ 203 ≤ j → j ≠ 9 → s2 j = s j := fun j q1 q2 => (a4 j (fun k _ => by omega) q2).trans (hF1 j (fun k _ => by omega))
  have hP2' := hP2
  obtain ⟨_, h4, hp2, hr2, hl2⟩ := hP2'
  obtain ⟨G, eG, -, hG⟩ := sumS_nat (f := zs) (g := zt2) (c := nI 1) (M := 6) N 0 0 (fun j _ hj => by obtain ⟨⟨z, dd, n, _, q2, q3, _⟩, _⟩ := hp2 j (by omega); exact ⟨z, q2, q3⟩)
  have hG2 : G ≤ 102 := by omega
  have e3 : fX2_guests zs zt1 (nI N) = some (sumS zs zt1 (nI 1) 0 N (nI 0)) := p_guests hN
  have e5 : fX2_guests zs zt2 (nI N) = some (nI G) := by rw [p_guests hN, eG]
  have m5 : fX7_guests s2 = some (nI G) := by rw [m_guests h4 hN, hr2.guests, eG]
  have e4 : fX2_arrive zs zd zn zt1 zc (nI N) (nI d) sv (sg 0 - sumS zs zt1 (nI 1) 0 N (nI 0)) = some (r, zt2, zc2) := by rw [hB]; exact a1
  -- supper
  have hml2 : ML l s2 := ML_congr hl (hF2 2 (by omega) (by omega)) (fun j q1 q2 => hF2 j (by omega) (by omega)) hml
  obtain ⟨s3, w, x1, x2, k1, k2, k3, k4, k5, k6, k7, k8, k9, k10⟩ := m_sups hl hlb hlz hml2 hG2 hQ1 ⟨hR1, hR2⟩ ((hF2 11 (by omega) (by omega)).trans hS11) ((hF2 12 (by omega) (by omega)).trans hS12)
  have hSb := stN_le (c := 0) l (fun t ht => (hlb t ht).2.1)
  have e6 : fX4_stock lk la (nI l.length) 0 = some (nI (stN 0 l)) := by
    rw [q_l0, p_stock hl]
    have := sumS_CA (c := 0) (by omega) l 0 0 (fun t ht => (hlb t ht).1) hcl
    rw [Nat.zero_add] at this
    exact congrArg some this
  have e7 := p_ration (S := stN 0 l) hR hR2 hQ hQ1 hG2 (by omega)
  generalize hRa : ratN Q G R (stN 0 l) = Ra at *
  have hRa3 : Ra ≤ 3 := by
    rw [← hRa]
    unfold ratN
    split <;> omega
  have hRG : Ra * G ≤ 3 * 102 := Nat.mul_le_mul hRa3 hG2
  obtain ⟨la1, t1, t2⟩ := p_take (us := us) (c := 1) (w := G) hl (by omega) (by omega) (lotB2 hlb) hcl
  have hy1 := takeL_le (c := 1) l G
  have hL1len : (takeL 1 G l).1.length = l.length := takeL_len l G
  have hL1B := takeL_B (c := 1) l G hlb
  generalize hL1 : (takeL 1 G l).1 = L1 at *
  generalize hY1 : (takeL 1 G l).2 = y1 at *
  subst k2
  have hw : w ≤ 408 := by omega
  obtain ⟨la2, t3, t4⟩ := p_take (us := upd us 1 (us 1 + nI (G - y1))) (c := 0) (w := w) (hL1len ▸ hl) (by omega) (by omega) (lotB2 hL1B) t2
  obtain ⟨n1, n2⟩ := takeL_nz (c := 0) L1 w
  rw [n1] at k3
  rw [n2] at k5
  rw [← k3] at t3
  have hx2 : x2 ≤ w := by rw [k3]; exact takeL_le L1 w
  have hL2len : (takeL 0 w L1).1.length = l.length := (takeL_len L1 w).trans hL1len
  have hL2B := takeL_B (c := 0) L1 w hL1B
  generalize hL2 : (takeL 0 w L1).1 = L2 at *
  -- gas
  have hg := gasN_le (sv := sv) hG2
  have hlen2 : (L2.filter nzL).length ≤ 20 := Nat.le_trans (List.length_filter_le _ _) (by omega)
  have h30 : s3 0 = nI d := (k10 0 (by omega) (by omega) (by omega) (by omega) (by omega) (by omega)).trans ((hF2 0 (by omega) (by omega)).trans h0)
  have hst3 : (if d < 396 ∧ s3 (203 + d) = nI 1 then nI 1 else nI 0) = sv := by
    rw [k10 (203 + d) (by omega) (by omega) (by omega) (by omega) (by omega) (by omega), hF2 (203 + d) (by omega) (by omega)]
    exact eT
  obtain ⟨s4, g1, g2, g3, g4, g5⟩ := m_heats hlen2 (filter_B hL2B) filter_nz k5 hG2 hd h30 hst3
  obtain ⟨n3, n4⟩ := takeL_nz (c := 2) L2 (gasN G sv)
  rw [n3] at g3 g4
  rw [n4] at g2
  obtain ⟨la3, t5, t6⟩ := p_take (us := upd (upd us 1 (us 1 + nI (G - y1))) 0 (upd us 1 (us 1 + nI (G - y1)) 0 + nI (w - x2))) (c := 2) (w := gasN G sv) (hL2len ▸ hl) (by omega) (by omega) (lotB2 hL2B) t4
  have hy3 := takeL_le (c := 2) L2 (gasN G sv)
  have hL3len : (takeL 2 (gasN G sv) L2).1.length = l.length := (takeL_len L2 _).trans hL2len
  have hL3B := takeL_B (c := 2) L2 (gasN G sv) hL2B
  generalize hL3 : (takeL 2 (gasN G sv) L2).1 = L3 at *
  generalize hY3 : (takeL 2 (gasN G sv) L2).2 = y3 at *
  generalize hgg : gasN G sv = g at *
  -- the night
  have h4' : (upd s4 7 (s4 7 + nI G)) 4 = nI N := by
    rw [pk_un (by omega), g5 4 (by omega) (by omega) (by omega) (by omega), k10 4 (by omega) (by omega) (by omega) (by omega) (by omega) (by omega)]
    exact h4
  have h0' : (upd s4 7 (s4 7 + nI G)) 0 = nI d := by
    rw [pk_un (by omega), g5 0 (by omega) (by omega) (by omega) (by omega)]
    exact h30
  have hlen3 : (L3.filter nzL).length ≤ 20 := Nat.le_trans (List.length_filter_le _ _) (by omega)
  obtain ⟨s5, b1, b2, b3, b4, b5, b6⟩ := m_sleep hlen3 (filter_B hL3B) (ML_congr hlen3 (pk_un (by omega)) (fun j _ _ => pk_un (by omega)) g2) hN h4' (by omega) h0'
  obtain ⟨zl2, z1, z2, z3⟩ := p_sleepOnce (zt := zt2) (zl := zl) hN
  obtain ⟨la4, sp2, u1, u2, u3, u4⟩ := p_spoil (sp := sp) (d := d) (hL3len ▸ hl) (by omega) hL3B t6
  have hZB := zeroK_B (c := 2) (d := d) (zeroK_B (c := 1) (d := d) (zeroK_B (c := 0) (d := d) hL3B))
  have hZlen : (((L3.map (zeroK 0 d)).map (zeroK 1 d)).map (zeroK 2 d)).length = l.length := by
    rw [List.length_map, List.length_map, List.length_map]; exact hL3len
  obtain ⟨lk5, la5, ll5, v1, v2⟩ := p_drop (hZlen ▸ hl) (fun t ht => (hZB t ht).2.1) u2
  rw [zero_all L3 (fun t ht => (hL3B t ht).1)] at v1 v2
  rw [hZlen] at v1
  rw [hL3len] at u1
  rw [hL1len] at t3
  rw [hL2len] at t5
  have hgm : nI G * nI Ra = nI (Ra * G) := by rw [pk_mul, Nat.mul_comm]
  have ew : nI G * nI Ra + nI G - nI (G - y1) = nI w := by
    rw [hgm, nI_add, pk_sub (by omega)]
    congr 1
    omega
  have ey : nI w - nI (w - x2) = nI x2 := by
    rw [pk_sub (by omega)]
    congr 1
    omega
  have e8 : fX4_take lk la (nI l.length) us 1 (nI G) = some (nI (G - y1), la1, upd us 1 (us 1 + nI (G - y1))) := by rw [q_l1]; exact t1
  have e9 : fX4_take lk la1 (nI l.length) (upd us 1 (us 1 + nI (G - y1))) 0 (nI G * nI Ra + nI G - nI (G - y1)) = some (nI (w - x2), la2, upd (upd us 1 (us 1 + nI (G - y1))) 0 (upd us 1 (us 1 + nI (G - y1)) 0 + nI (w - x2))) := by rw [ew, q_l0]; exact t3
  have e10 : (if nI G * nI Ra + nI G - nI (G - y1) - nI (w - x2) < nI G then nI G * nI Ra + nI G - nI (G - y1) - nI (w - x2) else nI G) = nI (if G ≤ x2 then G else x2) := by
    have q : (nI x2 < nI G) = (x2 < G) := q_lt (by omega) (by omega)
    rw [ew, ey]
    by_cases c : G ≤ x2
    · rw [if_pos c, if_neg (fun z => by rw [q] at z; omega)]
    · rw [if_neg c, if_pos (by rw [q]; omega)]
  have e11 : fX1_gasFor (nI G) sv = some (nI g) := by rw [← hgg]; exact p_gas hG2
  have e12 : fX4_take lk la2 (nI l.length) (upd (upd us 1 (us 1 + nI (G - y1))) 0 (upd us 1 (us 1 + nI (G - y1)) 0 + nI (w - x2))) 2 (nI g) = some (nI (g - y3), la3, upd (upd (upd us 1 (us 1 + nI (G - y1))) 0 (upd us 1 (us 1 + nI (G - y1)) 0 + nI (w - x2))) 2 (upd (upd us 1 (us 1 + nI (G - y1))) 0 (upd us 1 (us 1 + nI (G - y1)) 0 + nI (w - x2)) 2 + nI (g - y3))) := by rw [q_l2]; exact t5
  have PN := p_night_eq (hu := hu) (cn := cn) (gn := gn) (cs := cs) e1 e2 e3 e4 e5 e6 e7 e8 e9 e10 e11 e12 z1 u1 v1
  have hd1 : nI d + 1 = nI (d + 1) := by rw [q_l1, nI_add]
  rw [hd1] at PN
  rw [PN] at e
  cases e
  have hlen3 : (L3.filter nzL).length ≤ 20 := Nat.le_trans (List.length_filter_le _ _) (by omega)
  have hgl : ((L3.filter nzL).filter (fresh d)).length ≤ 20 := Nat.le_trans (List.length_filter_le _ _) hlen3
  have hO := arr_O hd hB2 hP1 ((hF1 0 (fun k _ => by omega)).trans h0) ((hF1 10 (fun k _ => by omega)).trans hS10) hsv hst1 a1
  refine ⟨fun hB => ?_, fun hP9 => ?_, fun hG9 => ?_, fun j hj hz => ?_⟩
  · rw [BI_l hl (fun t ht => (hlb t ht).1) hcl] at hB
    rw [BI_l hgl (fun t ht => (filter_B (filter_B hL3B) t ht).1) v2]
    intro k hk
    have hz : stN k ((L3.filter nzL).filter (fresh d)) + spN k d L3 = stN k L3 := by
      rw [← zero_all L3 (fun t ht => (hL3B t ht).1), stN_nz]
      exact stN_zero_all hk L3
    rw [hB k hk, u3 k hk]
    rcases (show k = 0 ∨ k = 1 ∨ k = 2 by omega) with rfl | rfl | rfl
    · have b1 : stN 0 L1 = stN 0 l := by rw [← hL1]; exact stN_take_ne (by omega) l G
      have b2 : stN 0 L2 + (w - x2) = stN 0 L1 := by rw [← hL2, k3]; exact stN_take L1 w
      have b3 : stN 0 L3 = stN 0 L2 := by rw [← hL3]; exact stN_take_ne (by omega) L2 g
      rw [pk_un (show (0 : Nat) ≠ 2 by omega), pk_us, pk_un (show (0 : Nat) ≠ 1 by omega)]
      exact st_split _ _ (by omega)
    · have b1 : stN 1 L1 + (G - y1) = stN 1 l := by rw [← hL1, ← hY1]; exact stN_take l G
      have b2 : stN 1 L2 = stN 1 L1 := by rw [← hL2]; exact stN_take_ne (by omega) L1 w
      have b3 : stN 1 L3 = stN 1 L2 := by rw [← hL3]; exact stN_take_ne (by omega) L2 g
      rw [pk_un (show (1 : Nat) ≠ 2 by omega), pk_un (show (1 : Nat) ≠ 0 by omega), pk_us]
      exact st_split _ _ (by omega)
    · have b1 : stN 2 L1 = stN 2 l := by rw [← hL1]; exact stN_take_ne (by omega) l G
      have b2 : stN 2 L2 = stN 2 L1 := by rw [← hL2]; exact stN_take_ne (by omega) L1 w
      have b3 : stN 2 L3 + (g - y3) = stN 2 L2 := by rw [← hL3, ← hY3]; exact stN_take L2 g
      rw [pk_us, pk_un (show (2 : Nat) ≠ 0 by omega), pk_un (show (2 : Nat) ≠ 1 by omega)]
      exact st_split _ _ (by omega)
  · intro j hj
    rw [q_cl (by omega)] at hj
    have hPj := hP9 j (by rw [q_cl (by omega)]; exact hj)
    have d21 : nI 2 ≠ nI 1 := by decide
    have d31 : nI 3 ≠ nI 2 := by decide
    have d12 : nI 1 ≠ nI 2 := by decide
    have hz1 : zt1 j = nI 2 → zn j ≤ zl j := by
      rcases e2 with ⟨_, q⟩ | ⟨_, q⟩
      · obtain ⟨ztp, p1, p2, _⟩ := p_leave (zn := zn) (zt := zt) (zl := zl) hN
        rw [p1] at q
        cases q
        rw [p2 j hj]
        by_cases c : zt j = nI 1 ∧ zn j ≤ zl j
        · exact fun _ => c.2
        · rw [if_neg c]
          exact hPj.2
      · rw [q]
        exact hPj.2
    rw [z2 j hj]
    refine ⟨fun q => ?_, fun q => ?_⟩
    · rw [if_pos q]
      rcases (hp2 j hj).2 with p | ⟨c, L, q1, q2, q3, q4, q6⟩ | ⟨c, L, q1, q2, q3, q4, q5⟩ | p
      · exact absurd (q.symm.trans p.1) (by decide)
      · rw [q2, nI_add, q_le (by omega) (by omega)]
        omega
      · exact absurd (q.symm.trans q1) (by decide)
      · exact absurd (q.symm.trans p.1) (by decide)
    · rw [if_neg (fun z => d21 (q.symm.trans z))]
      rcases hO j hj with ⟨w1, _, _⟩ | ⟨_, _, ⟨w1, _⟩ | ⟨w1, _, _, _⟩⟩
      · exact hz1 (w1.symm.trans q)
      · exact absurd (w1.symm.trans q) d31
      · exact absurd (w1.symm.trans q) d12
  · have hS := wS_sleep (zs := zs) (zt := zt') (zl := zl) (zl2 := zl') N 0 (nI 0) (nI 0) (fun j _ hj => z2 j (by omega))
    rw [nI_add, eG] at hS
    show gn + nI G = wS zl' zs 0 (nI N).toNatClampNeg (nI 0)
    have hG8 : gn = wS zl zs 0 (nI N).toNatClampNeg (nI 0) := hG9
    rw [q_cl (by omega)] at hG8 ⊢
    rw [hG8]
    exact hS.symm
  · have d10 : nI 1 ≠ nI 0 := by decide
    have d20 : nI 2 ≠ nI 0 := by decide
    have hz1 : zt1 j = nI 1 ∨ zt1 j = nI 2 := by
      rcases e2 with ⟨_, q⟩ | ⟨_, q⟩
      · obtain ⟨ztp, p1, p2, _⟩ := p_leave (zn := zn) (zt := zt) (zl := zl) hN
        rw [p1] at q
        cases q
        rw [p2 j hj]
        by_cases c : zt j = nI 1 ∧ zn j ≤ zl j
        · rw [if_pos c]
          exact Or.inr rfl
        · rw [if_neg c]
          exact Or.inl hz
      · rw [q]
        exact Or.inl hz
    have hz0 : zt1 j ≠ nI 0 := by
      rcases hz1 with q | q
      · rw [q]; exact d10
      · rw [q]; exact d20
    rcases hO j hj with ⟨w1, _, _⟩ | ⟨w0, _⟩
    · rw [w1]; exact hz1
    · exact absurd w0 hz0
theorem sleeps_I {N P : Nat} {zs zd zn sto sg br : Nat → Int32} {hu0 : Int32} (hP : P ≤ 60) :
    ∀ (k i n d : Nat) (l : List LT) (lk la ll us sp zt zl zc : Nat → Int32) (hu cn gn cs : Int32) (s : Nat → Int32), i + k = P → d + k ≤ 365 → k < n → NightR l N d lk la ll us sp zs zd zn zt zl zc sto sg hu cn gn cs s → BI lk la (nI l.length) br us sp → PI zn zt zl (nI N) → GI zs zl (nI N) gn →
      ∀ {ans n' dy' hu' cn' gn' cs' : Int32} {lk' la' ll' us' sp' zt' zl' zc' : Nat → Int32}, gl15 (sX1_passNights_rec4 zs zd zn (nI N) sto sg hu0 (nI P)) n (nI i) lk la ll (nI l.length) us sp zt zl zc (nI d) hu cn gn cs = some (ans, lk', la', ll', n', us', sp', zt', zl', zc', dy', hu', cn', gn', cs') → BI lk' la' n' br us' sp' ∧ PI zn zt' zl' (nI N) ∧ GI zs zl' (nI N) gn' ∧ ans = hu' - hu0 ∧ dy' = nI (d + k) := by
  intro k
  induction k with
  | zero =>
    intro i n d l lk la ll us sp zt zl zc hu cn gn cs s hi hd hn h hB hQ hG ans n' dy' hu' cn' gn' cs' lk' la' ll' us' sp' zt' zl' zc' e
    obtain ⟨n, rfl⟩ := Nat.exists_eq_succ_of_ne_zero (Nat.ne_of_gt hn)
    have : i = P := hi
    subst this
    have e1 : gl15 (sX1_passNights_rec4 zs zd zn (nI N) sto sg hu0 (nI i)) (n + 1) (nI i) lk la ll (nI l.length) us sp zt zl zc (nI d) hu cn gn cs = some (hu - hu0, lk, la, ll, nI l.length, us, sp, zt, zl, zc, nI d, hu, cn, gn, cs) := by
      show sX1_passNights_rec4 zs zd zn (nI N) sto sg hu0 (nI i) _ (nI i) lk la ll (nI l.length) us sp zt zl zc (nI d) hu cn gn cs = _
      simp (disch := omega) only [sX1_passNights_rec4, q_le, Nat.le_refl, if_true]
    rw [e1] at e
    cases e
    exact ⟨hB, hQ, hG, rfl, rfl⟩
  | succ k ih =>
    intro i n d l lk la ll us sp zt zl zc hu cn gn cs s hi hd hn h hB hQ hG ans n' dy' hu' cn' gn' cs' lk' la' ll' us' sp' zt' zl' zc' e
    obtain ⟨n, rfl⟩ := Nat.exists_eq_succ_of_ne_zero (by omega : n ≠ 0)
    obtain ⟨ok, l1, lk1, la1, ll1, us1, sp1, zt1, zl1, zc1, cn1, gn1, cs1, s1, a, b, c, e1, e2, h1, ha, -, -, -, -, -, hf, -⟩ := night_sim (by omega) h
    obtain ⟨i1, i2, i3, -⟩ := night_I (br := br) (by omega) h e1
    have ngt : ¬ P ≤ i := by omega
    have e3 : gl15 (sX1_passNights_rec4 zs zd zn (nI N) sto sg hu0 (nI P)) (n + 1) (nI i) lk la ll (nI l.length) us sp zt zl zc (nI d) hu cn gn cs = gl15 (sX1_passNights_rec4 zs zd zn (nI N) sto sg hu0 (nI P)) n (nI (i + 1)) lk1 la1 ll1 (nI l1.length) us1 sp1 zt1 zl1 zc1 (nI (d + 1)) (hu + nI a) cn1 gn1 cs1 := by
      show sX1_passNights_rec4 zs zd zn (nI N) sto sg hu0 (nI P) (gl15 (sX1_passNights_rec4 zs zd zn (nI N) sto sg hu0 (nI P)) n) (nI i) lk la ll (nI l.length) us sp zt zl zc (nI d) hu cn gn cs = _
      simp (disch := omega) only [sX1_passNights_rec4, q_le, ngt, if_false, e1, bd15_e, q_jl, q_l1, nI_add]
    rw [e3] at e
    obtain ⟨j1, j2, j3, j4, j5⟩ := ih (i + 1) n (d + 1) l1 lk1 la1 ll1 us1 sp1 zt1 zl1 zc1 (hu + nI a) cn1 gn1 cs1 s1 (by omega) (by omega) (by omega) h1 (i1 hB) (i2 hQ) (i3 hG) e
    exact ⟨j1, j2, j3, j4, by rw [j5, show d + 1 + k = d + (k + 1) by omega]⟩
