/-! ===== what is asked, told of the class alone ===== -/
theorem v_party {lk la ll pk pa pd br us sp zs zd zn zt zl zc sto sg : Nat → Int32} {n pn d F hu cn gn cs : Int32} {N : Nat} {p : Nat} (hN : N ≤ 17) (hp : p < N) : fX6_partyOf (lk, la, ll, n, pk, pa, pd, pn, br, us, sp, zs, zd, zn, zt, zl, zc, nI N, sto, sg, d, F, hu, cn, gn, cs) (nI p) 0 = some (zs p) ∧ fX6_partyOf (lk, la, ll, n, pk, pa, pd, pn, br, us, sp, zs, zd, zn, zt, zl, zc, nI N, sto, sg, d, F, hu, cn, gn, cs) (nI p) 2 = some (zn p) ∧ fX6_partyOf (lk, la, ll, n, pk, pa, pd, pn, br, us, sp, zs, zd, zn, zt, zl, zc, nI N, sto, sg, d, F, hu, cn, gn, cs) (nI p) 3 = some (zt p) ∧ fX6_partyOf (lk, la, ll, n, pk, pa, pd, pn, br, us, sp, zs, zd, zn, zt, zl, zc, nI N, sto, sg, d, F, hu, cn, gn, cs) (nI p) 4 = some (zl p) ∧ fX6_partyOf (lk, la, ll, n, pk, pa, pd, pn, br, us, sp, zs, zd, zn, zt, zl, zc, nI N, sto, sg, d, F, hu, cn, gn, cs) (nI p) 5 = some (if 0 ≤ zc p then zc p else -4) ∧ fX6_partyOf (lk, la, ll, n, pk, pa, pd, pn, br, us, sp, zs, zd, zn, zt, zl, zc, nI N, sto, sg, d, F, hu, cn, gn, cs) (nI p) 6 = some (if 0 < zl p - zn p then zl p - zn p else 0) := by
  have gk : ∀ {α : Type} (y : Option α), gd (inB (nI p) 17) y = y := fun y => q_gd (by omega) (by omega)
  have ck : (nI p).toNatClampNeg = p := q_cl (by omega)
  have hh := p_hasN hp hN
  unfold fX6_partyOf
  dsimp only
  rw [hh]
  simp only [bd1_e]
  refine ⟨?_, ?_, ?_, ?_, ?_, ?_⟩
  · rw [if_neg (by decide), if_true, gk, ck]
  · rw [if_neg (by decide), if_neg (by decide), if_neg (by decide), if_true, gk, ck]
  · rw [if_neg (by decide), if_neg (by decide), if_neg (by decide), if_neg (by decide), if_true, gk, ck]
  · rw [if_neg (by decide), if_neg (by decide), if_neg (by decide), if_neg (by decide), if_neg (by decide), if_true, gk, ck]
  · rw [if_neg (by decide), if_neg (by decide), if_neg (by decide), if_neg (by decide), if_neg (by decide), if_neg (by decide), if_true, gk, ck]
    by_cases q : 0 ≤ zc p
    · rw [if_pos q, if_pos q]
    · rw [if_neg q, if_neg q]
  · rw [if_neg (by decide), if_neg (by decide), if_neg (by decide), if_neg (by decide), if_neg (by decide), if_neg (by decide), if_neg (by decide), if_true, gk, ck]
theorem v_count {lk la ll pk pa pd br us sp zs zd zn zt zl zc sto sg : Nat → Int32} {n pn d F hu cn gn cs : Int32} {N : Nat} {ke lnn tl : Int32} (hN : N ≤ 17) : fX6_count ke lnn tl (lk, la, ll, n, pk, pa, pd, pn, br, us, sp, zs, zd, zn, zt, zl, zc, nI N, sto, sg, d, F, hu, cn, gn, cs) 0 = some (nI N) ∧ fX6_count ke lnn tl (lk, la, ll, n, pk, pa, pd, pn, br, us, sp, zs, zd, zn, zt, zl, zc, nI N, sto, sg, d, F, hu, cn, gn, cs) 1 = some (sumS (fun _ => nI 1) zt (nI 0) 0 N (nI 0)) ∧ fX6_count ke lnn tl (lk, la, ll, n, pk, pa, pd, pn, br, us, sp, zs, zd, zn, zt, zl, zc, nI N, sto, sg, d, F, hu, cn, gn, cs) 2 = some (sumS (fun _ => nI 1) zt (nI 1) 0 N (nI 0)) ∧ fX6_count ke lnn tl (lk, la, ll, n, pk, pa, pd, pn, br, us, sp, zs, zd, zn, zt, zl, zc, nI N, sto, sg, d, F, hu, cn, gn, cs) 3 = some (sumS zs zt (nI 1) 0 N (nI 0)) ∧ fX6_count ke lnn tl (lk, la, ll, n, pk, pa, pd, pn, br, us, sp, zs, zd, zn, zt, zl, zc, nI N, sto, sg, d, F, hu, cn, gn, cs) 4 = some d ∧ fX6_count ke lnn tl (lk, la, ll, n, pk, pa, pd, pn, br, us, sp, zs, zd, zn, zt, zl, zc, nI N, sto, sg, d, F, hu, cn, gn, cs) 6 = some F ∧ fX6_count ke lnn tl (lk, la, ll, n, pk, pa, pd, pn, br, us, sp, zs, zd, zn, zt, zl, zc, nI N, sto, sg, d, F, hu, cn, gn, cs) 7 = some pn ∧ fX6_count ke lnn tl (lk, la, ll, n, pk, pa, pd, pn, br, us, sp, zs, zd, zn, zt, zl, zc, nI N, sto, sg, d, F, hu, cn, gn, cs) 8 = some hu ∧ fX6_count ke lnn tl (lk, la, ll, n, pk, pa, pd, pn, br, us, sp, zs, zd, zn, zt, zl, zc, nI N, sto, sg, d, F, hu, cn, gn, cs) 10 = some gn ∧ fX6_count ke lnn tl (lk, la, ll, n, pk, pa, pd, pn, br, us, sp, zs, zd, zn, zt, zl, zc, nI N, sto, sg, d, F, hu, cn, gn, cs) 12 = some lnn ∧ fX6_count ke lnn tl (lk, la, ll, n, pk, pa, pd, pn, br, us, sp, zs, zd, zn, zt, zl, zc, nI N, sto, sg, d, F, hu, cn, gn, cs) 13 = some tl ∧ fX6_count ke lnn tl (lk, la, ll, n, pk, pa, pd, pn, br, us, sp, zs, zd, zn, zt, zl, zc, nI N, sto, sg, d, F, hu, cn, gn, cs) 14 = some (if ke = 0 then 0 else 1) := by
  unfold fX6_count
  dsimp only
  refine ⟨?_, ?_, ?_, ?_, ?_, ?_, ?_, ?_, ?_, ?_, ?_, ?_⟩
  · rw [if_pos rfl]
  · rw [if_neg (by decide), if_pos rfl, q_l0, p_withStatus hN, bd1_e]
  · rw [if_neg (by decide), if_neg (by decide), if_pos rfl, q_l1, p_withStatus hN, bd1_e]
  · rw [if_neg (by decide), if_neg (by decide), if_neg (by decide), if_pos rfl, p_guests hN, bd1_e]
  · rw [if_neg (by decide), if_neg (by decide), if_neg (by decide), if_neg (by decide), if_pos rfl]
  · rw [if_neg (by decide), if_neg (by decide), if_neg (by decide), if_neg (by decide), if_neg (by decide), if_neg (by decide), if_pos rfl]
  · rw [if_neg (by decide), if_neg (by decide), if_neg (by decide), if_neg (by decide), if_neg (by decide), if_neg (by decide), if_neg (by decide), if_pos rfl]
  · rw [if_neg (by decide), if_neg (by decide), if_neg (by decide), if_neg (by decide), if_neg (by decide), if_neg (by decide), if_neg (by decide), if_neg (by decide), if_pos rfl]
  · rw [if_neg (by decide), if_neg (by decide), if_neg (by decide), if_neg (by decide), if_neg (by decide), if_neg (by decide), if_neg (by decide), if_neg (by decide), if_neg (by decide), if_neg (by decide), if_pos rfl]
  · rw [if_neg (by decide), if_neg (by decide), if_neg (by decide), if_neg (by decide), if_neg (by decide), if_neg (by decide), if_neg (by decide), if_neg (by decide), if_neg (by decide), if_neg (by decide), if_neg (by decide), if_neg (by decide), if_pos rfl]
  · rw [if_neg (by decide), if_neg (by decide), if_neg (by decide), if_neg (by decide), if_neg (by decide), if_neg (by decide), if_neg (by decide), if_neg (by decide), if_neg (by decide), if_neg (by decide), if_neg (by decide), if_neg (by decide), if_neg (by decide), if_pos rfl]
  · rw [if_neg (by decide), if_neg (by decide), if_neg (by decide), if_neg (by decide), if_neg (by decide), if_neg (by decide), if_neg (by decide), if_neg (by decide), if_neg (by decide), if_neg (by decide), if_neg (by decide), if_neg (by decide), if_neg (by decide), if_neg (by decide), if_pos rfl]
    by_cases q : ke = 0
    · rw [if_pos q, if_pos q]
    · rw [if_neg q, if_neg q]
theorem v_storm {lk la ll pk pa pd br us sp zs zd zn zt zl zc sto sg : Nat → Int32} {n pn d F hu cn gn cs : Int32} {N : Nat} {ke lnn tl sv : Int32} (e : fX1_isStorm sto d = some sv) : fX6_count ke lnn tl (lk, la, ll, n, pk, pa, pd, pn, br, us, sp, zs, zd, zn, zt, zl, zc, nI N, sto, sg, d, F, hu, cn, gn, cs) 5 = some (if sv = 0 then 0 else 1) := by
  unfold fX6_count
  dsimp only
  rw [if_neg (by decide), if_neg (by decide), if_neg (by decide), if_neg (by decide), if_neg (by decide), if_pos rfl, e, bd1_e]
  by_cases q : sv = 0
  · rw [if_pos q, if_pos q]
  · rw [if_neg q, if_neg q]
theorem v_set {lk la ll pk pa pd br us sp zs zd zn zt zl zc sto sg : Nat → Int32} {n pn d F hu cn gn cs : Int32} {N : Nat} {ke lnn tl : Int32} {k : Nat} (hk : k ≤ 3) : fX6_count ke lnn tl (lk, la, ll, n, pk, pa, pd, pn, br, us, sp, zs, zd, zn, zt, zl, zc, nI N, sto, sg, d, F, hu, cn, gn, cs) (20 + nI k) = some (sg k) := by
  have q20 : (20 : Int32) = nI 20 := by decide
  have no : ∀ j : Nat, j < 20 → ¬ nI (20 + k) = nI j := fun j hj => by rw [q_eq (by omega) (by omega)]; omega
  unfold fX6_count
  dsimp only
  rw [q20, nI_add, q_l0, if_neg (no 0 (by omega)), q_l1, if_neg (no 1 (by omega)), q_l2, if_neg (no 2 (by omega)), q_l3, if_neg (no 3 (by omega)), q_l4, if_neg (no 4 (by omega)), q_l5, if_neg (no 5 (by omega)), q_l6, if_neg (no 6 (by omega)), q_l7, if_neg (no 7 (by omega)), q_l8, if_neg (no 8 (by omega)), q_l9, if_neg (no 9 (by omega)), q_l10, if_neg (no 10 (by omega)), q_l11, if_neg (no 11 (by omega)), q_l12, if_neg (no 12 (by omega)), q_l13, if_neg (no 13 (by omega)), q_l14, if_neg (no 14 (by omega)), q_subn (by omega) (by omega), show 20 + k - 20 = k by omega]
  unfold fX1_settingAt
  rw [if_neg (nI_nn (by omega)), if_neg (show ¬ (4 : Int32) ≤ nI k by rw [q_l4, q_le (by omega) (by omega)]; omega), q_gd (by omega) (by omega), q_cl (by omega), bd1_e]
theorem v_store {l : List LT} {lk la ll pk pa pd br us sp zs zd zn zt zl zc sto sg : Nat → Int32} {s : Nat → Int32} {N d k : Nat} {pn dd F hu cn gn cs hu2 cn2 gn2 cs2 : Int32} (hk : k ≤ 2) (h : NightR l N d lk la ll us sp zs zd zn zt zl zc sto sg hu cn gn cs s) : fX6_storeOf (lk, la, ll, nI l.length, pk, pa, pd, pn, br, us, sp, zs, zd, zn, zt, zl, zc, nI N, sto, sg, dd, F, hu2, cn2, gn2, cs2) (nI k) 0 = some (nI (stN k l)) ∧ fX6_storeOf (lk, la, ll, nI l.length, pk, pa, pd, pn, br, us, sp, zs, zd, zn, zt, zl, zc, nI N, sto, sg, dd, F, hu2, cn2, gn2, cs2) (nI k) 1 = some (br k) ∧ fX6_storeOf (lk, la, ll, nI l.length, pk, pa, pd, pn, br, us, sp, zs, zd, zn, zt, zl, zc, nI N, sto, sg, dd, F, hu2, cn2, gn2, cs2) (nI k) 2 = some (us k) ∧ fX6_storeOf (lk, la, ll, nI l.length, pk, pa, pd, pn, br, us, sp, zs, zd, zn, zt, zl, zc, nI N, sto, sg, dd, F, hu2, cn2, gn2, cs2) (nI k) 3 = some (sp k) ∧ fX6_storeOf (lk, la, ll, nI l.length, pk, pa, pd, pn, br, us, sp, zs, zd, zn, zt, zl, zc, nI N, sto, sg, dd, F, hu2, cn2, gn2, cs2) (nI k) 4 = some (sumS (fun _ => nI 1) lk (nI k) 0 l.length (nI 0)) := by
  have gk : ∀ {α : Type} (y : Option α), gd (inB (nI k) 3) y = y := fun y => q_gd (by omega) (by omega)
  have ck : (nI k).toNatClampNeg = k := q_cl (by omega)
  have kk : fX4_isKind (nI k) = some (nI 1) := by
    unfold fX4_isKind
    rw [if_neg (nI_nn (by omega)), if_neg (show ¬ (3 : Int32) ≤ nI k by rw [q_l3, q_le (by omega) (by omega)]; omega), q_l1]
  obtain ⟨t1, -, -⟩ := h.stock hk
  unfold fX6_storeOf
  dsimp only
  rw [kk]
  simp only [bd1_e]
  refine ⟨?_, ?_, ?_, ?_, ?_⟩
  · rw [if_neg (by decide), if_true, t1, bd1_e]
  · rw [if_neg (by decide), if_neg (by decide), if_true, gk, ck]
  · rw [if_neg (by decide), if_neg (by decide), if_neg (by decide), if_true, gk, ck]
  · rw [if_neg (by decide), if_neg (by decide), if_neg (by decide), if_neg (by decide), if_true, gk, ck]
  · rw [if_neg (by decide), if_neg (by decide), if_neg (by decide), if_neg (by decide), if_neg (by decide), if_true, p_lotsOfKind h.1.1, bd1_e]
/-! ===== the digest ===== -/
def dg (f : Nat → Int32) : Nat → Nat → Int64 → Int64
  | _, 0, v => v
  | i, k + 1, v => dg f (i + 1) k ((31 : Int64) * v + (f i).toInt64)
theorem count_ind {ke lnn tl : Int32} {x : HutS} {k : Nat} (hk : k < 24) (hm : ¬ (11 < k ∧ k < 15)) : fX6_count ke lnn tl x (nI k) = fX6_count (nI 0) (nI 0) (nI 0) x (nI k) := by
  have n12 : ¬ nI k = (12 : Int32) := by rw [q_l12, q_eq (by omega) (by omega)]; omega
  have n13 : ¬ nI k = (13 : Int32) := by rw [q_l13, q_eq (by omega) (by omega)]; omega
  have n14 : ¬ nI k = (14 : Int32) := by rw [q_l14, q_eq (by omega) (by omega)]; omega
  unfold fX6_count
  simp only [n12, n13, n14, if_false]
theorem dg_party {ke lnn tl : Int32} {x : HutS} {N : Nat} {pt : Nat → Int32} (hN : N ≤ 17) (h0 : fX6_count ke lnn tl x 0 = some (nI N)) (hp : ∀ j, fX6_partyOf x (nI j / 7) (nI j - nI j / 7 * 7) = some (pt j)) : ∀ (k i n : Nat) (v : Int64), i + k = N * 7 → k < n → gl2 (sL_digest_rec13 ke lnn tl x) n (nI i) v = some (dg pt i k v) := by
  intro k
  induction k with
  | zero =>
    intro i n v hi hn
    obtain ⟨n, rfl⟩ := Nat.exists_eq_succ_of_ne_zero (Nat.ne_of_gt hn)
    show sL_digest_rec13 ke lnn tl x _ (nI i) v = _
    rw [sL_digest_rec13]
    rw [h0, bd1_e, if_pos (show nI N * (7 : Int32) ≤ nI i by rw [q_l7, pk_mul, q_le (by omega) (by omega)]; omega)]
    rfl
  | succ k ih =>
    intro i n v hi hn
    obtain ⟨n, rfl⟩ := Nat.exists_eq_succ_of_ne_zero (by omega : n ≠ 0)
    have e := ih (i + 1) n ((31 : Int64) * v + (pt i).toInt64) (by omega) (by omega)
    show sL_digest_rec13 ke lnn tl x (gl2 (sL_digest_rec13 ke lnn tl x) n) (nI i) v = _
    rw [sL_digest_rec13]
    rw [h0, bd1_e, if_neg (show ¬ nI N * (7 : Int32) ≤ nI i by rw [q_l7, pk_mul, q_le (by omega) (by omega)]; omega), hp i, bd1_e, q_jl, q_jl, q_l1, nI_add]
    exact e
theorem dg_lot {ke lnn tl : Int32} {x : HutS} {lt : Nat → Int32} (hp : ∀ j, fX6_lotOf x (nI j / 40) (nI j / 2 - nI j / 2 / 20 * 20) (nI j - nI j / 2 * 2) = some (lt j)) : ∀ (k i n : Nat) (v : Int64), i + k = 120 → k < n → gl2 (sL_digest_rec9 ke lnn tl x) n (nI i) v = gl2 (sL_digest_rec13 ke lnn tl x) gFU 0 (dg lt i k v) := by
  have q120 : (120 : Int32) = nI 120 := by decide
  intro k
  induction k with
  | zero =>
    intro i n v hi hn
    obtain ⟨n, rfl⟩ := Nat.exists_eq_succ_of_ne_zero (Nat.ne_of_gt hn)
    show sL_digest_rec9 ke lnn tl x _ (nI i) v = _
    rw [sL_digest_rec9]
    rw [if_pos (show (120 : Int32) ≤ nI i by rw [q120, q_le (by omega) (by omega)]; omega)]
    rfl
  | succ k ih =>
    intro i n v hi hn
    obtain ⟨n, rfl⟩ := Nat.exists_eq_succ_of_ne_zero (by omega : n ≠ 0)
    have e := ih (i + 1) n ((31 : Int64) * v + (lt i).toInt64) (by omega) (by omega)
    show sL_digest_rec9 ke lnn tl x (gl2 (sL_digest_rec9 ke lnn tl x) n) (nI i) v = _
    rw [sL_digest_rec9]
    rw [if_neg (show ¬ (120 : Int32) ≤ nI i by rw [q120, q_le (by omega) (by omega)]; omega), hp i, bd1_e, q_jl, q_jl, q_l1, nI_add]
    exact e
theorem dg_store {ke lnn tl : Int32} {x : HutS} {lt : Nat → Int32} (hp : ∀ j, fX6_storeOf x (nI j / 6) (nI j - nI j / 6 * 6) = some (lt j)) : ∀ (k i n : Nat) (v : Int64), i + k = 18 → k < n → gl2 (sL_digest_rec5 ke lnn tl x) n (nI i) v = gl2 (sL_digest_rec9 ke lnn tl x) gFU 0 (dg lt i k v) := by
  have q18 : (18 : Int32) = nI 18 := by decide
  intro k
  induction k with
  | zero =>
    intro i n v hi hn
    obtain ⟨n, rfl⟩ := Nat.exists_eq_succ_of_ne_zero (Nat.ne_of_gt hn)
    show sL_digest_rec5 ke lnn tl x _ (nI i) v = _
    rw [sL_digest_rec5]
    rw [if_pos (show (18 : Int32) ≤ nI i by rw [q18, q_le (by omega) (by omega)]; omega)]
    rfl
  | succ k ih =>
    intro i n v hi hn
    obtain ⟨n, rfl⟩ := Nat.exists_eq_succ_of_ne_zero (by omega : n ≠ 0)
    have e := ih (i + 1) n ((31 : Int64) * v + (lt i).toInt64) (by omega) (by omega)
    show sL_digest_rec5 ke lnn tl x (gl2 (sL_digest_rec5 ke lnn tl x) n) (nI i) v = _
    rw [sL_digest_rec5]
    rw [if_neg (show ¬ (18 : Int32) ≤ nI i by rw [q18, q_le (by omega) (by omega)]; omega), hp i, bd1_e, q_jl, q_jl, q_l1, nI_add]
    exact e
def dgm (c : Nat → Int32) (k : Nat) : Int32 := if 11 < k ∧ k < 15 then 0 else c k
theorem dg_count {ke lnn tl : Int32} {x : HutS} {c : Nat → Int32} (hp : ∀ j, j < 24 → ¬ (11 < j ∧ j < 15) → fX6_count ke lnn tl x (nI j) = some (c j)) : ∀ (k i n : Nat) (v : Int64), i + k = 24 → k < n → gl2 (sL_digest_rec1 ke lnn tl x) n (nI i) v = gl2 (sL_digest_rec5 ke lnn tl x) gFU 0 (dg (dgm c) i k v) := by
  have q24 : (24 : Int32) = nI 24 := by decide
  have q15 : (15 : Int32) = nI 15 := by decide
  intro k
  induction k with
  | zero =>
    intro i n v hi hn
    obtain ⟨n, rfl⟩ := Nat.exists_eq_succ_of_ne_zero (Nat.ne_of_gt hn)
    show sL_digest_rec1 ke lnn tl x _ (nI i) v = _
    rw [sL_digest_rec1]
    rw [if_pos (show (24 : Int32) ≤ nI i by rw [q24, q_le (by omega) (by omega)]; omega)]
    rfl
  | succ k ih =>
    intro i n v hi hn
    obtain ⟨n, rfl⟩ := Nat.exists_eq_succ_of_ne_zero (by omega : n ≠ 0)
    have e := ih (i + 1) n ((31 : Int64) * v + (dgm c i).toInt64) (by omega) (by omega)
    show sL_digest_rec1 ke lnn tl x (gl2 (sL_digest_rec1 ke lnn tl x) n) (nI i) v = _
    rw [sL_digest_rec1]
    rw [if_neg (show ¬ (24 : Int32) ≤ nI i by rw [q24, q_le (by omega) (by omega)]; omega), q_mrg]
    rw [show dg (dgm c) i (k + 1) v = dg (dgm c) (i + 1) k ((31 : Int64) * v + (dgm c i).toInt64) from rfl]
    by_cases c1 : i ≤ 11
    · have em : dgm c i = c i := if_neg (by omega)
      rw [if_pos (show nI i ≤ (11 : Int32) by rw [q_l11, q_le (by omega) (by omega)]; exact c1), hp i (by omega) (by omega), bd1_e, q_jl, q_jl, q_l1, nI_add, ← em]
      exact e
    · rw [if_neg (show ¬ nI i ≤ (11 : Int32) by rw [q_l11, q_le (by omega) (by omega)]; exact c1)]
      by_cases c2 : 15 ≤ i
      · have em : dgm c i = c i := if_neg (by omega)
        rw [if_pos (show (15 : Int32) ≤ nI i by rw [q15, q_le (by omega) (by omega)]; exact c2), hp i (by omega) (by omega), bd1_e, q_jl, q_jl, q_l1, nI_add, ← em]
        exact e
      · have em : dgm c i = 0 := if_pos (by omega)
        rw [em] at e ⊢
        rw [if_neg (show ¬ (15 : Int32) ≤ nI i by rw [q15, q_le (by omega) (by omega)]; exact c2), q_jl, q_jl, q_l1, nI_add]
        exact e
theorem digest_v {x : HutS} {s : Nat → Int32} (h : HR x s) : ∃ r, ∀ ke lnn tl, fL_digest ke lnn tl x = some r := by
  obtain ⟨pt, hpt⟩ := Classical.axiomOfChoice (r := fun (j : Nat) r => fX6_partyOf x (nI j / 7) (nI j - nI j / 7 * 7) = some r) (fun j => by obtain ⟨r, e, -⟩ := party_sim (nI j / 7) (nI j - nI j / 7 * 7) h; exact ⟨r, e⟩)
  obtain ⟨lt, hlt⟩ := Classical.axiomOfChoice (r := fun (j : Nat) r => fX6_lotOf x (nI j / 40) (nI j / 2 - nI j / 2 / 20 * 20) (nI j - nI j / 2 * 2) = some r) (fun j => by obtain ⟨r, e, -⟩ := lot_sim (nI j / 40) (nI j / 2 - nI j / 2 / 20 * 20) (nI j - nI j / 2 * 2) h; exact ⟨r, e⟩)
  obtain ⟨st, hst⟩ := Classical.axiomOfChoice (r := fun (j : Nat) r => fX6_storeOf x (nI j / 6) (nI j - nI j / 6 * 6) = some r) (fun j => by obtain ⟨r, e, -⟩ := store_sim (nI j / 6) (nI j - nI j / 6 * 6) h; exact ⟨r, e⟩)
  obtain ⟨c, hc⟩ := Classical.axiomOfChoice (r := fun (j : Nat) r => fX6_count (nI 0) (nI 0) (nI 0) x (nI j) = some r) (fun j => by obtain ⟨r, e, -⟩ := count_sim (ke := nI 0) (lnn := nI 0) (tl := nI 0) (ik := nI 0) (nI j) h rfl rfl (Or.inl ⟨rfl, rfl⟩); exact ⟨r, e⟩)
  obtain ⟨l, pl, N, d, F, lk, la, ll, us, sp, zs, zd, zn, zt, zl, zc, sto, sg, hu, cn, gn, cs, pk, pa, pd, br, hN, hd, rfl, hh⟩ := h
  refine ⟨dg pt 0 (N * 7) (dg lt 0 120 (dg st 0 18 (dg (dgm c) 0 24 73))), fun ke lnn tl => ?_⟩
  have c0 := (v_count (lk := lk) (la := la) (ll := ll) (n := nI l.length) (pk := pk) (pa := pa) (pd := pd) (pn := nI pl.length) (br := br) (us := us) (sp := sp) (zs := zs) (zd := zd) (zn := zn) (zt := zt) (zl := zl) (zc := zc) (sto := sto) (sg := sg) (d := nI d) (F := nI F) (hu := hu) (cn := cn) (gn := gn) (cs := cs) (ke := ke) (lnn := lnn) (tl := tl) (N := N) (by omega)).1
  unfold fL_digest
  rw [q_l0, dg_count (c := c) (fun j hj hm => (count_ind hj hm).trans (hc j)) 24 0 gFU 73 rfl (by unfold gFU; omega), q_l0, dg_store hst 18 0 gFU _ rfl (by unfold gFU; omega), q_l0, dg_lot hlt 120 0 gFU _ rfl (by unfold gFU; omega), q_l0]
  exact dg_party (by omega) c0 hpt (N * 7) 0 gFU _ (Nat.zero_add _) (by unfold gFU; omega)
