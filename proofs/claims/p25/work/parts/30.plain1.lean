/-! ===== plain numbers: every int is nI of a natural number ===== -/
theorem q_in {i N : Nat} (h : i < N) (hN : N < 2 ^ 31) : inB (nI i) N = true := by
  simp only [inB, Bool.and_eq_true, decide_eq_true_eq, nI_toInt (Nat.lt_trans h hN)]
  omega
theorem q_gd {α : Type} {i N : Nat} {x : Option α} (h : i < N) (hN : N < 2 ^ 31) : gd (inB (nI i) N) x = x := by
  rw [q_in h hN]
  rfl
theorem q_jl {α β : Type} (e : α) (f : α → β) : jl e f = f e := rfl
theorem q_mrg {α β : Type} (K : α) (B : α → β) : mrg K B = B K := rfl
theorem q_cl {n : Nat} (h : n < 2 ^ 31) : (nI n).toNatClampNeg = n := nI_clamp h
theorem q_le {a b : Nat} (ha : a < 2 ^ 31) (hb : b < 2 ^ 31) : (nI a ≤ nI b) = (a ≤ b) := propext (nI_leI ha hb)
theorem q_lt {a b : Nat} (ha : a < 2 ^ 31) (hb : b < 2 ^ 31) : (nI a < nI b) = (a < b) := propext (nI_ltI ha hb)
theorem q_eq {a b : Nat} (ha : a < 2 ^ 31) (hb : b < 2 ^ 31) : (nI a = nI b) = (a = b) := propext (nI_eq ha hb)
theorem q_l0 : (0 : Int32) = nI 0 := by decide
theorem q_l1 : (1 : Int32) = nI 1 := by decide
theorem q_l2 : (2 : Int32) = nI 2 := by decide
theorem q_l3 : (3 : Int32) = nI 3 := by decide
theorem q_l4 : (4 : Int32) = nI 4 := by decide
theorem q_l5 : (5 : Int32) = nI 5 := by decide
theorem q_l6 : (6 : Int32) = nI 6 := by decide
theorem q_l7 : (7 : Int32) = nI 7 := by decide
theorem q_l8 : (8 : Int32) = nI 8 := by decide
theorem q_l9 : (9 : Int32) = nI 9 := by decide
theorem q_l10 : (10 : Int32) = nI 10 := by decide
theorem q_l11 : (11 : Int32) = nI 11 := by decide
theorem q_l12 : (12 : Int32) = nI 12 := by decide
theorem q_l13 : (13 : Int32) = nI 13 := by decide
theorem q_l14 : (14 : Int32) = nI 14 := by decide
theorem q_l16 : (16 : Int32) = nI 16 := by decide
theorem q_l17 : (17 : Int32) = nI 17 := by decide
theorem q_l20 : (20 : Int32) = nI 20 := by decide
theorem q_l23 : (23 : Int32) = nI 23 := by decide
theorem q_l31 : (31 : Int32) = nI 31 := by decide
theorem q_l40 : (40 : Int32) = nI 40 := by decide
theorem q_l41 : (41 : Int32) = nI 41 := by decide
theorem q_l60 : (60 : Int32) = nI 60 := by decide
theorem q_l101 : (101 : Int32) = nI 101 := by decide
theorem q_l203 : (203 : Int32) = nI 203 := by decide
theorem q_l365 : (365 : Int32) = nI 365 := by decide
theorem q_l395 : (395 : Int32) = nI 395 := by decide
theorem q_l396 : (396 : Int32) = nI 396 := by decide
theorem q_l599 : (599 : Int32) = nI 599 := by decide
theorem q_l999 : (999 : Int32) = nI 999 := by decide
theorem q_l1000 : (1000 : Int32) = nI 1000 := by decide
theorem q_l1797 : (1797 : Int32) = nI 1797 := by decide
theorem q_l2396 : (2396 : Int32) = nI 2396 := by decide
/-- the sum of f over the places from i on (k of them) that g marks with c -/
def sumS (f g : Nat → Int32) (c : Int32) : Nat → Nat → Int32 → Int32
  | _, 0, v => v
  | i, k + 1, v => sumS f g c (i + 1) k (if g i = c then v + f i else v)
theorem sum_loop {st : (Int32 → Int32 → Option Int32) → Int32 → Int32 → Option Int32} {f g : Nat → Int32} {c : Int32} {N : Nat} (hx : ∀ rec v, st rec (nI N) v = some v) (hs : ∀ rec i v, i < N → st rec (nI i) v = rec (nI (i + 1)) (if g i = c then v + f i else v)) : ∀ (k i n : Nat) (v : Int32), i + k = N → k < n → gl2 st n (nI i) v = some (sumS f g c i k v) := by
  intro k
  induction k with
  | zero =>
    intro i n v hi hn
    obtain ⟨n, rfl⟩ := Nat.exists_eq_succ_of_ne_zero (Nat.ne_of_gt hn)
    have : i = N := by omega
    subst this
    exact hx _ _
  | succ k ih =>
    intro i n v hi hn
    obtain ⟨n, rfl⟩ := Nat.exists_eq_succ_of_ne_zero (by omega : n ≠ 0)
    show st (gl2 st n) (nI i) v = _
    rw [hs _ _ _ (by omega), ih (i + 1) n _ (by omega) (by omega)]
    rfl
theorem p_guests {zs zt : Nat → Int32} {N : Nat} (hN : N ≤ 17) : fX2_guests zs zt (nI N) = some (sumS zs zt (nI 1) 0 N (nI 0)) := by
  unfold fX2_guests
  refine sum_loop (N := N) (fun rec v => ?_) (fun rec i v hi => ?_) N 0 gFU (nI 0) (by omega) (by unfold gFU; omega)
  · simp (disch := omega) only [sX2_guests_rec1, q_le, Nat.le_refl, if_true]
  · simp (disch := omega) only [sX2_guests_rec1, q_le, q_gd, q_cl, q_jl, if_neg (Nat.not_le.mpr hi), q_l1, nI_add]
    split <;> rename_i hq <;> simp only [hq, if_true, if_false]
theorem p_stock {lk la : Nat → Int32} {N : Nat} {c : Int32} (hN : N ≤ 20) : fX4_stock lk la (nI N) c = some (sumS la lk c 0 N (nI 0)) := by
  unfold fX4_stock
  refine sum_loop (N := N) (fun rec v => ?_) (fun rec i v hi => ?_) N 0 gFU (nI 0) (by omega) (by unfold gFU; omega)
  · simp (disch := omega) only [sX4_stock_rec1, q_le, Nat.le_refl, if_true]
  · simp (disch := omega) only [sX4_stock_rec1, q_le, q_gd, q_cl, q_jl, if_neg (Nat.not_le.mpr hi), q_l1, nI_add]
    split <;> rename_i hq <;> simp only [hq, if_true, if_false]
theorem m_ofParty {s : Nat → Int32} {k j : Nat} (hk : k ≤ 16) (hj : j ≤ 5) : fX7_ofParty s (nI k) (nI j) = some (s (101 + 6 * k + j)) := by
  unfold fX7_ofParty
  simp (disch := omega) only [q_l101, q_l6, pk_mul, nI_add, q_gd, q_cl]
theorem q_z (v : Int32) : v + nI 0 = v := Int32.add_zero v
theorem m_guests {s : Nat → Int32} {N : Nat} (h4 : s 4 = nI N) (hN : N ≤ 17) : fX7_guests s = some (sumS (fun k => s (101 + 6 * k)) (fun k => s (101 + 6 * k + 3)) (nI 1) 0 N (nI 0)) := by
  unfold fX7_guests
  refine sum_loop (N := N) (fun rec v => ?_) (fun rec i v hi => ?_) N 0 gFU (nI 0) (by omega) (by unfold gFU; omega)
  · simp (disch := omega) only [sX7_guests_rec1, q_l4, q_gd, q_cl, h4, q_le, Nat.le_refl, if_true]
  · simp (disch := omega) only [sX7_guests_rec1, q_l4, q_l3, q_l0, q_gd, q_cl, h4, q_le, if_neg (Nat.not_le.mpr hi), m_ofParty, bd1_e, q_jl, q_l1, nI_add]
    split <;> rename_i hq <;> simp only [hq, if_true, if_false, Nat.add_zero, q_z]
theorem m_ofLot {s : Nat → Int32} {k j : Nat} (hk : k ≤ 19) (hj : j ≤ 2) : fX7_ofLot s (nI k) (nI j) = some (s (41 + 3 * k + j)) := by
  unfold fX7_ofLot
  simp (disch := omega) only [q_l41, q_l3, pk_mul, nI_add, q_gd, q_cl]
theorem m_setParty {s : Nat → Int32} {k j : Nat} {v : Int32} (hk : k ≤ 16) (hj : j ≤ 5) : fX7_setParty s (nI k) (nI j) v = some (upd s (101 + 6 * k + j) v) := by
  unfold fX7_setParty
  simp (disch := omega) only [q_l101, q_l6, pk_mul, nI_add, q_gd, q_cl, q_jl]
theorem m_stock {s : Nat → Int32} {N : Nat} {c : Int32} (h2 : s 2 = nI N) (hN : N ≤ 20) : fX7_stock s c = some (sumS (fun k => s (41 + 3 * k + 1)) (fun k => s (41 + 3 * k)) c 0 N (nI 0)) := by
  unfold fX7_stock
  refine sum_loop (N := N) (fun rec v => ?_) (fun rec i v hi => ?_) N 0 gFU (nI 0) (by omega) (by unfold gFU; omega)
  · simp (disch := omega) only [sX7_stock_rec1, q_l2, q_gd, q_cl, h2, q_le, Nat.le_refl, if_true]
  · simp (disch := omega) only [sX7_stock_rec1, q_l2, q_l0, q_l1, q_gd, q_cl, h2, q_le, if_neg (Nat.not_le.mpr hi), m_ofLot, bd1_e, q_jl, nI_add, Nat.add_zero]
    split <;> rename_i hq <;> simp only [hq, if_true, if_false, Nat.add_zero, q_z]
theorem p_withStatus {zt : Nat → Int32} {N : Nat} {c : Int32} (hN : N ≤ 17) : fX2_withStatus zt (nI N) c = some (sumS (fun _ => nI 1) zt c 0 N (nI 0)) := by
  unfold fX2_withStatus
  refine sum_loop (N := N) (fun rec v => ?_) (fun rec i v hi => ?_) N 0 gFU (nI 0) (by omega) (by unfold gFU; omega)
  · simp (disch := omega) only [sX2_withStatus_rec1, q_le, Nat.le_refl, if_true]
  · simp (disch := omega) only [sX2_withStatus_rec1, q_le, q_gd, q_cl, q_jl, if_neg (Nat.not_le.mpr hi), q_l1, nI_add]
    split <;> rename_i hq <;> simp only [hq, if_true, if_false]
theorem m_partiesOf {s : Nat → Int32} {N : Nat} {c : Int32} (h4 : s 4 = nI N) (hN : N ≤ 17) : fX7_partiesOf s c = some (sumS (fun _ => nI 1) (fun k => s (101 + 6 * k + 3)) c 0 N (nI 0)) := by
  unfold fX7_partiesOf
  refine sum_loop (N := N) (fun rec v => ?_) (fun rec i v hi => ?_) N 0 gFU (nI 0) (by omega) (by unfold gFU; omega)
  · simp (disch := omega) only [sX7_partiesOf_rec1, q_l4, q_gd, q_cl, h4, q_le, Nat.le_refl, if_true]
  · simp (disch := omega) only [sX7_partiesOf_rec1, q_l4, q_l3, q_l0, q_gd, q_cl, h4, q_le, if_neg (Nat.not_le.mpr hi), m_ofParty, bd1_e, q_jl, q_l1, nI_add]
    split <;> rename_i hq <;> simp only [hq, if_true, if_false, Nat.add_zero, q_z]
theorem p_lotsOfKind {lk : Nat → Int32} {N : Nat} {c : Int32} (hN : N ≤ 20) : fX4_lotsOfKind lk (nI N) c = some (sumS (fun _ => nI 1) lk c 0 N (nI 0)) := by
  unfold fX4_lotsOfKind
  refine sum_loop (N := N) (fun rec v => ?_) (fun rec i v hi => ?_) N 0 gFU (nI 0) (by omega) (by unfold gFU; omega)
  · simp (disch := omega) only [sX4_lotsOfKind_rec1, q_le, Nat.le_refl, if_true]
  · simp (disch := omega) only [sX4_lotsOfKind_rec1, q_le, q_gd, q_cl, q_jl, if_neg (Nat.not_le.mpr hi), q_l1, nI_add]
    split <;> rename_i hq <;> simp only [hq, if_true, if_false]
theorem m_lotsOf {s : Nat → Int32} {N : Nat} {c : Int32} (h2 : s 2 = nI N) (hN : N ≤ 20) : fX7_lotsOf s c = some (sumS (fun _ => nI 1) (fun k => s (41 + 3 * k)) c 0 N (nI 0)) := by
  unfold fX7_lotsOf
  refine sum_loop (N := N) (fun rec v => ?_) (fun rec i v hi => ?_) N 0 gFU (nI 0) (by omega) (by unfold gFU; omega)
  · simp (disch := omega) only [sX7_lotsOf_rec1, q_l2, q_gd, q_cl, h2, q_le, Nat.le_refl, if_true]
  · simp (disch := omega) only [sX7_lotsOf_rec1, q_l2, q_l0, q_l1, q_gd, q_cl, h2, q_le, if_neg (Nat.not_le.mpr hi), m_ofLot, bd1_e, q_jl, nI_add, Nat.add_zero]
    split <;> rename_i hq <;> simp only [hq, if_true, if_false, Nat.add_zero, q_z]
theorem p_amountOnPallet {pk pa : Nat → Int32} {N : Nat} {c : Int32} (hN : N ≤ 6) : fX4_amountOnPallet pk pa (nI N) c = some (sumS pa pk c 0 N (nI 0)) := by
  unfold fX4_amountOnPallet
  refine sum_loop (N := N) (fun rec v => ?_) (fun rec i v hi => ?_) N 0 gFU (nI 0) (by omega) (by unfold gFU; omega)
  · simp (disch := omega) only [sX4_amountOnPallet_rec1, q_le, Nat.le_refl, if_true]
  · simp (disch := omega) only [sX4_amountOnPallet_rec1, q_le, q_gd, q_cl, q_jl, if_neg (Nat.not_le.mpr hi), q_l1, nI_add]
    split <;> rename_i hq <;> simp only [hq, if_true, if_false]
theorem m_loadedOf {s : Nat → Int32} {N : Nat} {c : Int32} (h3 : s 3 = nI N) (hN : N ≤ 6) : fX7_loadedOf s c = some (sumS (fun k => s (23 + 3 * k + 1)) (fun k => s (23 + 3 * k)) c 0 N (nI 0)) := by
  unfold fX7_loadedOf
  refine sum_loop (N := N) (fun rec v => ?_) (fun rec i v hi => ?_) N 0 gFU (nI 0) (by omega) (by unfold gFU; omega)
  · simp (disch := omega) only [sX7_loadedOf_rec1, q_l3, q_gd, q_cl, h3, q_le, Nat.le_refl, if_true]
  · simp (disch := omega) only [sX7_loadedOf_rec1, q_l3, q_l0, q_l1, q_l23, pk_mul, q_gd, q_cl, h3, q_le, if_neg (Nat.not_le.mpr hi), q_jl, nI_add]
    split <;> rename_i hq <;> simp only [hq, if_true, if_false, Nat.add_zero, q_z]
/-- sums look at their places alone -/
theorem sumS_congr {f g f2 g2 : Nat → Int32} {c : Int32} : ∀ (k i : Nat) (v : Int32), (∀ j, i ≤ j → j < i + k → f j = f2 j ∧ g j = g2 j) → sumS f g c i k v = sumS f2 g2 c i k v := by
  intro k
  induction k with
  | zero => intro i v _; rfl
  | succ k ih =>
    intro i v h
    obtain ⟨h1, h2⟩ := h i (Nat.le_refl _) (by omega)
    show sumS f g c (i + 1) k _ = sumS f2 g2 c (i + 1) k _
    rw [h1, h2]
    exact ih (i + 1) _ (fun j a b => h j (by omega) (by omega))
/-- a loop that writes one place at a time, each by what stood in its own neighbourhood -/
theorem scat_loop {R : Type} {st : (Int32 → (Nat → Int32) → Option R) → Int32 → (Nat → Int32) → Option R} {out : (Nat → Int32) → Option R} (pos : Nat → Nat) (F : Nat → (Nat → Int32) → Int32) (N : Nat) (I : (Nat → Int32) → Prop)
    (hI : ∀ a i v, I a → i < N → I (upd a (pos i) v)) (hx : ∀ rec a, I a → st rec (nI N) a = out a) (hs : ∀ rec i a, i < N → I a → st rec (nI i) a = rec (nI (i + 1)) (upd a (pos i) (F i a)))
    (hinj : ∀ i m, i < N → m < N → i ≠ m → pos i ≠ pos m) (hF : ∀ i m a v, i < N → m < N → i ≠ m → F m (upd a (pos i) v) = F m a) :
    ∀ (k i n : Nat) (a : Nat → Int32), i + k = N → k < n → I a → ∃ a', gl2 st n (nI i) a = out a' ∧ I a' ∧ (∀ m, i ≤ m → m < N → a' (pos m) = F m a) ∧ (∀ j, (∀ m, i ≤ m → m < N → j ≠ pos m) → a' j = a j) := by
  intro k
  induction k with
  | zero =>
    intro i n a hi hn ha
    obtain ⟨n, rfl⟩ := Nat.exists_eq_succ_of_ne_zero (Nat.ne_of_gt hn)
    have : i = N := by omega
    subst this
    exact ⟨a, hx _ _ ha, ha, fun m h1 h2 => absurd h2 (by omega), fun _ _ => rfl⟩
  | succ k ih =>
    intro i n a hi hn ha
    obtain ⟨n, rfl⟩ := Nat.exists_eq_succ_of_ne_zero (by omega : n ≠ 0)
    obtain ⟨a', h1, h2, h3, h4⟩ := ih (i + 1) n (upd a (pos i) (F i a)) (by omega) (by omega) (hI a i _ ha (by omega))
    refine ⟨a', ?_, h2, fun m hm1 hm2 => ?_, fun j hj => ?_⟩
    · show st (gl2 st n) (nI i) a = _
      rw [hs _ _ _ (by omega) ha]
      exact h1
    · by_cases hm : m = i
      · subst hm
        rw [h4 (pos m) (fun q q1 q2 => hinj m q (by omega) q2 (by omega))]
        exact pk_us
      · rw [h3 m (by omega) hm2, hF i m a _ (by omega) hm2 (fun e => hm e.symm)]
    · rw [h4 j (fun m q1 q2 => hj m (by omega) q2)]
      exact pk_un (hj i (Nat.le_refl _) (by omega))
theorem upd_same (f : Nat → Int32) (k : Nat) : upd f k (f k) = f := by
  funext j
  unfold upd
  split
  · rename_i h; rw [h]
  · rfl
