/-! ===== plain numbers: every int is nI of a natural number ===== -/
theorem q_in {i N : Nat} (h : i < N) (hN : N < 2 ^ 31) : inB (nI i) N = true := by
  simp only [inB, Bool.and_eq_true, decide_eq_true_eq, nI_toInt (Nat.lt_trans h hN)]
  omega
theorem q_gd {α : Type} {i N : Nat} {x : Option α} (h : i < N) (hN : N < 2 ^ 31) : gd (inB (nI i) N) x = x := by
  rw [q_in h hN]
  rfl
theorem q_jl {α β : Type} (e : α) (f : α → β) : jl e f = f e := rfl
theorem q_mrg {α β : Type} (K : α) (B : α → β) : mrg K B = B K := rfl
theorem q_cl {n : Nat} (h : n < 2 ^ 31) : (nI n).toNatClampNeg = n := nI_clamp h
theorem q_le {a b : Nat} (ha : a < 2 ^ 31) (hb : b < 2 ^ 31) : (nI a ≤ nI b) = (a ≤ b) := propext (nI_leI ha hb)
theorem q_lt {a b : Nat} (ha : a < 2 ^ 31) (hb : b < 2 ^ 31) : (nI a < nI b) = (a < b) := propext (nI_ltI ha hb)
theorem q_eq {a b : Nat} (ha : a < 2 ^ 31) (hb : b < 2 ^ 31) : (nI a = nI b) = (a = b) := propext (nI_eq ha hb)
theorem q_l0 : (0 : Int32) = nI 0 := rfl
theorem q_l1 : (1 : Int32) = nI 1 := rfl
theorem q_l2 : (2 : Int32) = nI 2 := rfl
theorem q_l3 : (3 : Int32) = nI 3 := rfl
theorem q_l4 : (4 : Int32) = nI 4 := rfl
theorem q_l5 : (5 : Int32) = nI 5 := rfl
theorem q_l6 : (6 : Int32) = nI 6 := rfl
theorem q_l23 : (23 : Int32) = nI 23 := rfl
theorem q_l41 : (41 : Int32) = nI 41 := rfl
theorem q_l101 : (101 : Int32) = nI 101 := rfl
/-- the sum of f over the places from i on (k of them) that g marks with c -/
def sumS (f g : Nat → Int32) (c : Int32) : Nat → Nat → Int32 → Int32
  | _, 0, v => v
  | i, k + 1, v => sumS f g c (i + 1) k (if g i = c then v + f i else v)
theorem sum_loop {st : (Int32 → Int32 → Option Int32) → Int32 → Int32 → Option Int32} {f g : Nat → Int32} {c : Int32} {N : Nat} (hx : ∀ rec v, st rec (nI N) v = some v) (hs : ∀ rec i v, i < N → st rec (nI i) v = rec (nI (i + 1)) (if g i = c then v + f i else v)) : ∀ (k i n : Nat) (v : Int32), i + k = N → k < n → gl2 st n (nI i) v = some (sumS f g c i k v) := by
  intro k
  induction k with
  | zero =>
    intro i n v hi hn
    obtain ⟨n, rfl⟩ := Nat.exists_eq_succ_of_ne_zero (Nat.ne_of_gt hn)
    have : i = N := by omega
    subst this
    exact hx _ _
  | succ k ih =>
    intro i n v hi hn
    obtain ⟨n, rfl⟩ := Nat.exists_eq_succ_of_ne_zero (by omega : n ≠ 0)
    show st (gl2 st n) (nI i) v = _
    rw [hs _ _ _ (by omega), ih (i + 1) n _ (by omega) (by omega)]
    rfl
theorem p_guests {zs zt : Nat → Int32} {N : Nat} (hN : N ≤ 17) : fX2_guests zs zt (nI N) = some (sumS zs zt 1 0 N 0) := by
  unfold fX2_guests
  refine sum_loop (N := N) (fun rec v => ?_) (fun rec i v hi => ?_) N 0 gFU 0 (by omega) (by unfold gFU; omega)
  · simp (disch := omega) only [sX2_guests_rec1, q_le, Nat.le_refl, if_true]
  · simp (disch := omega) only [sX2_guests_rec1, q_le, q_gd, q_cl, q_jl, if_neg (Nat.not_le.mpr hi), q_l1, nI_add]
    split <;> rfl
theorem p_stock {lk la : Nat → Int32} {N : Nat} {c : Int32} (hN : N ≤ 20) : fX4_stock lk la (nI N) c = some (sumS la lk c 0 N 0) := by
  unfold fX4_stock
  refine sum_loop (N := N) (fun rec v => ?_) (fun rec i v hi => ?_) N 0 gFU 0 (by omega) (by unfold gFU; omega)
  · simp (disch := omega) only [sX4_stock_rec1, q_le, Nat.le_refl, if_true]
  · simp (disch := omega) only [sX4_stock_rec1, q_le, q_gd, q_cl, q_jl, if_neg (Nat.not_le.mpr hi), q_l1, nI_add]
    split <;> rfl
theorem m_ofParty {s : Nat → Int32} {k j : Nat} (hk : k ≤ 16) (hj : j ≤ 5) : fX7_ofParty s (nI k) (nI j) = some (s (101 + 6 * k + j)) := by
  unfold fX7_ofParty
  simp (disch := omega) only [q_l101, q_l6, pk_mul, nI_add, q_gd, q_cl]
theorem m_guests {s : Nat → Int32} {N : Nat} (h4 : s 4 = nI N) (hN : N ≤ 17) : fX7_guests s = some (sumS (fun k => s (101 + 6 * k)) (fun k => s (101 + 6 * k + 3)) 1 0 N 0) := by
  unfold fX7_guests
  refine sum_loop (N := N) (fun rec v => ?_) (fun rec i v hi => ?_) N 0 gFU 0 (by omega) (by unfold gFU; omega)
  · simp (disch := omega) only [sX7_guests_rec1, q_l4, q_gd, q_cl, h4, q_le, Nat.le_refl, if_true]
  · simp (disch := omega) only [sX7_guests_rec1, q_l4, q_l3, q_l0, q_gd, q_cl, h4, q_le, if_neg (Nat.not_le.mpr hi), m_ofParty, bd1_e, q_jl, q_l1, nI_add]
    split
    · simp only [Nat.add_zero]
    · show rec _ (v + 0) = _
      rw [Int32.add_zero]
