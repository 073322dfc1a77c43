/-! ===== parties: who comes (both programs side by side) ===== -/
theorem q_free {B g z : Nat} (hB : B < 2 ^ 29) (hg : g < 2 ^ 29) (hz : z < 2 ^ 29) : (nI B - nI g < nI z) = (nI B < nI g + nI z) := by
  apply propext
  rw [nI_add, Int32.lt_iff_toInt_lt, Int32.lt_iff_toInt_lt]
  simp (disch := omega) only [pk_sub_toInt, nI_toInt]
  omega
theorem sumS_nat {f g : Nat → Int32} {c : Int32} {M : Nat} : ∀ (k i a : Nat), (∀ j, i ≤ j → j < i + k → ∃ z, z ≤ M ∧ f j = nI z) → ∃ b, sumS f g c i k (nI a) = nI b ∧ a ≤ b ∧ b ≤ a + M * k := by
  intro k
  induction k with
  | zero => intro i a _; exact ⟨a, rfl, Nat.le_refl _, by omega⟩
  | succ k ih =>
    intro i a h
    obtain ⟨z, hz, e⟩ := h i (Nat.le_refl _) (by omega)
    show ∃ b, sumS f g c (i + 1) k (if g i = c then nI a + f i else nI a) = nI b ∧ a ≤ b ∧ b ≤ a + M * (k + 1)
    have hm : M * (k + 1) = M * k + M := Nat.mul_succ M k
    by_cases hc : g i = c
    · rw [if_pos hc, e, nI_add]
      obtain ⟨b, h1, h2, h3⟩ := ih (i + 1) (a + z) (fun j q1 q2 => h j (by omega) (by omega))
      exact ⟨b, h1, by omega, by omega⟩
    · rw [if_neg hc]
      obtain ⟨b, h1, h2, h3⟩ := ih (i + 1) a (fun j q1 q2 => h j (by omega) (by omega))
      exact ⟨b, h1, by omega, by omega⟩
theorem sumS_add {f g : Nat → Int32} {c : Int32} : ∀ (k i : Nat) (v w : Int32), sumS f g c i k (v + w) = sumS f g c i k v + w := by
  intro k
  induction k with
  | zero => intro i v w; rfl
  | succ k ih =>
    intro i v w
    show sumS f g c (i + 1) k (if g i = c then v + w + f i else v + w) = sumS f g c (i + 1) k (if g i = c then v + f i else v) + w
    rw [← ih]
    congr 1
    split
    · rw [Int32.add_assoc, Int32.add_comm w, ← Int32.add_assoc]
    · rfl
/-- a place is marked that wasn't -/
theorem sumS_mark {f g : Nat → Int32} {c : Int32} {p : Nat} (hp : g p ≠ c) : ∀ (k i : Nat) (v : Int32), i ≤ p → p < i + k → sumS f (upd g p c) c i k v = sumS f g c i k v + f p := by
  intro k
  induction k with
  | zero => intro i v h1 h2; omega
  | succ k ih =>
    intro i v h1 h2
    show sumS f (upd g p c) c (i + 1) k (if upd g p c i = c then v + f i else v) = sumS f g c (i + 1) k (if g i = c then v + f i else v) + f p
    by_cases hi : i = p
    · subst hi
      rw [pk_us, if_pos rfl, if_neg hp, sumS_add]
      congr 1
      exact sumS_congr k (i + 1) v (fun j q1 _ => ⟨rfl, pk_un (by omega)⟩)
    · rw [pk_un hi]
      exact ih (i + 1) _ (by omega) (by omega)
/-- a place that isn't marked gets another mark -/
theorem sumS_other {f g : Nat → Int32} {c x : Int32} {p : Nat} (hp : g p ≠ c) (hx : x ≠ c) (k i : Nat) : ∀ v : Int32, sumS f (upd g p x) c i k v = sumS f g c i k v := by
  induction k generalizing i with
  | zero => intro v; rfl
  | succ k ih =>
    intro v
    show sumS f (upd g p x) c (i + 1) k (if upd g p x i = c then v + f i else v) = sumS f g c (i + 1) k (if g i = c then v + f i else v)
    rw [ih]
    congr 1
    by_cases hi : i = p
    · subst hi
      rw [pk_us, if_neg hx, if_neg hp]
    · rw [pk_un hi]
/-- what both hold of the parties, but the nights that they slept -/
def RP (N : Nat) (zs zd zn zt zc s : Nat → Int32) : Prop := ∀ j, j < N → s (101 + 6 * j) = zs j ∧ s (101 + 6 * j + 1) = zd j ∧ s (101 + 6 * j + 2) = zn j ∧ s (101 + 6 * j + 3) = zt j ∧ s (101 + 6 * j + 5) = zc j + nI 1
theorem RP.guests {N : Nat} {zs zd zn zt zc s : Nat → Int32} (h : RP N zs zd zn zt zc s) (c v : Int32) : sumS (fun k => s (101 + 6 * k)) (fun k => s (101 + 6 * k + 3)) c 0 N v = sumS zs zt c 0 N v :=
  sumS_congr N 0 v (fun j _ hj => ⟨(h j (by omega)).1, (h j (by omega)).2.2.2.1⟩)
theorem m_arrives {s : Nat → Int32} {i d N G B : Nat} {z sv : Int32} (hi : i ≤ 16) (hd : d < 1000) (hN : N ≤ 17) (h0 : s 0 = nI d) (h4 : s 4 = nI N) (h10 : s 10 = nI B) (hz : s (101 + 6 * i) = z) (hsv : (if d < 396 ∧ s (203 + d) = nI 1 then nI 1 else nI 0) = sv) (hG : sumS (fun k => s (101 + 6 * k)) (fun k => s (101 + 6 * k + 3)) (nI 1) 0 N (nI 0) = nI G) :
    fX7_arrives s (nI i) = some (if nI d < s (101 + 6 * i + 1) + s (101 + 6 * i + 2) then (if sv = nI 0 then (if nI B < nI G + z then upd (upd (upd s (101 + 6 * i + 3) (nI 3)) (101 + 6 * i + 5) (nI 0)) 9 (s 9 + nI 1) else upd (upd (upd s (101 + 6 * i + 3) (nI 1)) (101 + 6 * i + 5) (nI d + nI 1)) 9 (s 9 + nI 0)) else s) else upd s (101 + 6 * i + 3) (nI 3)) := by
  unfold fX7_arrives
  have nf : (nI 1 = nI 0) = False := by decide
  by_cases c1 : nI d < s (101 + 6 * i + 1) + s (101 + 6 * i + 2)
  · by_cases c2 : sv = nI 0
    · by_cases c3 : nI B < nI G + z
      · simp (disch := omega) only [q_l0, q_l1, q_l2, q_l3, q_l5, q_l9, q_l10, m_ofParty, bd1_e, q_gd, q_cl, h0, m_isStorm, hsv, Nat.add_zero, m_guests h4 hN, hG, h10, hz, q_mrg, m_setParty, q_jl, pk_us, pk_un, c1, c2, c3, if_true, if_false]
      · simp (disch := omega) only [q_l0, q_l1, q_l2, q_l3, q_l5, q_l9, q_l10, m_ofParty, bd1_e, q_gd, q_cl, h0, m_isStorm, hsv, Nat.add_zero, m_guests h4 hN, hG, h10, hz, q_mrg, m_setParty, q_jl, pk_us, pk_un, c1, c2, c3, nf, if_true, if_false]
    · simp (disch := omega) only [q_l0, q_l1, q_l2, m_ofParty, bd1_e, q_gd, q_cl, h0, m_isStorm, hsv, c1, c2, if_true, if_false]
  · simp (disch := omega) only [q_l0, q_l1, q_l2, q_l3, m_ofParty, bd1_e, q_gd, q_cl, h0, m_setParty, c1, if_false]
/-- what becomes of one party in step 2 -/
def arrO (d : Nat) (sv zd zn zt zc zt2 zc2 : Int32) : Prop :=
  (zt2 = zt ∧ zc2 = zc ∧ (zt ≠ nI 0 ∨ nI d < zd ∨ (nI d < zd + zn ∧ sv ≠ nI 0))) ∨ (zt = nI 0 ∧ ¬ nI d < zd ∧ ((zt2 = nI 3 ∧ zc2 = zc) ∨ (zt2 = nI 1 ∧ zc2 = nI d ∧ nI d < zd + zn ∧ sv = nI 0)))
theorem arrive_sim {zs zd zn : Nat → Int32} {N d B : Nat} {sv : Int32} (hN : N ≤ 17) (hd : d < 1000) (hB : B ≤ 40) (hzs : ∀ j, j < N → ∃ z, z ≤ 6 ∧ zs j = nI z) (hsv : sv = nI 0 ∨ sv = nI 1) :
    ∀ (k i : Nat) (v4 : Int32) (zt zc s : Nat → Int32), i + k = N → RP N zs zd zn zt zc s → s 4 = nI N → s 0 = nI d → s 10 = nI B → (if d < 396 ∧ s (203 + d) = nI 1 then nI 1 else nI 0) = sv → (∀ j, i ≤ j → j < N → zt j = nI 0 → zc j + nI 1 = nI 0) → ∀ (n m : Nat), k < n →
    ∃ (zt' zc' s' : Nat → Int32) (v4' : Int32) (cnt : Nat), gl5 (sX2_arrive_rec1 zs zd zn (nI N) (nI d) sv) n (nI i) (nI B - sumS zs zt (nI 1) 0 N (nI 0)) v4 zt zc = gd (nzB v4') (some (v4', zt', zc')) ∧ gl2 sX7_night_rec9 (k + m) (nI i) s = gl2 sX7_night_rec9 m (nI N) s' ∧
      RP N zs zd zn zt' zc' s' ∧ (∀ j, (∀ q, q < N → j ≠ 101 + 6 * q + 3 ∧ j ≠ 101 + 6 * q + 5) → j ≠ 9 → s' j = s j) ∧ s' 9 = s 9 + nI cnt ∧ cnt ≤ k ∧ (cnt = 0 → v4' = v4) ∧ (0 < cnt → v4' = nI 0) ∧
      (∀ j, i ≤ j → j < N → arrO d sv (zd j) (zn j) (zt j) (zc j) (zt' j) (zc' j)) ∧ (∀ j, j < i ∨ N ≤ j → zt' j = zt j ∧ zc' j = zc j) := by
  intro k
  induction k with
  | zero =>
    intro i v4 zt zc s hi hR h4 h0 h10 hst hzc n m hn
    obtain ⟨n, rfl⟩ := Nat.exists_eq_succ_of_ne_zero (Nat.ne_of_gt hn)
    have : i = N := by omega
    subst this
    refine ⟨zt, zc, s, v4, 0, ?_, by rw [Nat.zero_add], hR, fun _ _ _ => rfl, (q_z _).symm, Nat.le_refl _, fun _ => rfl, fun h => absurd h (by omega), fun j h1 h2 => absurd h2 (by omega), fun _ _ => ⟨rfl, rfl⟩⟩
    show sX2_arrive_rec1 zs zd zn (nI i) (nI d) sv _ (nI i) _ v4 zt zc = _
    simp (disch := omega) only [sX2_arrive_rec1, q_le, Nat.le_refl, if_true]
  | succ k ih =>
    intro i v4 zt zc s hi hR h4 h0 h10 hst hzc n m hn
    obtain ⟨n, rfl⟩ := Nat.exists_eq_succ_of_ne_zero (by omega : n ≠ 0)
    have hiN : i < N := by omega
    obtain ⟨r1, r2, r3, r4, r5⟩ := hR i hiN
    have ngt : ¬ N ≤ i := Nat.not_le.mpr hiN
    have nf : (nI 1 = nI 0) = False := by decide
    rw [show k + 1 + m = (k + m) + 1 by omega]
    -- the class's and the reference's own step
    show ∃ (zt' zc' s' : Nat → Int32) (v4' : Int32) (cnt : Nat), sX2_arrive_rec1 zs zd zn (nI N) (nI d) sv (gl5 (sX2_arrive_rec1 zs zd zn (nI N) (nI d) sv) n) (nI i) (nI B - sumS zs zt (nI 1) 0 N (nI 0)) v4 zt zc = gd (nzB v4') (some (v4', zt', zc')) ∧ sX7_night_rec9 (gl2 sX7_night_rec9 (k + m)) (nI i) s = gl2 sX7_night_rec9 m (nI N) s' ∧ _
    -- nothing is changed at this party
    have keep : (zt i ≠ nI 0 ∨ nI d < zd i ∨ (nI d < zd i + zn i ∧ sv ≠ nI 0)) → sX2_arrive_rec1 zs zd zn (nI N) (nI d) sv (gl5 (sX2_arrive_rec1 zs zd zn (nI N) (nI d) sv) n) (nI i) (nI B - sumS zs zt (nI 1) 0 N (nI 0)) v4 zt zc = gl5 (sX2_arrive_rec1 zs zd zn (nI N) (nI d) sv) n (nI (i + 1)) (nI B - sumS zs zt (nI 1) 0 N (nI 0)) v4 zt zc → sX7_night_rec9 (gl2 sX7_night_rec9 (k + m)) (nI i) s = gl2 sX7_night_rec9 (k + m) (nI (i + 1)) s →
        ∃ (zt' zc' s' : Nat → Int32) (v4' : Int32) (cnt : Nat), sX2_arrive_rec1 zs zd zn (nI N) (nI d) sv (gl5 (sX2_arrive_rec1 zs zd zn (nI N) (nI d) sv) n) (nI i) (nI B - sumS zs zt (nI 1) 0 N (nI 0)) v4 zt zc = gd (nzB v4') (some (v4', zt', zc')) ∧ sX7_night_rec9 (gl2 sX7_night_rec9 (k + m)) (nI i) s = gl2 sX7_night_rec9 m (nI N) s' ∧
      RP N zs zd zn zt' zc' s' ∧ (∀ j, (∀ q, q < N → j ≠ 101 + 6 * q + 3 ∧ j ≠ 101 + 6 * q + 5) → j ≠ 9 → s' j = s j) ∧ s' 9 = s 9 + nI cnt ∧ cnt ≤ k + 1 ∧ (cnt = 0 → v4' = v4) ∧ (0 < cnt → v4' = nI 0) ∧
      (∀ j, i ≤ j → j < N → arrO d sv (zd j) (zn j) (zt j) (zc j) (zt' j) (zc' j)) ∧ (∀ j, j < i ∨ N ≤ j → zt' j = zt j ∧ zc' j = zc j) := by
      intro hw e1 e2
      obtain ⟨zt', zc', s', v4', cnt, a1, a2, a3, a4, a5, a6, a7, a8, a9, a10⟩ := ih (i + 1) v4 zt zc s (by omega) hR h4 h0 h10 hst (fun j q1 q2 => hzc j (by omega) q2) n m (by omega)
      refine ⟨zt', zc', s', v4', cnt, e1.trans a1, e2.trans a2, a3, a4, a5, by omega, a7, a8, fun j q1 q2 => ?_, fun j q => a10 j (by omega)⟩
      by_cases hj : j = i
      · subst hj
        obtain ⟨b1, b2⟩ := a10 j (Or.inl (by omega))
        exact Or.inl ⟨b1, b2, hw⟩
      · exact a9 j (by omega) q2
    by_cases c0 : zt i = nI 0
    · by_cases c1 : nI d < zd i
      · refine keep (Or.inr (Or.inl c1)) ?_ ?_
        · simp (disch := omega) only [sX2_arrive_rec1, q_le, ngt, if_false, q_gd, q_cl, q_l0, q_l1, c0, if_true, if_neg (Int32.not_le.mpr c1), q_jl, nI_add]
        · simp (disch := omega) only [sX7_night_rec9, q_l4, q_l3, q_l1, q_l0, q_gd, q_cl, h4, h0, q_le, ngt, if_false, m_ofParty, bd1_e, r4, r2, c0, c1, if_true, q_jl, nI_add]
      · have c1' : zd i ≤ nI d := Int32.not_lt.mp c1
        by_cases c2 : nI d < zd i + zn i
        · rcases hsv with c3 | c3
          · -- no storm: beds are looked at
            obtain ⟨z, hz, ez⟩ := hzs i hiN
            obtain ⟨G, eG, -, hG⟩ := sumS_nat (f := zs) (g := zt) (c := nI 1) (M := 6) N 0 0 (fun j _ q => hzs j (by omega))
            have ha := m_arrives (s := s) (i := i) (d := d) (N := N) (G := G) (B := B) (z := nI z) (sv := sv) (by omega) hd hN h0 h4 h10 (r1.trans ez) hst (by rw [hR.guests]; exact eG)
            rw [r2, r3, if_pos c2, if_pos c3] at ha
            by_cases c4 : nI B < nI G + nI z
            · rw [if_pos c4] at ha
              have c4' : nI B < nI (G + z) := by rw [← nI_add]; exact c4
              -- lapsed for want of beds
              have hzi := hzc i (Nat.le_refl _) hiN c0
              have e0 : sumS zs (upd zt i (nI 3)) (nI 1) 0 N (nI 0) = sumS zs zt (nI 1) 0 N (nI 0) := sumS_other (by rw [c0]; decide) (by decide) N 0 _
              obtain ⟨zt', zc', s', v4', cnt, a1, a2, a3, a4, a5, a6, a7, a8, a9, a10⟩ := ih (i + 1) (nI 0) (upd zt i (nI 3)) zc (upd (upd (upd s (101 + 6 * i + 3) (nI 3)) (101 + 6 * i + 5) (nI 0)) 9 (s 9 + nI 1)) (by omega)
                (fun j hj => by
                  obtain ⟨x1, x2, x3, x4, x5⟩ := hR j hj
                  by_cases e : j = i
                  · subst e
                    simp (disch := omega) only [pk_us, pk_un, x1, x2, x3, hzi, and_self]
                  · simp (disch := omega) only [pk_us, pk_un, x1, x2, x3, x4, x5, and_self])
                (by simp (disch := omega) only [pk_un, h4]) (by simp (disch := omega) only [pk_un, h0]) (by simp (disch := omega) only [pk_un, h10]) (by simp (disch := omega) only [pk_un]; exact hst) (fun j q1 q2 q3 => hzc j (by omega) q2 (by rw [pk_un (by omega)] at q3; exact q3)) n m (by omega)
              have e9 : s' 9 = s 9 + nI (cnt + 1) := by
                rw [a5, pk_us, Int32.add_assoc, nI_add, Nat.add_comm]
              refine ⟨zt', zc', s', v4', cnt + 1, ?_, ?_, a3, fun j q1 q2 => ?_, e9, by omega, fun q => absurd q (by omega), fun _ => ?_, fun j q1 q2 => ?_, fun j q => ?_⟩
              · rw [← a1, e0]
                simp (disch := omega) only [sX2_arrive_rec1, q_le, ngt, if_false, q_gd, q_cl, q_l0, q_l1, q_l3, c0, c1', c2, c3, if_true, q_mrg, q_jl, nI_add, eG, ez, q_free, c4', if_true, if_false]
              · rw [← a2]
                simp (disch := omega) only [sX7_night_rec9, q_l4, q_l3, q_l1, q_l0, q_gd, q_cl, h4, h0, q_le, ngt, if_false, m_ofParty, bd1_e, r4, r2, c0, c1, if_true, ha, q_jl, nI_add]
              · rw [a4 j q1 q2]
                obtain ⟨x1, x2⟩ := q1 i hiN
                simp (disch := omega) only [pk_un]
              · by_cases h : cnt = 0
                · exact a7 h
                · exact a8 (by omega)
              · by_cases e : j = i
                · subst e
                  obtain ⟨b1, b2⟩ := a10 j (Or.inl (by omega))
                  rw [pk_us] at b1
                  exact Or.inr ⟨c0, c1, Or.inl ⟨b1, b2⟩⟩
                · have := a9 j (by omega) q2
                  rw [pk_un e] at this
                  exact this
              · obtain ⟨b1, b2⟩ := a10 j (by omega)
                rw [pk_un (by omega)] at b1
                exact ⟨b1, b2⟩
            · rw [if_neg c4] at ha
              have c4' : ¬ nI B < nI (G + z) := by rw [← nI_add]; exact c4
              -- there is a bed for each of them
              have e0 : sumS zs (upd zt i (nI 1)) (nI 1) 0 N (nI 0) = sumS zs zt (nI 1) 0 N (nI 0) + nI z := by rw [← ez]; exact sumS_mark (by rw [c0]; decide) N 0 _ (Nat.zero_le _) (by omega)
              obtain ⟨zt', zc', s', v4', cnt, a1, a2, a3, a4, a5, a6, a7, a8, a9, a10⟩ := ih (i + 1) v4 (upd zt i (nI 1)) (upd zc i (nI d)) (upd (upd (upd s (101 + 6 * i + 3) (nI 1)) (101 + 6 * i + 5) (nI d + nI 1)) 9 (s 9 + nI 0)) (by omega)
                (fun j hj => by
                  obtain ⟨x1, x2, x3, x4, x5⟩ := hR j hj
                  by_cases e : j = i
                  · subst e
                    simp (disch := omega) only [pk_us, pk_un, x1, x2, x3, and_self]
                  · simp (disch := omega) only [pk_us, pk_un, x1, x2, x3, x4, x5, and_self])
                (by simp (disch := omega) only [pk_un, h4]) (by simp (disch := omega) only [pk_un, h0]) (by simp (disch := omega) only [pk_un, h10]) (by simp (disch := omega) only [pk_un]; exact hst) (fun j q1 q2 q3 => by rw [pk_un (by omega)] at q3 ⊢; exact hzc j (by omega) q2 q3) n m (by omega)
              have e1 : nI B - sumS zs zt (nI 1) 0 N (nI 0) - nI z = nI B - (sumS zs zt (nI 1) 0 N (nI 0) + nI z) := by rw [Int32.sub_sub]
              refine ⟨zt', zc', s', v4', cnt, ?_, ?_, a3, fun j q1 q2 => ?_, ?_, by omega, a7, a8, fun j q1 q2 => ?_, fun j q => ?_⟩
              · rw [← a1, e0, ← e1]
                simp (disch := omega) only [sX2_arrive_rec1, q_le, ngt, if_false, q_gd, q_cl, q_l0, q_l1, q_l3, c0, c1', c2, c3, if_true, q_mrg, q_jl, nI_add, eG, ez, q_free, c4', if_true, if_false]
              · rw [← a2]
                simp (disch := omega) only [sX7_night_rec9, q_l4, q_l3, q_l1, q_l0, q_gd, q_cl, h4, h0, q_le, ngt, if_false, m_ofParty, bd1_e, r4, r2, c0, c1, if_true, ha, q_jl, nI_add]
              · rw [a4 j q1 q2]
                obtain ⟨x1, x2⟩ := q1 i hiN
                simp (disch := omega) only [pk_un]
              · rw [a5, pk_us, q_z]
              · by_cases e : j = i
                · subst e
                  obtain ⟨b1, b2⟩ := a10 j (Or.inl (by omega))
                  rw [pk_us] at b1 b2
                  exact Or.inr ⟨c0, c1, Or.inr ⟨b1, b2, c2, c3⟩⟩
                · have := a9 j (by omega) q2
                  rw [pk_un e, pk_un e] at this
                  exact this
              · obtain ⟨b1, b2⟩ := a10 j (by omega)
                rw [pk_un (by omega)] at b1 b2
                exact ⟨b1, b2⟩
          · have c3' : ¬ sv = nI 0 := by rw [c3]; decide
            refine keep (Or.inr (Or.inr ⟨c2, c3'⟩)) ?_ ?_
            · simp (disch := omega) only [sX2_arrive_rec1, q_le, ngt, if_false, q_gd, q_cl, q_l0, q_l1, q_l3, c0, c1', c2, c3', if_true, q_mrg, q_jl, nI_add]
            · have ha : fX7_arrives s (nI i) = some s := by
                unfold fX7_arrives
                simp (disch := omega) only [q_l0, q_l1, q_l2, m_ofParty, bd1_e, q_gd, q_cl, h0, m_isStorm, hst, r2, r3, c2, c3', if_true, if_false]
              simp (disch := omega) only [sX7_night_rec9, q_l4, q_l3, q_l1, q_l0, q_gd, q_cl, h4, h0, q_le, ngt, if_false, m_ofParty, bd1_e, r4, r2, c0, c1, if_true, ha, q_jl, nI_add]
        · -- its nights are over
          have ha : fX7_arrives s (nI i) = some (upd s (101 + 6 * i + 3) (nI 3)) := by
            unfold fX7_arrives
            simp (disch := omega) only [q_l0, q_l1, q_l2, q_l3, m_ofParty, bd1_e, q_gd, q_cl, h0, m_setParty, r2, r3, c2, if_false]
          have e0 : sumS zs (upd zt i (nI 3)) (nI 1) 0 N (nI 0) = sumS zs zt (nI 1) 0 N (nI 0) := sumS_other (by rw [c0]; decide) (by decide) N 0 _
          obtain ⟨zt', zc', s', v4', cnt, a1, a2, a3, a4, a5, a6, a7, a8, a9, a10⟩ := ih (i + 1) v4 (upd zt i (nI 3)) zc (upd s (101 + 6 * i + 3) (nI 3)) (by omega)
            (fun j hj => by
              obtain ⟨x1, x2, x3, x4, x5⟩ := hR j hj
              by_cases e : j = i
              · subst e
                simp (disch := omega) only [pk_us, pk_un, x1, x2, x3, x5, and_self]
              · simp (disch := omega) only [pk_us, pk_un, x1, x2, x3, x4, x5, and_self])
            (by simp (disch := omega) only [pk_un, h4]) (by simp (disch := omega) only [pk_un, h0]) (by simp (disch := omega) only [pk_un, h10]) (by simp (disch := omega) only [pk_un]; exact hst) (fun j q1 q2 q3 => hzc j (by omega) q2 (by rw [pk_un (by omega)] at q3; exact q3)) n m (by omega)
          refine ⟨zt', zc', s', v4', cnt, ?_, ?_, a3, fun j q1 q2 => ?_, ?_, by omega, a7, a8, fun j q1 q2 => ?_, fun j q => ?_⟩
          · rw [← a1, e0]
            simp (disch := omega) only [sX2_arrive_rec1, q_le, ngt, if_false, q_gd, q_cl, q_l0, q_l1, q_l3, c0, c1', c2, if_true, q_jl, nI_add]
          · rw [← a2]
            simp (disch := omega) only [sX7_night_rec9, q_l4, q_l3, q_l1, q_l0, q_gd, q_cl, h4, h0, q_le, ngt, if_false, m_ofParty, bd1_e, r4, r2, c0, c1, if_true, ha, q_jl, nI_add]
          · rw [a4 j q1 q2]
            obtain ⟨x1, x2⟩ := q1 i hiN
            simp (disch := omega) only [pk_un]
          · rw [a5, pk_un (by omega)]
          · by_cases e : j = i
            · subst e
              obtain ⟨b1, b2⟩ := a10 j (Or.inl (by omega))
              rw [pk_us] at b1
              exact Or.inr ⟨c0, c1, Or.inl ⟨b1, b2⟩⟩
            · have := a9 j (by omega) q2
              rw [pk_un e] at this
              exact this
          · obtain ⟨b1, b2⟩ := a10 j (by omega)
            rw [pk_un (by omega)] at b1
            exact ⟨b1, b2⟩
    · refine keep (Or.inl c0) ?_ ?_
      · simp (disch := omega) only [sX2_arrive_rec1, q_le, ngt, if_false, q_gd, q_cl, q_l0, q_l1, c0, q_jl, nI_add]
      · simp (disch := omega) only [sX7_night_rec9, q_l4, q_l3, q_l1, q_l0, q_gd, q_cl, h4, q_le, ngt, if_false, m_ofParty, bd1_e, r4, c0, q_jl, nI_add]
