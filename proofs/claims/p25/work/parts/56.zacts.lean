/-! ===== acts: the books, and what an error leaves ===== -/
def ErrC (a : Int32) : Prop := a = -1 ∨ a = -2 ∨ a = -3
def HI (x : HutS) : Prop := BI x.1 x.2.1 x.2.2.2.1 x.2.2.2.2.2.2.2.2.1 x.2.2.2.2.2.2.2.2.2.1 x.2.2.2.2.2.2.2.2.2.2.1 ∧ PI x.2.2.2.2.2.2.2.2.2.2.2.2.2.1 x.2.2.2.2.2.2.2.2.2.2.2.2.2.2.1 x.2.2.2.2.2.2.2.2.2.2.2.2.2.2.2.1 x.2.2.2.2.2.2.2.2.2.2.2.2.2.2.2.2.2.1 ∧ GI x.2.2.2.2.2.2.2.2.2.2.2.1 x.2.2.2.2.2.2.2.2.2.2.2.2.2.2.2.1 x.2.2.2.2.2.2.2.2.2.2.2.2.2.2.2.2.2.1 x.2.2.2.2.2.2.2.2.2.2.2.2.2.2.2.2.2.2.2.2.2.2.2.2.1
/-- what an act leaves: a number, or an error and all as it was -/
def ActR (x : HutS) (ans : Int32) (x' : HutS) : Prop := (∃ s, HR x' s) ∧ HI x' ∧ ((∃ A, A < 2 ^ 20 ∧ ans = nI A) ∨ (x' = x ∧ ErrC ans))
theorem OpR.wf {ans : Int32} {x' : HutS} {s s' : Nat → Int32} (h : OpR ans x' s s') : ∃ s2, HR x' s2 := by
  rcases h with ⟨_, _, _, h⟩ | ⟨_, h⟩
  · exact ⟨_, h⟩
  · exact ⟨_, h⟩
theorem OpR.num {ans : Int32} {x' : HutS} {s s' : Nat → Int32} (h : OpR ans x' s s') : (∃ A, A < 2 ^ 20 ∧ ans = nI A) ∨ ans < 0 := by
  rcases h with ⟨A, hA, e, _⟩ | ⟨h, _⟩
  · exact Or.inl ⟨A, hA, e⟩
  · exact Or.inr h
theorem nI_nn {A : Nat} (h : A < 2 ^ 31) : ¬ nI A < 0 := by
  rw [q_l0, q_lt h (by omega)]
  omega
theorem e_load {pk pa pd a b c : Nat → Int32} {M : Nat} {n ans : Int32} (hM : M ≤ 6) (p1 p2 p3 : Int32) (e : fX1_putOnPallet pk pa pd (nI M) p1 p2 p3 = some (ans, a, b, c, n)) (hn : ans < 0) : (a = pk ∧ b = pa ∧ c = pd ∧ n = nI M) ∧ ErrC ans := by
  unfold fX1_putOnPallet at e
  rcases kind_c p1 with ⟨k, k1, rfl, k2, -⟩ | ⟨k2, -⟩
  · rw [k2, bd1_e, if_neg (by decide)] at e
    by_cases c1 : p2 < (1 : Int32)
    · rw [if_pos c1] at e
      cases e
      exact ⟨⟨rfl, rfl, rfl, rfl⟩, Or.inl rfl⟩
    rw [if_neg c1] at e
    by_cases c2 : (999 : Int32) < p2
    · rw [if_pos c2] at e
      cases e
      exact ⟨⟨rfl, rfl, rfl, rfl⟩, Or.inl rfl⟩
    rw [if_neg c2] at e
    by_cases c3 : p3 < 0
    · rw [if_pos c3] at e
      cases e
      exact ⟨⟨rfl, rfl, rfl, rfl⟩, Or.inl rfl⟩
    rw [if_neg c3] at e
    by_cases c4 : p3 ≤ (365 : Int32)
    · rw [if_pos c4] at e
      by_cases c5 : nI M < (6 : Int32)
      · have c6 : M < 6 := by
          rw [q_l6, q_lt (by omega) (by omega)] at c5
          exact c5
        rw [if_pos c5] at e
        unfold fX4_addToPallet at e
        rw [if_pos c5, q_gd c6 (by omega)] at e
        simp only [q_jl, bd4_e] at e
        cases e
        rw [q_l1, nI_add] at hn
        exact absurd hn (nI_nn (by omega))
      · rw [if_neg c5] at e
        cases e
        exact ⟨⟨rfl, rfl, rfl, rfl⟩, Or.inr (Or.inr rfl)⟩
    · rw [if_neg c4] at e
      cases e
      exact ⟨⟨rfl, rfl, rfl, rfl⟩, Or.inl rfl⟩
  · rw [k2, bd1_e, if_pos (by decide)] at e
    cases e
    exact ⟨⟨rfl, rfl, rfl, rfl⟩, Or.inl rfl⟩
theorem i_load {x : HutS} {s : Nat → Int32} (p1 p2 p3 : Int32) (h : HR x s) (hI : HI x) {ans : Int32} {x' : HutS} (e : gX1_putOnPallet x p1 p2 p3 = some (ans, x')) : ActR x ans x' := by
  obtain ⟨ans2, x2, s', e1, -, o⟩ := g_load p1 p2 p3 h
  rw [e] at e1
  cases e1
  obtain ⟨l, pl, N, d, F, lk, la, ll, us, sp, zs, zd, zn, zt, zl, zc, sto, sg, hu, cn, gn, cs, pk, pa, pd, br, hN, hd, rfl, hh⟩ := h
  have e2 : bd5 (fX1_putOnPallet pk pa pd (nI pl.length) p1 p2 p3) _ = some (ans, x') := e
  cases hf : fX1_putOnPallet pk pa pd (nI pl.length) p1 p2 p3 with
  | none => rw [hf] at e2; cases e2
  | some y =>
    obtain ⟨r, m0, m1, m2, m3⟩ := y
    rw [hf, bd5_e] at e2
    cases e2
    refine ⟨o.wf, hI, ?_⟩
    rcases o.num with q | hn
    · exact Or.inl q
    · obtain ⟨⟨rfl, rfl, rfl, rfl⟩, q⟩ := e_load hh.2.1.1 p1 p2 p3 hf hn
      exact Or.inr ⟨rfl, q⟩
theorem e_fly {lk la ll pk pa pd br sto sg lk' la' ll' br' : Nat → Int32} {n dy fl ans n' o' fl' sv : Int32} {M : Nat} (hM : M ≤ 6) (hs : fX1_isStorm sto dy = some sv) (e : fX1_bringPallet lk la ll n pk pa pd (nI M) br sto sg dy fl = some (ans, lk', la', ll', n', o', br', fl')) : ans = (if nI M = 0 then -2 else if sv = 0 then (if fl < sg 3 then (if n + nI M ≤ (20 : Int32) then nI M else -3) else -2) else -2) ∧ (ans < 0 → (lk' = lk ∧ la' = la ∧ ll' = ll ∧ n' = n ∧ o' = nI M ∧ br' = br ∧ fl' = fl) ∧ ErrC ans) := by
  unfold fX1_bringPallet at e
  by_cases c1 : nI M = 0
  · rw [if_pos c1] at e
    cases e
    exact ⟨by rw [if_pos c1], fun _ => ⟨⟨rfl, rfl, rfl, rfl, rfl, rfl, rfl⟩, Or.inr (Or.inl rfl)⟩⟩
  rw [if_neg c1, hs, bd1_e] at e
  rw [if_neg c1]
  by_cases c2 : sv = 0
  · rw [if_pos c2, show inB (3 : Int32) 4 = true by decide, show (3 : Int32).toNatClampNeg = 3 by decide] at e
    rw [if_pos c2]
    replace e : (if fl < sg 3 then (if n + nI M ≤ (20 : Int32) then bd6 (fX4_unloadPallet lk la ll n pk pa pd (nI M) br dy) fun lk8 la9 ll10 lots11 onp12 br13 => jl (fl + (1 : Int32)) fun v15 => some (nI M, lk8, la9, ll10, lots11, onp12, br13, v15) else some ((-3 : Int32), lk, la, ll, n, nI M, br, fl)) else some ((-2 : Int32), lk, la, ll, n, nI M, br, fl)) = some (ans, lk', la', ll', n', o', br', fl') := e
    by_cases c3 : fl < sg 3
    · rw [if_pos c3] at e ⊢
      by_cases c4 : n + nI M ≤ (20 : Int32)
      · rw [if_pos c4] at e ⊢
        cases hu : fX4_unloadPallet lk la ll n pk pa pd (nI M) br dy with
        | none => rw [hu] at e; cases e
        | some y =>
          obtain ⟨y1, y2, y3, y4, y5, y6⟩ := y
          rw [hu, bd6_e, q_jl] at e
          cases e
          exact ⟨rfl, fun q => absurd q (nI_nn (by omega))⟩
      · rw [if_neg c4] at e ⊢
        cases e
        exact ⟨rfl, fun _ => ⟨⟨rfl, rfl, rfl, rfl, rfl, rfl, rfl⟩, Or.inr (Or.inr rfl)⟩⟩
    · rw [if_neg c3] at e ⊢
      cases e
      exact ⟨rfl, fun _ => ⟨⟨rfl, rfl, rfl, rfl, rfl, rfl, rfl⟩, Or.inr (Or.inl rfl)⟩⟩
  · rw [if_neg c2] at e ⊢
    cases e
    exact ⟨rfl, fun _ => ⟨⟨rfl, rfl, rfl, rfl, rfl, rfl, rfl⟩, Or.inr (Or.inl rfl)⟩⟩
theorem i_fly {x : HutS} {s : Nat → Int32} (h : HR x s) (hI : HI x) {ans : Int32} {x' : HutS} (e : gX1_bringPallet x = some (ans, x')) : ActR x ans x' := by
  obtain ⟨ans2, x2, s', e1, -, o⟩ := g_fly h
  rw [e] at e1
  cases e1
  obtain ⟨l, pl, N, d, F, lk, la, ll, us, sp, zs, zd, zn, zt, zl, zc, sto, sg, hu, cn, gn, cs, pk, pa, pd, br, hN, hd, rfl, hh⟩ := h
  obtain ⟨ans3, l', pl', F', lk', la', ll', br', s3, f1, -, -, -, fB⟩ := fly_sim hd hh
  have e2 : bd8 (fX1_bringPallet lk la ll (nI l.length) pk pa pd (nI pl.length) br sto sg (nI d) (nI F)) _ = some (ans, x') := e
  have hs := p_isStorm (sto := sto) (d := d) (by omega) (fun hk => (hh.1.2.2.2.2.1 d hk).2.1)
  rw [f1, bd8_e] at e2
  cases e2
  refine ⟨o.wf, ⟨fB us sp hI.1, hI.2.1, hI.2.2⟩, ?_⟩
  rcases o.num with q | hn
  · exact Or.inl q
  · obtain ⟨rfl, rfl, rfl, w4, w5, rfl, w7⟩ := ((e_fly hh.2.1.1 hs f1).2 hn).1
    refine Or.inr ⟨?_, ((e_fly hh.2.1.1 hs f1).2 hn).2⟩
    rw [w4, w5, w7]
theorem e_book {lk la ll pk pa pd br us sp zs zd zn zt zl zc sto sg zs' zd' zn' zt' zl' zc' : Nat → Int32} {n onp dy fl hu cn gn cs ans N' : Int32} {N : Nat} {o0 o1 o2 o4 o5 o6 o8 o9 o10 o11 o12 o13 o14 o15 o16 o18 o19 : Nat → Int32} {o3 o7 o17 o20 o21 o22 o23 o24 o25 : Int32} {t0 t1 t2 t4 t5 t6 t8 t9 t10 t11 t12 t13 t14 t15 t16 t18 t19 : Nat → Int32} {t3 t7 t17 t20 t21 t22 t23 t24 t25 : Int32} (hN : N ≤ 16) (p1 p2 p3 : Int32) (e : fX1_takeBooking lk la ll n pk pa pd onp br us sp zs zd zn zt zl zc (nI N) sto sg dy fl hu cn gn cs o0 o1 o2 o3 o4 o5 o6 o7 o8 o9 o10 o11 o12 o13 o14 o15 o16 o17 o18 o19 o20 o21 o22 o23 o24 o25 p1 p2 p3 = some (ans, zs', zd', zn', zt', zl', zc', N', t0, t1, t2, t3, t4, t5, t6, t7, t8, t9, t10, t11, t12, t13, t14, t15, t16, t17, t18, t19, t20, t21, t22, t23, t24, t25)) : ((zs' = zs ∧ zd' = zd ∧ zn' = zn ∧ zt' = zt ∧ zl' = zl ∧ zc' = zc ∧ N' = nI N) ∧ ErrC ans) ∨ (ans = nI N ∧ N < 16 ∧ zs' = upd zs N p1 ∧ zd' = upd zd N p2 ∧ zn' = upd zn N p3 ∧ zt' = upd zt N (nI 0) ∧ zl' = upd zl N (nI 0) ∧ zc' = upd zc N (-1) ∧ N' = nI (N + 1)) := by
  unfold fX1_takeBooking at e
  cases hm : fX1_mayBeBooked dy p1 p2 p3 with
  | none => rw [hm] at e; cases e
  | some r1 =>
    rw [hm, bd1_e] at e
    by_cases c1 : r1 = 0
    · rw [if_pos c1] at e
      cases e
      exact Or.inl ⟨⟨rfl, rfl, rfl, rfl, rfl, rfl, rfl⟩, Or.inl rfl⟩
    rw [if_neg c1] at e
    cases hc : fX1_copyFrom lk la ll n pk pa pd onp br us sp zs zd zn zt zl zc (nI N) sto sg dy fl hu cn gn cs with
    | none => rw [hc] at e; cases e
    | some y =>
      obtain ⟨y0, y1, y2, y3, y4, y5, y6, y7, y8, y9, y10, y11, y12, y13, y14, y15, y16, y17, y18, y19, y20, y21, y22, y23, y24, y25⟩ := y
      rw [hc, bd26_e] at e
      cases hw : fX1_wouldSuffice y0 y1 y2 y3 y9 y10 y11 y12 y13 y14 y15 y16 y17 y18 y19 y20 y22 y23 y24 y25 p1 p2 p3 with
      | none => rw [hw] at e; cases e
      | some y =>
        obtain ⟨w0, w1, w2, w3, w4, w5, w6, w7, w8, w9, w10, w11, w12, w13, w14, w15, w16, w17, w18⟩ := y
        rw [hw, bd19_e] at e
        by_cases c2 : w0 = 0
        · rw [if_pos c2] at e
          cases e
          exact Or.inl ⟨⟨rfl, rfl, rfl, rfl, rfl, rfl, rfl⟩, Or.inr (Or.inl rfl)⟩
        rw [if_neg c2] at e
        by_cases c3 : nI N < (16 : Int32)
        · rw [if_pos c3, p_add hN, bd7_e, q_l1, q_dec2 (by omega)] at e
          cases e
          have c4 : N < 16 := by
            rw [show (16 : Int32) = nI 16 by decide, q_lt (by omega) (by omega)] at c3
            exact c3
          exact Or.inr ⟨rfl, c4, rfl, rfl, rfl, rfl, rfl, rfl, rfl⟩
        · rw [if_neg c3] at e
          cases e
          exact Or.inl ⟨⟨rfl, rfl, rfl, rfl, rfl, rfl, rfl⟩, Or.inr (Or.inr rfl)⟩
theorem HI.add {zs zn zt zl : Nat → Int32} {gn p1 p3 : Int32} {N : Nat} (hN : N ≤ 16) (h1 : PI zn zt zl (nI N)) (h2 : GI zs zl (nI N) gn) : PI (upd zn N p3) (upd zt N (nI 0)) (upd zl N (nI 0)) (nI (N + 1)) ∧ GI (upd zs N p1) (upd zl N (nI 0)) (nI (N + 1)) gn := by
  constructor
  · intro j hj
    rw [q_cl (by omega)] at hj
    by_cases e : j = N
    · subst e
      rw [pk_us]
      exact ⟨fun q => absurd q (by decide), fun q => absurd q (by decide)⟩
    · rw [pk_un e, pk_un e, pk_un e]
      exact h1 j (by rw [q_cl (by omega)]; omega)
  · show gn = wS (upd zl N (nI 0)) (upd zs N p1) 0 (nI (N + 1)).toNatClampNeg (nI 0)
    have h3 : gn = wS zl zs 0 (nI N).toNatClampNeg (nI 0) := h2
    rw [q_cl (by omega)] at h3 ⊢
    rw [wS_last, Nat.zero_add, pk_us, show nI 0 * (upd zs N p1) N = 0 by rw [← q_l0, Int32.zero_mul], Int32.add_zero, wS_congr N 0 (nI 0) (f := zl) (g := zs) (fun j _ hj => ⟨pk_un (by omega), pk_un (by omega)⟩)]
    exact h3
theorem i_book {x : HutS} {s : Nat → Int32} (y : HutS) (p1 p2 p3 : Int32) (h : HR x s) (hI : HI x) {ans : Int32} {x' y' : HutS} (e : gX1_takeBooking x y p1 p2 p3 = some (ans, x', y')) : ActR x ans x' := by
  obtain ⟨ans2, x2, y2, s', asd', e1, -, o⟩ := g_book y s p1 p2 p3 h
  rw [e] at e1
  cases e1
  obtain ⟨l, pl, N, d, F, lk, la, ll, us, sp, zs, zd, zn, zt, zl, zc, sto, sg, hu, cn, gn, cs, pk, pa, pd, br, hN, hd, rfl, hh⟩ := h
  obtain ⟨y0, y1, y2, y3, y4, y5, y6, y7, y8, y9, y10, y11, y12, y13, y14, y15, y16, y17, y18, y19, y20, y21, y22, y23, y24, y25⟩ := y
  have e2 : bd34 (fX1_takeBooking lk la ll (nI l.length) pk pa pd (nI pl.length) br us sp zs zd zn zt zl zc (nI N) sto sg (nI d) (nI F) hu cn gn cs y0 y1 y2 y3 y4 y5 y6 y7 y8 y9 y10 y11 y12 y13 y14 y15 y16 y17 y18 y19 y20 y21 y22 y23 y24 y25 p1 p2 p3) _ = some (ans, x', y') := e
  cases hf : fX1_takeBooking lk la ll (nI l.length) pk pa pd (nI pl.length) br us sp zs zd zn zt zl zc (nI N) sto sg (nI d) (nI F) hu cn gn cs y0 y1 y2 y3 y4 y5 y6 y7 y8 y9 y10 y11 y12 y13 y14 y15 y16 y17 y18 y19 y20 y21 y22 y23 y24 y25 p1 p2 p3 with
  | none => rw [hf] at e2; cases e2
  | some z =>
    obtain ⟨z0, z1, z2, z3, z4, z5, z6, z7, z8, z9, z10, z11, z12, z13, z14, z15, z16, z17, z18, z19, z20, z21, z22, z23, z24, z25, z26, z27, z28, z29, z30, z31, z32, z33⟩ := z
    rw [hf, bd34_e] at e2
    cases e2
    rcases e_book hN p1 p2 p3 hf with ⟨⟨rfl, rfl, rfl, rfl, rfl, rfl, rfl⟩, q⟩ | ⟨rfl, q0, rfl, rfl, rfl, rfl, rfl, rfl, rfl⟩
    · exact ⟨o.wf, hI, Or.inr ⟨rfl, q⟩⟩
    · exact ⟨o.wf, ⟨hI.1, HI.add hN hI.2.1 hI.2.2⟩, Or.inl ⟨N, by omega, rfl⟩⟩
theorem e_cancel {zt zt' : Nat → Int32} {N : Nat} {ans : Int32} (hN : N ≤ 17) (p : Int32) (e : fX1_callOff zt (nI N) p = some (ans, zt')) : (zt' = zt ∧ (((p < 0 ∨ nI N ≤ p) ∧ ans = -1) ∨ (∃ k, k < N ∧ p = nI k ∧ zt k ≠ nI 0 ∧ ans = -2))) ∨ (∃ k, k < N ∧ p = nI k ∧ zt k = nI 0 ∧ zt' = upd zt k (nI 3) ∧ sumS (fun _ => nI 1) zt (nI 0) 0 N (nI 0) = ans + nI 1) := by
  unfold fX1_callOff at e
  have pP := p_has (N := N) p
  by_cases c1 : p < 0
  · rw [if_pos c1] at pP
    rw [pP, bd1_e, if_pos (by decide)] at e
    cases e
    exact Or.inl ⟨rfl, Or.inl ⟨Or.inl c1, rfl⟩⟩
  rw [if_neg c1] at pP
  by_cases c2 : nI N ≤ p
  · rw [if_pos c2] at pP
    rw [pP, bd1_e, if_pos (by decide)] at e
    cases e
    exact Or.inl ⟨rfl, Or.inl ⟨Or.inr c2, rfl⟩⟩
  rw [if_neg c2] at pP
  obtain ⟨k, hk, rfl⟩ := nI_of c1
  have hkN : k < N := by
    have := Int32.not_le.mp c2
    rw [q_lt hk (by omega)] at this
    exact this
  rw [pP, bd1_e, if_neg (by decide), q_gd (by omega) (by omega), q_cl (by omega)] at e
  by_cases c3 : zt k = 0
  · rw [if_pos c3, q_jl, q_l0, p_withStatus hN, bd1_e] at e
    cases e
    refine Or.inr ⟨k, hkN, rfl, c3, rfl, ?_⟩
    have hne : upd zt k (3 : Int32) k ≠ nI 0 := by rw [pk_us]; decide
    have hm := sumS_mark (f := fun _ => nI 1) (g := upd zt k (3 : Int32)) (c := nI 0) (p := k) hne N 0 (nI 0) (by omega) (by omega)
    have hu : upd (upd zt k (3 : Int32)) k (nI 0) = zt := by
      rw [upd_upd]
      funext j
      by_cases q : j = k
      · subst q
        rw [pk_us]
        exact c3.symm
      · rw [pk_un q]
    rw [hu] at hm
    exact hm
  · rw [if_neg c3] at e
    cases e
    exact Or.inl ⟨rfl, Or.inr ⟨k, hkN, rfl, c3, rfl⟩⟩
theorem i_cancel {x : HutS} {s : Nat → Int32} (p : Int32) (h : HR x s) (hI : HI x) {ans : Int32} {x' : HutS} (e : gX1_callOff x p = some (ans, x')) : ActR x ans x' := by
  obtain ⟨ans2, x2, s', e1, -, o⟩ := g_cancel p h
  rw [e] at e1
  cases e1
  obtain ⟨l, pl, N, d, F, lk, la, ll, us, sp, zs, zd, zn, zt, zl, zc, sto, sg, hu, cn, gn, cs, pk, pa, pd, br, hN, hd, rfl, hh⟩ := h
  have e2 : bd2 (fX1_callOff zt (nI N) p) _ = some (ans, x') := e
  cases hf : fX1_callOff zt (nI N) p with
  | none => rw [hf] at e2; cases e2
  | some z =>
    obtain ⟨r, m0⟩ := z
    rw [hf, bd2_e] at e2
    cases e2
    rcases e_cancel (by omega) p hf with ⟨rfl, ⟨_, q⟩ | ⟨k, _, _, _, q⟩⟩ | ⟨k, k1, k2, k3, rfl, -⟩
    · exact ⟨o.wf, hI, Or.inr ⟨rfl, Or.inl q⟩⟩
    · exact ⟨o.wf, hI, Or.inr ⟨rfl, Or.inr (Or.inl q)⟩⟩
    · refine ⟨o.wf, ⟨hI.1, fun j hj => ?_, hI.2.2⟩, ?_⟩
      · have hj2 := hI.2.1 j hj
        show (upd zt k (nI 3) j = nI 1 → _) ∧ (upd zt k (nI 3) j = nI 2 → _)
        by_cases q : j = k
        · subst q
          rw [pk_us]
          exact ⟨fun q => absurd q (by decide), fun q => absurd q (by decide)⟩
        · rw [pk_un q]
          exact hj2
      · obtain ⟨b, b1, -, b3, -⟩ := cnt_spec (g := upd zt k (nI 3)) (c := nI 0) N 0 0
        refine Or.inl ⟨b, by omega, ?_⟩
        have hf2 := hf
        unfold fX1_callOff at hf2
        rw [k2, p_hasN k1 (by omega), bd1_e, if_neg (by decide), q_gd (by omega) (by omega), q_cl (by omega), if_pos (k3.trans q_l0.symm), q_jl, q_l0, p_withStatus (by omega), bd1_e] at hf2
        have b2 : sumS (fun _ => nI 1) (upd zt k (3 : Int32)) (nI 0) 0 N (nI 0) = nI b := b1
        rw [b2] at hf2
        cases hf2
        rfl
theorem cntS_ge {f : Nat → Int32} {a b : Nat} (h : ∀ j, a ≤ j → j < a + b → f j = nI 1) : ∀ (k i : Nat), i ≤ a → a + b ≤ i + k → b ≤ cntS f i k := by
  have all : ∀ (k i : Nat), a ≤ i → i + k ≤ a + b → k ≤ cntS f i k := by
    intro k
    induction k with
    | zero => intro i _ _; exact Nat.zero_le _
    | succ k ih =>
      intro i h1 h2
      have := ih (i + 1) (by omega) (by omega)
      show k + 1 ≤ (if f i = nI 1 then 1 else 0) + cntS f (i + 1) k
      rw [if_pos (h i h1 (by omega))]
      omega
  have mono : ∀ (k m i : Nat), cntS f i k ≤ cntS f i (k + m) := by
    intro k
    induction k with
    | zero => intro m i; exact Nat.zero_le _
    | succ k ih =>
      intro m i
      have := ih m (i + 1)
      rw [show k + 1 + m = k + m + 1 by omega]
      show (if f i = nI 1 then 1 else 0) + cntS f (i + 1) k ≤ (if f i = nI 1 then 1 else 0) + cntS f (i + 1) (k + m)
      omega
  intro k
  induction k with
  | zero =>
    intro i h1 h2
    have : b = 0 := by omega
    rw [this]
    exact Nat.zero_le _
  | succ k ih =>
    intro i h1 h2
    by_cases q : i = a
    · subst q
      have h3 := all b i (Nat.le_refl _) (Nat.le_refl _)
      have h4 := mono b (k + 1 - b) i
      rw [show b + (k + 1 - b) = k + 1 by omega] at h4
      exact Nat.le_trans h3 h4
    · have := ih (i + 1) (by omega) (by omega)
      show b ≤ (if f i = nI 1 then 1 else 0) + cntS f (i + 1) k
      omega
theorem e_storm {sto : Nat → Int32} {d : Nat} (p1 p2 : Int32) (hd : d ≤ 365) (hz : ∀ j, j < 396 → sto j = nI 0 ∨ sto j = nI 1) : ((p1 < nI d ∨ 365 < p1 ∨ p2 < 1 ∨ 30 < p2) ∧ fX1_tellStorm sto (nI d) p1 p2 = some (-1, sto)) ∨ (∃ a b c, p1 = nI a ∧ p2 = nI b ∧ d ≤ a ∧ a ≤ 365 ∧ 1 ≤ b ∧ b ≤ 30 ∧ b ≤ c ∧ ((c ≤ 40 ∧ ∃ sto', fX1_tellStorm sto (nI d) p1 p2 = some (nI c, sto')) ∨ fX1_tellStorm sto (nI d) p1 p2 = some (-3, sto))) := by
  have q30 : (30 : Int32) = nI 30 := by decide
  by_cases c1 : p1 < nI d
  · refine Or.inl ⟨Or.inl c1, ?_⟩
    unfold fX1_tellStorm
    rw [if_pos c1]
  by_cases c2 : (365 : Int32) < p1
  · refine Or.inl ⟨Or.inr (Or.inl c2), ?_⟩
    unfold fX1_tellStorm
    rw [if_neg c1, if_pos c2]
  by_cases c3 : p2 < (1 : Int32)
  · refine Or.inl ⟨Or.inr (Or.inr (Or.inl c3)), ?_⟩
    unfold fX1_tellStorm
    rw [if_neg c1, if_neg c2, if_pos c3]
  by_cases c4 : (30 : Int32) < p2
  · refine Or.inl ⟨Or.inr (Or.inr (Or.inr c4)), ?_⟩
    unfold fX1_tellStorm
    rw [if_neg c1, if_neg c2, if_neg c3, if_neg (Int32.not_le.mpr c4)]
  have n1 : ¬ p1 < 0 := by
    intro q
    have h0 : (0 : Int32) ≤ nI d := by rw [q_l0, q_le (by omega) (by omega)]; omega
    exact c1 (Int32.lt_of_lt_of_le q h0)
  have n2 : ¬ p2 < 0 := by
    intro q
    exact c3 (Int32.lt_of_lt_of_le q (by decide))
  obtain ⟨a, ha, rfl⟩ := nI_of n1
  obtain ⟨b, hb, rfl⟩ := nI_of n2
  rw [q_lt (by omega) (by omega)] at c1
  rw [q_l365, q_lt (by omega) (by omega)] at c2
  rw [q_l1, q_lt (by omega) (by omega)] at c3
  rw [q30, q_lt (by omega) (by omega)] at c4
  refine Or.inr ⟨a, b, cntS (told sto a b) d (396 - d), rfl, rfl, by omega, by omega, by omega, by omega, ?_, ?_⟩
  · refine cntS_ge (a := a) (fun j h1 h2 => ?_) (396 - d) d (by omega) (by omega)
    unfold told
    rw [if_pos ⟨h1, h2⟩]
  · have hC := p_tell (sto := sto) (a := a) (b := b) (by omega) hz (396 - d) d gFU 0 (by omega) (by unfold gFU; omega) (Nat.zero_le _)
    rw [Nat.zero_add] at hC
    generalize cntS (told sto a b) d (396 - d) = c at hC
    have k4 : b ≤ 30 := by omega
    have hK : fX1_tellStorm sto (nI d) (nI a) (nI b) = (if c ≤ 40 then gl2 (sX1_tellStorm_rec11 (nI (a + b)) (nI c)) gFU (nI a) sto else some (-3, sto)) := by
      rw [← hC]
      unfold fX1_tellStorm
      simp (disch := omega) only [q_lt, c1, if_false, q_l365, c2, q_l1, c3, q30, q_le, k4, if_true, nI_add, q_jl, q_l0]
    by_cases cc : c ≤ 40
    · rw [if_pos cc] at hK
      have hn : vp_nar .boolean (1 : Int32) = nI 1 := by decide
      refine Exists.elim (scat_up (st := sX1_tellStorm_rec11 (nI (a + b)) (nI c)) (out := fun z => some (nI c, z)) (fun k => k) (fun _ _ => nI 1) a (a + b) (fun _ => True) (fun _ _ _ _ _ _ => trivial) (fun rec a' _ => ?_) (fun rec i a' _ hi _ => ?_) (fun _ _ _ _ h => h) (fun _ _ _ _ _ _ _ => rfl) b a gFU sto (Nat.le_refl _) rfl (by unfold gFU; omega) trivial) (fun z ⟨g1, _, g2, g3⟩ => ?_)
      · simp (disch := omega) only [sX1_tellStorm_rec11, q_le, Nat.le_refl, if_true]
      · have n1 : ¬ 396 ≤ i := by omega
        have n2 : ¬ a + b ≤ i := by omega
        simp (disch := omega) only [sX1_tellStorm_rec11, hn, q_le, n2, if_false, q_l396, n1, q_gd, q_cl, q_jl]
        simp (disch := omega) only [q_l1, nI_add]
      · exact Or.inl ⟨cc, z, hK.trans g1⟩
    · rw [if_neg cc] at hK
      exact Or.inr hK
theorem i_storm {x : HutS} {s : Nat → Int32} (p1 p2 : Int32) (h : HR x s) (hI : HI x) {ans : Int32} {x' : HutS} (e : gX1_tellStorm x p1 p2 = some (ans, x')) : ActR x ans x' := by
  obtain ⟨ans2, x2, s', e1, -, o⟩ := g_storm p1 p2 h
  rw [e] at e1
  cases e1
  obtain ⟨l, pl, N, d, F, lk, la, ll, us, sp, zs, zd, zn, zt, zl, zc, sto, sg, hu, cn, gn, cs, pk, pa, pd, br, hN, hd, rfl, hh⟩ := h
  have e2 : bd2 (fX1_tellStorm sto (nI d) p1 p2) _ = some (ans, x') := e
  have hI2 : BI lk la (nI l.length) br us sp ∧ PI zn zt zl (nI N) ∧ GI zs zl (nI N) gn := hI
  cases hf : fX1_tellStorm sto (nI d) p1 p2 with
  | none => rw [hf] at e2; cases e2
  | some z =>
    obtain ⟨r, m0⟩ := z
    rw [hf, bd2_e] at e2
    cases e2
    refine ⟨o.wf, hI2, ?_⟩
    rcases e_storm p1 p2 hd (fun j hj => (hh.1.2.2.2.2.1 j hj).2.1) with ⟨-, q⟩ | ⟨a, b, c, -, -, -, -, -, -, -, ⟨c1, sto', q⟩ | q⟩
    · rw [hf] at q
      cases q
      exact Or.inr ⟨rfl, Or.inl rfl⟩
    · rw [hf] at q
      cases q
      exact Or.inl ⟨c, by omega, rfl⟩
    · rw [hf] at q
      cases q
      exact Or.inr ⟨rfl, Or.inr (Or.inr rfl)⟩
theorem i_calm {x : HutS} {s : Nat → Int32} (p : Int32) (h : HR x s) (hI : HI x) {ans : Int32} {x' : HutS} (e : gX1_tellCalm x p = some (ans, x')) : ActR x ans x' := by
  have hk : HI x' := by
    have e2 : bd2 (fX1_tellCalm _ _ p) _ = some (ans, x') := e
    cases hf : fX1_tellCalm x.2.2.2.2.2.2.2.2.2.2.2.2.2.2.2.2.2.2.1 x.2.2.2.2.2.2.2.2.2.2.2.2.2.2.2.2.2.2.2.2.1 p with
    | none => rw [hf] at e2; cases e2
    | some z =>
      obtain ⟨r, m0⟩ := z
      rw [hf, bd2_e] at e2
      cases e2
      exact hI
  obtain ⟨d, -, -, ⟨e1, -⟩ | ⟨k, v, x2, -, -, hv, e1, -, -, hx⟩⟩ := g_calm p h
  · rw [e] at e1
    cases e1
    exact ⟨⟨s, h⟩, hk, Or.inr ⟨rfl, Or.inl rfl⟩⟩
  · rw [e] at e1
    cases e1
    exact ⟨⟨_, hx⟩, hk, Or.inl ⟨v, by omega, rfl⟩⟩
theorem i_set {x : HutS} {s : Nat → Int32} (p1 p2 : Int32) (h : HR x s) (hI : HI x) {ans : Int32} {x' : HutS} (e : gX1_changeSetting x p1 p2 = some (ans, x')) : ActR x ans x' := by
  have hk : HI x' := by
    have e2 : bd2 (fX1_changeSetting _ p1 p2) _ = some (ans, x') := e
    cases hf : fX1_changeSetting x.2.2.2.2.2.2.2.2.2.2.2.2.2.2.2.2.2.2.2.1 p1 p2 with
    | none => rw [hf] at e2; cases e2
    | some z =>
      obtain ⟨r, m0⟩ := z
      rw [hf, bd2_e] at e2
      cases e2
      exact hI
  obtain ⟨e1, -⟩ | ⟨k, old, x2, -, -, hv, e1, -, -, hx⟩ := g_set p1 p2 h
  · rw [e] at e1
    cases e1
    exact ⟨⟨s, h⟩, hk, Or.inr ⟨rfl, Or.inl rfl⟩⟩
  · rw [e] at e1
    cases e1
    exact ⟨⟨_, hx⟩, hk, Or.inl ⟨old, by omega, rfl⟩⟩
/-- nights asked for -/
theorem e_sleep {l : List LT} {N d : Nat} {lk la ll us sp zs zd zn zt zl zc sto sg br s : Nat → Int32} {hu cn gn cs : Int32} (p : Int32) (hd : d ≤ 365) (h : NightR l N d lk la ll us sp zs zd zn zt zl zc sto sg hu cn gn cs s) {ans n' dy' hu' cn' gn' cs' : Int32} {lk' la' ll' us' sp' zt' zl' zc' : Nat → Int32} (e : fX1_passNights lk la ll (nI l.length) us sp zs zd zn zt zl zc (nI N) sto sg (nI d) hu cn gn cs p = some (ans, lk', la', ll', n', us', sp', zt', zl', zc', dy', hu', cn', gn', cs')) :
    ((lk' = lk ∧ la' = la ∧ ll' = ll ∧ n' = nI l.length ∧ us' = us ∧ sp' = sp ∧ zt' = zt ∧ zl' = zl ∧ zc' = zc ∧ dy' = nI d ∧ hu' = hu ∧ cn' = cn ∧ gn' = gn ∧ cs' = cs) ∧ (((p < 1 ∨ 60 < p) ∧ ans = -1) ∨ (∃ k, 1 ≤ k ∧ k ≤ 60 ∧ p = nI k ∧ 365 < d + k ∧ ans = -3))) ∨
    (∃ k, 1 ≤ k ∧ k ≤ 60 ∧ p = nI k ∧ d + k ≤ 365 ∧ ans = hu' - hu ∧ dy' = nI (d + k) ∧ (BI lk la (nI l.length) br us sp → PI zn zt zl (nI N) → GI zs zl (nI N) gn → BI lk' la' n' br us' sp' ∧ PI zn zt' zl' (nI N) ∧ GI zs zl' (nI N) gn')) := by
  unfold fX1_passNights at e
  by_cases c1 : p < (1 : Int32)
  · rw [if_pos c1] at e
    cases e
    exact Or.inl ⟨⟨rfl, rfl, rfl, rfl, rfl, rfl, rfl, rfl, rfl, rfl, rfl, rfl, rfl, rfl⟩, Or.inl ⟨Or.inl c1, rfl⟩⟩
  rw [if_neg c1] at e
  have q60 : (60 : Int32) = nI 60 := by decide
  have n1 : ¬ p < 0 := fun q => c1 (Int32.lt_of_lt_of_le q (by decide))
  obtain ⟨k, hk, rfl⟩ := nI_of n1
  rw [q_l1, q_lt hk (by omega)] at c1
  by_cases c2 : nI k ≤ (60 : Int32)
  · rw [if_pos c2] at e
    rw [q60, q_le hk (by omega)] at c2
    by_cases c3 : d + k ≤ 365
    · rw [nI_add, if_pos (show nI (d + k) ≤ (365 : Int32) by rw [q_l365, q_le (by omega) (by omega)]; exact c3)] at e
      refine Or.inr ⟨k, by omega, c2, rfl, c3, ?_⟩
      rw [q_l0] at e
      have hdy : ans = hu' - hu ∧ dy' = nI (d + k) := by
        obtain ⟨l2, lk2, la2, ll2, us2, sp2, zt2, zl2, zc2, cn2, gn2, cs2, s2, A, f1, -⟩ := sleeps_loop (P := k) (hu0 := hu) (v7 := hu) c2 k 0 gFU gFU d l lk la ll us sp zt zl zc hu cn gn cs s (Nat.zero_add _) c3 (by unfold gFU; omega) (by unfold gFU; omega) h
        rw [f1] at e
        cases e
        exact ⟨rfl, rfl⟩
      refine ⟨hdy.1, hdy.2, fun hB hQ hG => ?_⟩
      obtain ⟨i1, i2, i3, -, -⟩ := sleeps_I (P := k) (hu0 := hu) c2 k 0 gFU d l lk la ll us sp zt zl zc hu cn gn cs s (Nat.zero_add _) c3 (by unfold gFU; omega) h hB hQ hG e
      exact ⟨i1, i2, i3⟩
    · rw [nI_add, if_neg (show ¬ nI (d + k) ≤ (365 : Int32) by rw [q_l365, q_le (by omega) (by omega)]; exact c3)] at e
      cases e
      exact Or.inl ⟨⟨rfl, rfl, rfl, rfl, rfl, rfl, rfl, rfl, rfl, rfl, rfl, rfl, rfl, rfl⟩, Or.inr ⟨k, by omega, c2, rfl, by omega, rfl⟩⟩
  · rw [if_neg c2] at e
    cases e
    exact Or.inl ⟨⟨rfl, rfl, rfl, rfl, rfl, rfl, rfl, rfl, rfl, rfl, rfl, rfl, rfl, rfl⟩, Or.inl ⟨Or.inr (Int32.not_le.mp c2), rfl⟩⟩
theorem i_sleep {x : HutS} {s : Nat → Int32} (p : Int32) (h : HR x s) (hI : HI x) {ans : Int32} {x' : HutS} (e : gX1_passNights x p = some (ans, x')) : ActR x ans x' := by
  obtain ⟨ans2, x2, s', e1, -, o⟩ := g_sleep p h
  rw [e] at e1
  cases e1
  obtain ⟨l, pl, N, d, F, lk, la, ll, us, sp, zs, zd, zn, zt, zl, zc, sto, sg, hu, cn, gn, cs, pk, pa, pd, br, hN, hd, rfl, hh⟩ := h
  have e2 : bd15 (fX1_passNights lk la ll (nI l.length) us sp zs zd zn zt zl zc (nI N) sto sg (nI d) hu cn gn cs p) _ = some (ans, x') := e
  cases hf : fX1_passNights lk la ll (nI l.length) us sp zs zd zn zt zl zc (nI N) sto sg (nI d) hu cn gn cs p with
  | none => rw [hf] at e2; cases e2
  | some z =>
    obtain ⟨z0, z1, z2, z3, z4, z5, z6, z7, z8, z9, z10, z11, z12, z13, z14⟩ := z
    rw [hf, bd15_e] at e2
    cases e2
    rcases e_sleep (br := br) p hd hh.1 hf with ⟨⟨rfl, rfl, rfl, rfl, rfl, rfl, rfl, rfl, rfl, rfl, rfl, rfl, rfl, rfl⟩, ⟨-, q⟩ | ⟨k, -, -, -, -, q⟩⟩ | ⟨k, k1, k2, k3, k4, k5, k6, k7⟩
    · exact ⟨o.wf, hI, Or.inr ⟨rfl, Or.inl q⟩⟩
    · exact ⟨o.wf, hI, Or.inr ⟨rfl, Or.inr (Or.inr q)⟩⟩
    · refine ⟨o.wf, k7 hI.1 hI.2.1 hI.2.2, ?_⟩
      obtain ⟨l2, lk2, la2, ll2, us2, sp2, zt2, zl2, zc2, cn2, gn2, cs2, s2, A, f1, -, -, f4, -⟩ := sleeps_loop (P := k) (hu0 := hu) (v7 := hu) k2 k 0 gFU gFU d l lk la ll us sp zt zl zc hu cn gn cs s (Nat.zero_add _) k4 (by unfold gFU; omega) (by unfold gFU; omega) hh.1
      have hf2 := hf
      unfold fX1_passNights at hf2
      rw [k3, if_neg (show ¬ nI k < (1 : Int32) by rw [q_l1, q_lt (by omega) (by omega)]; omega), if_pos (show nI k ≤ (60 : Int32) by rw [show (60 : Int32) = nI 60 by decide, q_le (by omega) (by omega)]; exact k2), nI_add, if_pos (show nI (d + k) ≤ (365 : Int32) by rw [q_l365, q_le (by omega) (by omega)]; exact k4), q_l0, f1, q_subx] at hf2
      simp only [Option.some.injEq, Prod.mk.injEq] at hf2
      exact Or.inl ⟨A, by omega, hf2.1.symm⟩
/-- a command of a text -/
theorem obey_I {x : HutS} {s : Nat → Int32} {c W : Nat} {nu : Nat → Int32} {xt : HutS} (h : HR x s) (hI : HI x) (hc : (c = 98 ∧ W = 3) ∨ (c = 102 ∧ W = 0) ∨ (c = 108 ∧ W = 3) ∨ (c = 110 ∧ W = 1) ∨ (c = 115 ∧ W = 2) ∨ (c = 120 ∧ W = 1)) {ans : Int32} {x' xt' : HutS} (e : fX3_obey x xt nu (nI c) = some (ans, x', xt')) : ActR x ans x' := by
  have l1 : (98 : Int32) = nI 98 := by decide
  have l2 : (102 : Int32) = nI 102 := by decide
  have l3 : (108 : Int32) = nI 108 := by decide
  have l4 : (110 : Int32) = nI 110 := by decide
  have l5 : (115 : Int32) = nI 115 := by decide
  have l6 : (120 : Int32) = nI 120 := by decide
  have i0 : ∀ {α : Type} (y : Option α), gd (inB (0 : Int32) 3) y = y := fun y => by rw [show inB (0 : Int32) 3 = true by decide]; rfl
  have i1 : ∀ {α : Type} (y : Option α), gd (inB (1 : Int32) 3) y = y := fun y => by rw [show inB (1 : Int32) 3 = true by decide]; rfl
  have i2 : ∀ {α : Type} (y : Option α), gd (inB (2 : Int32) 3) y = y := fun y => by rw [show inB (2 : Int32) 3 = true by decide]; rfl
  unfold fX3_obey at e
  rw [l1, l2, l3, l4, l5, l6] at e
  rcases hc with ⟨rfl, rfl⟩ | ⟨rfl, rfl⟩ | ⟨rfl, rfl⟩ | ⟨rfl, rfl⟩ | ⟨rfl, rfl⟩ | ⟨rfl, rfl⟩
  · rw [if_pos rfl, i0, i1, i2] at e
    obtain ⟨a2, x2, y2, s2, as2, e1, -, -⟩ := g_book xt s (nu ((0 : Int32)).toNatClampNeg) (nu ((1 : Int32)).toNatClampNeg) (nu ((2 : Int32)).toNatClampNeg) h
    rw [e1, bd3_e] at e
    cases e
    exact i_book xt _ _ _ h hI e1
  · rw [if_neg (by decide), if_pos rfl] at e
    obtain ⟨a2, x2, s2, e1, -, -⟩ := g_fly h
    rw [e1, bd2_e] at e
    cases e
    exact i_fly h hI e1
  · rw [if_neg (by decide), if_neg (by decide), if_pos rfl, i0, i1, i2] at e
    obtain ⟨a2, x2, s2, e1, -, -⟩ := g_load (nu ((0 : Int32)).toNatClampNeg) (nu ((1 : Int32)).toNatClampNeg) (nu ((2 : Int32)).toNatClampNeg) h
    rw [e1, bd2_e] at e
    cases e
    exact i_load _ _ _ h hI e1
  · rw [if_neg (by decide), if_neg (by decide), if_neg (by decide), if_pos rfl, i0] at e
    obtain ⟨a2, x2, s2, e1, -, -⟩ := g_sleep (nu ((0 : Int32)).toNatClampNeg) h
    rw [e1, bd2_e] at e
    cases e
    exact i_sleep _ h hI e1
  · rw [if_neg (by decide), if_neg (by decide), if_neg (by decide), if_neg (by decide), if_pos rfl, i0, i1] at e
    obtain ⟨a2, x2, s2, e1, -, -⟩ := g_storm (nu ((0 : Int32)).toNatClampNeg) (nu ((1 : Int32)).toNatClampNeg) h
    rw [e1, bd2_e] at e
    cases e
    exact i_storm _ _ h hI e1
  · rw [if_neg (by decide), if_neg (by decide), if_neg (by decide), if_neg (by decide), if_neg (by decide), if_pos rfl, i0] at e
    obtain ⟨a2, x2, s2, e1, -, -⟩ := g_cancel (nu ((0 : Int32)).toNatClampNeg) h
    rw [e1, bd2_e] at e
    cases e
    exact i_cancel _ h hI e1
