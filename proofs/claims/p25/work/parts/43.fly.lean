/-! ===== a flight ===== -/
/-- the pallet: (kind, amount, days) -/
def PalR (pl : List LT) (pk pa pd s : Nat → Int32) : Prop := pl.length ≤ 6 ∧ (∀ t ∈ pl, t.1 ≤ 2 ∧ 1 ≤ t.2.1 ∧ t.2.1 ≤ 999 ∧ t.2.2 ≤ 365) ∧ CA pk pa pd 0 pl ∧ s 3 = nI pl.length ∧ CA (fun k => s (23 + 3 * k)) (fun k => s (23 + 3 * k + 1)) (fun k => s (23 + 3 * k + 2)) 0 pl
def BrR (br s : Nat → Int32) : Prop := ∀ k, k ≤ 2 → s (14 + k) = br k
theorem unload_loop {pk pa pd : Nat → Int32} {M d : Nat} {v2 : Int32} (hM : M ≤ 6) (hd : d ≤ 365) (hv : v2 = nI M) :
    ∀ (q : List LT) (i n m : Nat) (l : List LT) (lk la ll br s : Nat → Int32), i + q.length = M → l.length + q.length ≤ 20 → q.length < n → q.length < m → (∀ t ∈ q, t.1 ≤ 2 ∧ 1 ≤ t.2.1 ∧ t.2.1 ≤ 999 ∧ t.2.2 ≤ 365) → CA pk pa pd i q → CA (fun k => s (23 + 3 * k)) (fun k => s (23 + 3 * k + 1)) (fun k => s (23 + 3 * k + 2)) i q → LotR l lk la ll s → BrR br s → s 0 = nI d →
      ∃ r lk' la' ll' br' s', gl6 (sX4_unloadPallet_rec1 pk pa pd (nI M) (nI d)) n (nI i) lk la ll (nI l.length) br = some (lk', la', ll', nI (List.length r), 0, br') ∧ gl2 (sX7_flies_rec13 v2) m (nI (23 + 3 * i)) s = gl2 (sX7_flies_rec17 v2) gFU 0 s' ∧ LotR r lk' la' ll' s' ∧ BrR br' s' ∧ (∀ j, j ≠ 2 → j < 41 ∨ 101 ≤ j → (j < 14 ∨ 16 < j) → s' j = s j) ∧ (∀ k, 2 < k → br' k = br k) ∧ (∀ us sp, BI lk la (nI l.length) br us sp → BI lk' la' (nI (List.length r)) br' us sp) := by
  intro q
  induction q with
  | nil =>
    intro i n m l lk la ll br s hi hl hn hm hb c1 c2 hL hB h0
    obtain ⟨n, rfl⟩ := Nat.exists_eq_succ_of_ne_zero (Nat.ne_of_gt hn)
    obtain ⟨m, rfl⟩ := Nat.exists_eq_succ_of_ne_zero (Nat.ne_of_gt hm)
    have : i = M := hi
    subst this
    subst hv
    refine ⟨l, lk, la, ll, br, s, ?_, ?_, hL, hB, fun _ _ _ _ => rfl, fun _ _ => rfl, fun _ _ w => w⟩
    · show sX4_unloadPallet_rec1 pk pa pd (nI i) (nI d) _ (nI i) lk la ll (nI l.length) br = _
      simp (disch := omega) only [sX4_unloadPallet_rec1, q_le, Nat.le_refl, if_true]
    · show sX7_flies_rec13 (nI i) _ (nI (23 + 3 * i)) s = _
      simp (disch := omega) only [sX7_flies_rec13, q_l23, q_l3, pk_mul, nI_add, q_le, Nat.le_refl, if_true]
  | cons t q ih =>
    intro i n m l lk la ll br s hi hl hn hm hb c1 c2 hL hB h0
    obtain ⟨n, rfl⟩ := Nat.exists_eq_succ_of_ne_zero (Nat.ne_of_gt (Nat.lt_of_le_of_lt (Nat.zero_le _) hn))
    obtain ⟨m, rfl⟩ := Nat.exists_eq_succ_of_ne_zero (Nat.ne_of_gt (Nat.lt_of_le_of_lt (Nat.zero_le _) hm))
    subst hv
    obtain ⟨k, a, x⟩ := t
    have hql : ((k, a, x) :: q).length = q.length + 1 := rfl
    obtain ⟨⟨d1, d2, d3⟩, d4⟩ := c1
    obtain ⟨⟨g1, g2, g3⟩, g4⟩ := c2
    have d1' : pk i = nI k := d1
    have d2' : pa i = nI a := d2
    have d3' : pd i = nI x := d3
    have g1' : s (23 + 3 * i) = nI k := g1
    have g2' : s (23 + 3 * i + 1) = nI a := g2
    have g3' : s (23 + 3 * i + 2) = nI x := g3
    obtain ⟨b1, b2, b3, b4⟩ := hb (k, a, x) (List.mem_cons_self ..)
    have b1' : k ≤ 2 := b1
    have b2' : 1 ≤ a := b2
    have b3' : a ≤ 999 := b3
    have b4' : x ≤ 365 := b4
    obtain ⟨r1, lk1, la1, ll1, s1, e1, e2, e3, e4, e5, e6, e7⟩ := come_sim (br := br) (c := k) (a := a) (x := d + x) (by omega) b1' ⟨b2', b3'⟩ (by omega) hL
    have hB1 : BrR (upd br k (br k + nI a)) s1 := by
      intro j hj
      by_cases e : j = k
      · subst e
        rw [pk_us, e5, hB j hj]
      · rw [pk_un e, e6 (14 + j) (by omega) (by omega) (by omega), hB j hj]
    obtain ⟨r, lk', la', ll', br', s', f1, f2, f3, f4, f5, f6, f7⟩ := ih (i + 1) n m r1 lk1 la1 ll1 (upd br k (br k + nI a)) s1 (by omega) (by omega) (by omega) (by omega) (fun t ht => hb t (List.mem_cons_of_mem _ ht)) d4
      (CA_congr q _ (fun j j1 j2 => ⟨e6 _ (by omega) (by omega) (by omega), e6 _ (by omega) (by omega) (by omega), e6 _ (by omega) (by omega) (by omega)⟩) g4) e3 hB1 ((e6 0 (by omega) (by omega) (by omega)).trans h0)
    have ngt : ¬ M ≤ i := by omega
    have ngt2 : ¬ 23 + 3 * M ≤ 23 + 3 * i := by omega
    refine ⟨r, lk', la', ll', br', s', ?_, ?_, f3, f4, fun j j1 j2 j3 => (f5 j j1 j2 j3).trans (e6 j j1 j2 (by omega)), fun j hj => (f6 j hj).trans (pk_un (by omega)), fun us sp w => f7 us sp ?_⟩
    · rw [← f1]
      show sX4_unloadPallet_rec1 pk pa pd (nI M) (nI d) (gl6 (sX4_unloadPallet_rec1 pk pa pd (nI M) (nI d)) n) (nI i) lk la ll (nI l.length) br = _
      simp (disch := omega) only [sX4_unloadPallet_rec1, q_le, ngt, if_false, q_gd, q_cl, d1', d2', d3', nI_add, e1, bd5_e, q_jl, q_l1]
    · rw [← f2]
      show sX7_flies_rec13 (nI M) (gl2 (sX7_flies_rec13 (nI M)) m) (nI (23 + 3 * i)) s = _
      have e9 : 23 + 3 * i + 3 = 23 + 3 * (i + 1) := by omega
      simp (disch := omega) only [sX7_flies_rec13, q_l23, q_l3, q_l2, q_l1, q_l0, pk_mul, nI_add, q_le, ngt2, if_false, q_gd, q_cl, g1', g2', g3', h0, e2, bd1_e, q_jl, e9]
    · rw [BI_l hL.1 (fun t ht => (hL.2.1 t ht).1) hL.2.2.2.1] at w
      rw [BI_l e3.1 (fun t ht => (e3.2.1 t ht).1) e3.2.2.2.1]
      intro j hj
      rw [e7 j]
      by_cases q : k = j
      · subst q
        rw [if_pos rfl, pk_us, w k hj, ← nI_add]
        ac_rfl
      · rw [if_neg q, pk_un (Ne.symm q), w j hj, Nat.add_zero]
theorem m_flown {s : Nat → Int32} {v2 : Int32} {F : Nat} (h1 : s 1 = nI F) : ∃ s', gl2 (sX7_flies_rec17 v2) gFU 0 s = some (v2, s') ∧ s' 3 = nI 0 ∧ s' 1 = nI F + nI 1 ∧ (∀ j, j ≠ 1 → j ≠ 3 → j < 23 ∨ 41 ≤ j → s' j = s j) := by
  refine Exists.elim (scat_up (st := sX7_flies_rec17 v2) (out := fun a => some (v2, upd (upd a 3 (nI 0)) 1 (nI F + nI 1))) (fun k => 23 + k) (fun _ _ => nI 0) 0 18 (fun a => a 1 = nI F) (fun a i v ha _ hi => (pk_un (by omega)).trans ha) (fun rec a ha => ?_) (fun rec i a _ hi ha => ?_) (fun _ _ _ _ h => by omega) (fun _ _ _ _ _ _ _ => rfl) 18 0 gFU s (Nat.le_refl _) (by omega) (by unfold gFU; omega) h1) (fun a ⟨g1, ga, g2, g3⟩ => ?_)
  · have q18 : (18 : Int32) = nI 18 := by decide
    simp (disch := omega) only [sX7_flies_rec17, q18, q_le, Nat.le_refl, if_true, q_l3, q_l1, q_l0, q_cl, q_jl, pk_un, ha]
  · have q18 : (18 : Int32) = nI 18 := by decide
    simp (disch := omega) only [sX7_flies_rec17, q18, q_le, if_neg (Nat.not_le.mpr hi), q_l23, q_l1, q_l0, nI_add, q_gd, q_cl, q_jl]
  · refine ⟨_, g1, ?_, pk_us, fun j j1 j2 j3 => ?_⟩
    · rw [pk_un (by omega), pk_us]
    · rw [pk_un j1, pk_un j2, g3 j (fun m _ hm => by omega)]
/-- what a hut and the reference's numbers share -/
def HutR (l pl : List LT) (N d F : Nat) (lk la ll us sp zs zd zn zt zl zc sto sg : Nat → Int32) (hu cn gn cs : Int32) (pk pa pd br : Nat → Int32) (s : Nat → Int32) : Prop :=
  NightR l N d lk la ll us sp zs zd zn zt zl zc sto sg hu cn gn cs s ∧ PalR pl pk pa pd s ∧ BrR br s ∧ s 1 = nI F ∧ F ≤ 9
theorem fly_sim {l pl : List LT} {N d F : Nat} {lk la ll us sp zs zd zn zt zl zc sto sg pk pa pd br s : Nat → Int32} {hu cn gn cs : Int32} (hd : d ≤ 365) (h : HutR l pl N d F lk la ll us sp zs zd zn zt zl zc sto sg hu cn gn cs pk pa pd br s) :
    ∃ ans l' pl' F' lk' la' ll' br' s', fX1_bringPallet lk la ll (nI l.length) pk pa pd (nI pl.length) br sto sg (nI d) (nI F) = some (ans, lk', la', ll', nI (List.length l'), nI (List.length pl'), br', nI F') ∧ fX7_flies s = some (ans, s') ∧ HutR l' pl' N d F' lk' la' ll' us sp zs zd zn zt zl zc sto sg hu cn gn cs pk pa pd br' s' ∧ (ans = nI pl.length ∨ (ans < 0 ∧ s' = s)) ∧ (∀ us2 sp2, BI lk la (nI l.length) br us2 sp2 → BI lk' la' (nI (List.length l')) br' us2 sp2) := by
  have hh := h
  obtain ⟨⟨hL, hP, hU, ⟨hSS, B, R, Q, FF, hB, hB1, hB2, hR, hR1, hR2, hQ, hQ1, hF, hF1⟩, hT, h0, h5, h6, h7, h8⟩, ⟨hp1, hp2, hp3, hp4, hp5⟩, hBr, h1, hF9⟩ := hh
  have e1 := p_isStorm (sto := sto) (d := d) (by omega) (fun hk => (hT d hk).2.1)
  have eT : (if d < 396 ∧ s (203 + d) = nI 1 then nI 1 else nI 0) = (if d < 396 ∧ sto d = nI 1 then nI 1 else nI 0) := by
    by_cases hk : d < 396
    · rw [(hT d hk).1]
    · rw [if_neg (fun q => hk q.1), if_neg (fun q => hk q.1)]
  have m1 := m_isStorm (s := s) (d := d) (by omega)
  rw [eT] at m1
  generalize (if d < 396 ∧ sto d = nI 1 then nI 1 else nI 0) = sv at e1 m1
  have hS13 : s 13 = nI FF := (hSS 3 (by omega)).trans hF
  have hl20 : l.length ≤ 20 := hL.1
  have h2 : s 2 = nI l.length := hL.2.2.2.2.1
  have nm2 : (-2 : Int32) < 0 := by decide
  have nm3 : (-3 : Int32) < 0 := by decide
  by_cases c0 : pl.length = 0
  · refine ⟨-2, l, pl, F, lk, la, ll, br, s, ?_, ?_, h, Or.inr ⟨nm2, rfl⟩, fun _ _ w => w⟩
    · unfold fX1_bringPallet
      simp (disch := omega) only [q_l0, q_eq, c0, if_true]
    · unfold fX7_flies
      simp (disch := omega) only [q_l3, q_gd, q_cl, q_jl, hp4, q_l0, q_eq, c0, if_true]
  · by_cases c1 : sv = nI 0
    · by_cases c2 : F < FF
      · by_cases c3 : l.length + pl.length ≤ 20
        · obtain ⟨r, lk', la', ll', br', s1, f1, f2, f3, f4, f5, f6, f7⟩ := unload_loop (v2 := nI pl.length) hp1 hd rfl pl 0 gFU gFU l lk la ll br s (Nat.zero_add _) c3 (by unfold gFU; omega) (by unfold gFU; omega) hp2 hp3 hp5 hL hBr h0
          obtain ⟨s2, g1, g2, g3, g4⟩ := m_flown (v2 := nI pl.length) ((f5 1 (by omega) (by omega) (by omega)).trans h1)
          have hf : ∀ j, j ≠ 1 → j ≠ 2 → j ≠ 3 → (j < 14 ∨ 16 < j) → (j < 23 ∨ 101 ≤ j) → s2 j = s j := fun j j1 j2 j3 j4 j5 => (g4 j j1 j3 (by omega)).trans (f5 j j2 (by omega) j4)
          rw [nI_add] at g3
          refine ⟨nI pl.length, r, [], F + 1, lk', la', ll', br', s2, ?_, ?_, ⟨⟨⟨f3.1, f3.2.1, f3.2.2.1, f3.2.2.2.1, ML_congr f3.1 (g4 2 (by omega) (by omega) (by omega)) (fun j j1 j2 => g4 j (by omega) (by omega) (by omega)) f3.2.2.2.2⟩, ⟨hP.1, (hf 4 (by omega) (by omega) (by omega) (by omega) (by omega)).trans hP.2.1, hP.2.2.1, fun j hj => ?_, fun j hj => (hf _ (by omega) (by omega) (by omega) (by omega) (by omega)).trans (hP.2.2.2.2 j hj)⟩, fun k hk => ⟨?_, ?_⟩, ⟨fun k hk => ?_, B, R, Q, FF, hB, hB1, hB2, hR, hR1, hR2, hQ, hQ1, hF, hF1⟩, fun k hk => ⟨?_, (hT k hk).2⟩, ?_, ?_, ?_, ?_, ?_⟩, ⟨Nat.zero_le _, fun t ht => absurd ht (List.not_mem_nil), trivial, g2, trivial⟩, fun k hk => ?_, g3, by omega⟩, Or.inl rfl, f7⟩
          · have f1' := f1
            unfold fX1_bringPallet fX4_unloadPallet
            rw [q_l0] at f1'
            simp (disch := omega) only [q_l0, q_eq, c0, if_false, e1, bd1_e, c1, if_true, q_l3, q_gd, q_cl, hF, q_lt, c2, nI_add, q_l20, q_le, c3, f1', bd6_e, q_jl, q_l1]
            rfl
          · have f2' := f2.trans g1
            unfold fX7_flies
            simp (disch := omega) only [q_l3, q_gd, q_cl, q_jl, hp4, q_l0, q_eq, c0, if_false, h0, m1, bd1_e, c1, if_true, q_l1, h1, q_l13, hS13, q_lt, c2, q_l2, h2, nI_add, q_l20, q_le, c3, q_l23]
            exact f2'
          · obtain ⟨a1, a2, a3, a4, a5⟩ := hP.2.2.2.1 j hj
            have hjN := hP.1
            exact ⟨(hf _ (by omega) (by omega) (by omega) (by omega) (by omega)).trans a1, (hf _ (by omega) (by omega) (by omega) (by omega) (by omega)).trans a2, (hf _ (by omega) (by omega) (by omega) (by omega) (by omega)).trans a3, (hf _ (by omega) (by omega) (by omega) (by omega) (by omega)).trans a4, (hf _ (by omega) (by omega) (by omega) (by omega) (by omega)).trans a5⟩
          · exact (hf _ (by omega) (by omega) (by omega) (by omega) (by omega)).trans (hU k hk).1
          · exact (hf _ (by omega) (by omega) (by omega) (by omega) (by omega)).trans (hU k hk).2
          · exact (hf _ (by omega) (by omega) (by omega) (by omega) (by omega)).trans (hSS k hk)
          · exact (hf _ (by omega) (by omega) (by omega) (by omega) (by omega)).trans (hT k hk).1
          · exact (hf _ (by omega) (by omega) (by omega) (by omega) (by omega)).trans h0
          · exact (hf _ (by omega) (by omega) (by omega) (by omega) (by omega)).trans h5
          · exact (hf _ (by omega) (by omega) (by omega) (by omega) (by omega)).trans h6
          · exact (hf _ (by omega) (by omega) (by omega) (by omega) (by omega)).trans h7
          · exact (hf _ (by omega) (by omega) (by omega) (by omega) (by omega)).trans h8
          · exact (g4 _ (by omega) (by omega) (by omega)).trans (f4 k hk)
        · refine ⟨-3, l, pl, F, lk, la, ll, br, s, ?_, ?_, h, Or.inr ⟨nm3, rfl⟩, fun _ _ w => w⟩
          · unfold fX1_bringPallet
            have d33 : (-nI 3 : Int32) = -3 := by decide
            simp (disch := omega) only [q_l0, q_eq, c0, if_false, e1, bd1_e, c1, if_true, q_l3, q_gd, q_cl, hF, q_lt, c2, nI_add, q_l20, q_le, c3]
          · unfold fX7_flies
            simp (disch := omega) only [q_l3, q_gd, q_cl, q_jl, hp4, q_l0, q_eq, c0, if_false, h0, m1, bd1_e, c1, if_true, q_l1, h1, q_l13, hS13, q_lt, c2, q_l2, h2, nI_add, q_l20, q_le, c3]
      · refine ⟨-2, l, pl, F, lk, la, ll, br, s, ?_, ?_, h, Or.inr ⟨nm2, rfl⟩, fun _ _ w => w⟩
        · unfold fX1_bringPallet
          simp (disch := omega) only [q_l0, q_eq, c0, if_false, e1, bd1_e, c1, if_true, q_l3, q_gd, q_cl, hF, q_lt, c2]
        · unfold fX7_flies
          simp (disch := omega) only [q_l3, q_gd, q_cl, q_jl, hp4, q_l0, q_eq, c0, if_false, h0, m1, bd1_e, c1, if_true, q_l1, h1, q_l13, hS13, q_lt, c2]
    · refine ⟨-2, l, pl, F, lk, la, ll, br, s, ?_, ?_, h, Or.inr ⟨nm2, rfl⟩, fun _ _ w => w⟩
      · unfold fX1_bringPallet
        simp (disch := omega) only [q_l0, q_eq, c0, if_false, e1, bd1_e, c1]
      · unfold fX7_flies
        simp (disch := omega) only [q_l3, q_gd, q_cl, q_jl, hp4, q_l0, q_eq, c0, if_false, h0, m1, bd1_e, c1]
