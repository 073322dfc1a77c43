/-! ===== the law's numbers and texts ===== -/
theorem lm_and (a b : Nat) : nI a &&& nI b = nI (a &&& b) := by
  apply Int32.toBitVec_inj.1
  show BitVec.ofNat 32 a &&& BitVec.ofNat 32 b = BitVec.ofNat 32 (a &&& b)
  apply BitVec.eq_of_getLsbD_eq
  intro i hi
  simp [hi]
theorem lm_mask (x : Int32) : ∃ k, k < 2 ^ 31 ∧ x &&& (2147483647 : Int32) = nI k := by
  have e : x = nI x.toBitVec.toNat := by
    apply Int32.toBitVec_inj.1
    show x.toBitVec = BitVec.ofNat 32 x.toBitVec.toNat
    simp
  refine ⟨x.toBitVec.toNat % 2 ^ 31, Nat.mod_lt _ (by omega), ?_⟩
  have h : ∀ k : Nat, nI k &&& (2147483647 : Int32) = nI (k % 2 ^ 31) := by
    intro k
    show nI k &&& nI 2147483647 = _
    rw [lm_and, show (2147483647 : Nat) = 2 ^ 31 - 1 from rfl, Nat.and_two_pow_sub_one_eq_mod]
  rw [← h, ← e]
theorem q_div31 {a b : Nat} (ha : a < 2 ^ 31) (hb : b < 2 ^ 31) (hb0 : 0 < b) : nI a / nI b = nI (a / b) := by
  apply Int32.toInt_inj.mp
  have h1 : a / b ≤ a := Nat.div_le_self a b
  have hne : nI b ≠ -1 := by
    intro e
    have := congrArg Int32.toInt e
    rw [nI_toInt (by omega)] at this
    have e2 : (-1 : Int32).toInt = -1 := by decide
    omega
  rw [Int32.toInt_div_of_ne_right _ _ hne, nI_toInt (by omega), nI_toInt (by omega), nI_toInt (by omega), Int.tdiv_eq_ediv_of_nonneg (by omega)]
  exact (Int.natCast_ediv a b).symm
theorem q_rem {a b : Nat} (ha : a < 2 ^ 31) (hb : b < 2 ^ 31) (hb0 : 0 < b) : nI a - nI a / nI b * nI b = nI (a % b) := by
  rw [q_div31 ha hb hb0, pk_mul, pk_sub (Nat.div_mul_le_self a b)]
  congr 1
  have h := Nat.div_add_mod a b
  rw [Nat.mul_comm] at h
  omega
theorem low_v (v : Int32) {n : Nat} (h1 : 1 ≤ n) (h2 : n < 2 ^ 20) : ∃ r, r < n ∧ fL_low v (nI n) = some (nI r) := by
  obtain ⟨k, k1, k2⟩ := lm_mask v
  refine ⟨k % n, Nat.mod_lt _ (by omega), ?_⟩
  have hz : dzB (nI n) = true := by
    unfold dzB
    rw [q_l0, decide_eq_false (by rw [q_eq (by omega) (by omega)]; omega)]
    rfl
  unfold fL_low
  rw [hz, q_gt, k2, q_rem k1 (by omega) (by omega)]
theorem type_v {t c : Nat} {ch : Nat → Int32} (h : TxtR t ch ch) (ht : t < 60) (hc : 32 ≤ c ∧ c ≤ 126) : ∃ ch', fX6_type ch (nI t) (nI c) = some (nI (t + 1), ch', nI (t + 1)) ∧ TxtR (t + 1) ch' ch' := by
  have q32 : (32 : Int32) = nI 32 := by decide
  have q126 : (126 : Int32) = nI 126 := by decide
  have q_ch : ∀ c : Fin 127, vp_nar .char ((((nI c.1).toUInt32 % 65536).toInt32)) = nI c.1 := by decide +kernel
  have hv : vp_nar .char ((((nI c).toUInt32 % 65536).toInt32)) = nI c := q_ch ⟨c, by omega⟩
  refine ⟨upd ch t (nI c), ?_, by omega, fun i hi => ?_⟩
  · have ha : fX5_append ch (nI t) (nI c) = some (upd ch t (nI c), nI (t + 1)) := by
      unfold fX5_append
      rw [hv, q_l60, if_neg (show ¬ nI 60 ≤ nI t by rw [q_le (by omega) (by omega)]; omega), q_gd (by omega) (by omega), q_cl (by omega), q_jl, q_l1, nI_add, q_jl]
    unfold fX6_type
    rw [q32, if_neg (show ¬ nI c < nI 32 by rw [q_lt (by omega) (by omega)]; omega), q126, if_pos (show nI c ≤ nI 126 by rw [q_le (by omega) (by omega)]; omega), q_l60, if_pos (show nI t < nI 60 by rw [q_lt (by omega) (by omega)]; exact ht), ha, bd2_e]
  · by_cases ei : i = t
    · subst ei
      exact ⟨c, hc.1, hc.2, pk_us, pk_us⟩
    · obtain ⟨z, z1, z2, z3, z4⟩ := h.2 i (by omega)
      exact ⟨z, z1, z2, (pk_un ei).trans z3, (pk_un ei).trans z4⟩
theorem digits_v {t v : Nat} {ch : Nat → Int32} (h : TxtR t ch ch) (ht : t + 3 ≤ 60) (hv : v < 1000) : ∃ ch' t', t' ≤ t + 3 ∧ fL_digits ch (nI t) (nI v) = some (1, ch', nI t') ∧ TxtR t' ch' ch' := by
  have q10' : (10 : Int32) = nI 10 := by decide
  have q100 : (100 : Int32) = nI 100 := by decide
  have q48 : (48 : Int32) = nI 48 := by decide
  have a1 : (48 : Int32) + (nI v - nI v / (10 : Int32) * (10 : Int32)) = nI (48 + v % 10) := by
    rw [q48, q10', q_rem (by omega) (by omega) (by omega), nI_add]
  have a2 : (48 : Int32) + (nI v / (10 : Int32) - nI v / (10 : Int32) / (10 : Int32) * (10 : Int32)) = nI (48 + v / 10 % 10) := by
    rw [q48, q10', q_div31 (by omega) (by omega) (by omega), q_rem (by omega) (by omega) (by omega), nI_add]
  have a3 : (48 : Int32) + nI v / (100 : Int32) = nI (48 + v / 100) := by
    rw [q48, q100, q_div31 (by omega) (by omega) (by omega), nI_add]
  have z : ∀ k : Nat, k < 100 → (nI (k + 1) ≤ (0 : Int32)) = False := by
    intro k hk
    rw [q_l0, q_le (by omega) (by omega)]
    exact eq_false (by omega)
  have l100 : (nI v < (100 : Int32)) = (v < 100) := by rw [q100, q_lt (by omega) (by omega)]
  have l10 : (nI v < (10 : Int32)) = (v < 10) := by rw [q10', q_lt (by omega) (by omega)]
  unfold fL_digits
  by_cases c2 : v < 100
  · by_cases c1 : v < 10
    · obtain ⟨ch1, e1, h1⟩ := type_v h (c := 48 + v % 10) (by omega) (by omega)
      refine ⟨ch1, t + 1, by omega, ?_, h1⟩
      simp only [q_mrg, l100, l10, c1, c2, if_true, a1, e1, bd3_e, z t (by omega), if_false]
    · obtain ⟨ch1, e1, h1⟩ := type_v h (c := 48 + v / 10 % 10) (by omega) (by omega)
      obtain ⟨ch2, e2, h2⟩ := type_v h1 (c := 48 + v % 10) (by omega) (by omega)
      refine ⟨ch2, t + 1 + 1, by omega, ?_, h2⟩
      simp only [q_mrg, l100, l10, c1, c2, if_true, a1, a2, e1, e2, bd3_e, z t (by omega), z (t + 1) (by omega), if_false]
  · have c1 : ¬ v < 10 := by omega
    obtain ⟨ch1, e1, h1⟩ := type_v h (c := 48 + v / 100) (by omega) (by omega)
    obtain ⟨ch2, e2, h2⟩ := type_v h1 (c := 48 + v / 10 % 10) (by omega) (by omega)
    obtain ⟨ch3, e3, h3⟩ := type_v h2 (c := 48 + v % 10) (by omega) (by omega)
    refine ⟨ch3, t + 1 + 1 + 1, by omega, ?_, h3⟩
    simp only [q_mrg, l100, l10, c1, c2, a1, a2, a3, e1, e2, e3, bd3_e, z t (by omega), z (t + 1) (by omega), z (t + 1 + 1) (by omega), if_false]
def TY (y : Option (Int32 × (Nat → Int32) × Int32)) : Prop := ∃ ch' t', y = some (1, ch', nI t') ∧ TxtR t' ch' ch'
theorem P_ite {α : Type} {P : α → Prop} {c : Prop} [Decidable c] {a b : α} (ha : c → P a) (hb : ¬ c → P b) : P (if c then a else b) := by
  by_cases h : c
  · rw [if_pos h]; exact ha h
  · rw [if_neg h]; exact hb h
theorem ty_num {v13 v38 m u : Int32} {t : Nat} {ch : Nat → Int32} {rc : Int32 → (Nat → Int32) → Int32 → Option (Int32 × (Nat → Int32) × Int32)} (hT : TxtR t ch ch) (ht : t + 3 ≤ 60) (hm : ∃ k, m = nI k ∧ 1 ≤ k ∧ k ≤ 60) (hu : ∃ k, u = nI k ∧ k < 400) (hr : ∀ ch' t', t' ≤ t + 3 → TxtR t' ch' ch' → TY (rc (v38 + 1) ch' (nI t'))) :
    TY (bd1 (fL_low (v13 >>> (((2 : Int32) + v38) &&& 31)) m) fun r93 => bd3 (fL_digits ch (nI t) (u + r93)) fun r95 ch_96 tl_97 => if r95 = 0 then none else jl (v38 + (1 : Int32)) fun v100 => rc v100 ch_96 tl_97) := by
  obtain ⟨k, rfl, k1, k2⟩ := hm
  obtain ⟨w, rfl, w1⟩ := hu
  obtain ⟨r, r1, r2⟩ := low_v (v13 >>> (((2 : Int32) + v38) &&& 31)) k1 (by omega)
  obtain ⟨ch', t', t1, e, h'⟩ := digits_v hT ht (v := w + r) (by omega)
  rw [r2, bd1_e, nI_add, e, bd3_e, if_neg (by decide), q_jl]
  exact hr ch' t' t1 h'
theorem ty_inner {ke lnn p2 r1 v13 r14 : Int32} {x : HutS} {i W D : Nat} {rec8 : Int32 → (Nat → Int32) → Int32 → Option (Int32 × (Nat → Int32) × Int32)} (hd : ∀ tl, fX6_count ke lnn tl x 4 = some (nI D)) (hD : D ≤ 365) (hi : i ≤ 3) (hW : W ≤ 3) (h8 : ∀ ch' t', t' ≤ 14 * (i + 1) → TxtR t' ch' ch' → TY (rec8 (nI (i + 1)) ch' (nI t'))) :
    ∀ (k j n t : Nat) (ch : Nat → Int32), j + k = W → k < n → t ≤ 14 * i + 1 + 4 * j → TxtR t ch ch → TY (gl3 (sL_types_rec37 ke lnn x p2 r1 rec8 (nI i) v13 r14 (nI W)) n (nI j) ch (nI t)) := by
  have i1 : nI i + (1 : Int32) = nI (i + 1) := by rw [q_l1, nI_add]
  have ez : ∀ k : Nat, k < 100 → (nI (k + 1) ≤ (0 : Int32)) = False := by
    intro k hk
    rw [q_l0, q_le (by omega) (by omega)]
    exact eq_false (by omega)
  intro k
  induction k with
  | zero =>
    intro j n t ch hj hn ht hT
    obtain ⟨n, rfl⟩ := Nat.exists_eq_succ_of_ne_zero (Nat.ne_of_gt hn)
    show TY (sL_types_rec37 ke lnn x p2 r1 rec8 (nI i) v13 r14 (nI W) _ (nI j) ch (nI t))
    obtain ⟨a, a1, a2⟩ := low_v (p2 >>> ((24 : Int32) &&& 31)) (n := 6) (by omega) (by omega)
    obtain ⟨b, b1, b2⟩ := low_v (p2 >>> ((20 : Int32) &&& 31)) (n := 11) (by omega) (by omega)
    have q11 : (11 : Int32) = nI 11 := by decide
    have hend : ∀ c : Nat, 32 ≤ c ∧ c ≤ 126 → TY (bd3 (fX6_type ch (nI t) (nI c)) fun r53 ch_55 tl_57 => if r53 ≤ 0 then none else jl (nI i + (1 : Int32)) fun v60 => rec8 v60 ch_55 tl_57) := by
      intro c hc
      obtain ⟨ch1, e1, h1⟩ := type_v hT (c := c) (by omega) hc
      rw [e1, bd3_e, if_neg (by rw [ez t (by omega)]; exact fun q => q), q_jl, i1]
      exact h8 ch1 (t + 1) (by omega) h1
    have hJ : TY (bd1 (fL_low (p2 >>> ((20 : Int32) &&& 31)) (11 : Int32)) fun r48 => mrg (fun (v52 : Int32) => bd3 (fX6_type ch (nI t) v52) fun r53 ch_55 tl_57 => if r53 ≤ 0 then none else jl (nI i + (1 : Int32)) fun v60 => rec8 v60 ch_55 tl_57) fun J51 => if r48 = 0 then J51 (46 : Int32) else J51 (59 : Int32)) := by
      rw [q11, b2, bd1_e, q_mrg]
      exact P_ite (fun _ => hend 46 (by omega)) (fun _ => hend 59 (by omega))
    rw [sL_types_rec37]
    rw [if_pos (show nI W ≤ nI j by rw [q_le (by omega) (by omega)]; omega), q_l6, a2, bd1_e, q_mrg]
    refine P_ite (fun _ => P_ite (fun _ => ?_) (fun _ => hJ)) (fun _ => hJ)
    rw [q_jl, i1]
    exact h8 ch t (by omega) hT
  | succ k ih =>
    intro j n t ch hj hn ht hT
    obtain ⟨n, rfl⟩ := Nat.exists_eq_succ_of_ne_zero (by omega : n ≠ 0)
    show TY (sL_types_rec37 ke lnn x p2 r1 rec8 (nI i) v13 r14 (nI W) (gl3 (sL_types_rec37 ke lnn x p2 r1 rec8 (nI i) v13 r14 (nI W)) n) (nI j) ch (nI t))
    have j1 : nI j + (1 : Int32) = nI (j + 1) := by rw [q_l1, nI_add]
    have leaf : ∀ m u : Int32, (∃ k, m = nI k ∧ 1 ≤ k ∧ k ≤ 60) → (∃ k, u = nI k ∧ k < 400) → TY (mrg (fun (ch91 : Nat → Int32) (tl92 : Int32) => bd1 (fL_low (v13 >>> (((2 : Int32) + nI j) &&& 31)) m) fun r93 => bd3 (fL_digits ch91 tl92 (u + r93)) fun r95 ch_96 tl_97 => if r95 = 0 then none else jl (nI j + (1 : Int32)) fun v100 => gl3 (sL_types_rec37 ke lnn x p2 r1 rec8 (nI i) v13 r14 (nI W)) n v100 ch_96 tl_97) fun J83 => if nI j = 0 then J83 ch (nI t) else bd3 (fX6_type ch (nI t) (44 : Int32)) fun r84 ch_86 tl_88 => if r84 ≤ 0 then none else J83 ch_86 tl_88) := by
      intro m u hm hu
      rw [q_mrg]
      refine P_ite (fun _ => ?_) (fun _ => ?_)
      · exact ty_num hT (by omega) hm hu (fun ch' t' t1 h' => by rw [j1]; exact ih (j + 1) n t' ch' (by omega) (by omega) (by omega) h')
      · obtain ⟨ch1, e1, h1⟩ := type_v hT (c := 44) (by omega) (by omega)
        rw [show (44 : Int32) = nI 44 by decide, e1, bd3_e, if_neg (by rw [ez t (by omega)]; exact fun q => q)]
        exact ty_num h1 (by omega) hm hu (fun ch' t' t1 h' => by rw [j1]; exact ih (j + 1) n t' ch' (by omega) (by omega) (by omega) h')
    have leaf2 : ∀ m : Int32, (∃ k, m = nI k ∧ 1 ≤ k ∧ k ≤ 60) → TY (mrg (fun (v81 : Int32) => mrg (fun (ch91 : Nat → Int32) (tl92 : Int32) => bd1 (fL_low (v13 >>> (((2 : Int32) + nI j) &&& 31)) m) fun r93 => bd3 (fL_digits ch91 tl92 (v81 + r93)) fun r95 ch_96 tl_97 => if r95 = 0 then none else jl (nI j + (1 : Int32)) fun v100 => gl3 (sL_types_rec37 ke lnn x p2 r1 rec8 (nI i) v13 r14 (nI W)) n v100 ch_96 tl_97) fun J83 => if nI j = 0 then J83 ch (nI t) else bd3 (fX6_type ch (nI t) (44 : Int32)) fun r84 ch_86 tl_88 => if r84 ≤ 0 then none else J83 ch_86 tl_88) fun J70 => if r14 ≤ (4 : Int32) then J70 (0 : Int32) else if (8 : Int32) ≤ r14 then J70 (0 : Int32) else mrg (fun (v74 : Int32) => if nI j = v74 then bd1 (fX6_count ke lnn (nI t) x (4 : Int32)) fun r76 => if (350 : Int32) ≤ r76 then J70 (0 : Int32) else bd1 (fX6_count ke lnn (nI t) x (4 : Int32)) fun r79 => J70 r79 else J70 (0 : Int32)) fun J73 => if r14 = (7 : Int32) then J73 (0 : Int32) else J73 (1 : Int32)) := by
      intro m hm
      have z0 : ∃ k, (0 : Int32) = nI k ∧ k < 400 := ⟨0, rfl, by omega⟩
      have hd4 : fX6_count ke lnn (nI t) x (4 : Int32) = some (nI D) := hd (nI t)
      rw [q_mrg]
      have day : ∀ v74 : Int32, TY (if nI j = v74 then bd1 (fX6_count ke lnn (nI t) x (4 : Int32)) fun r76 => if (350 : Int32) ≤ r76 then mrg (fun (ch91 : Nat → Int32) (tl92 : Int32) => bd1 (fL_low (v13 >>> (((2 : Int32) + nI j) &&& 31)) m) fun r93 => bd3 (fL_digits ch91 tl92 ((0 : Int32) + r93)) fun r95 ch_96 tl_97 => if r95 = 0 then none else jl (nI j + (1 : Int32)) fun v100 => gl3 (sL_types_rec37 ke lnn x p2 r1 rec8 (nI i) v13 r14 (nI W)) n v100 ch_96 tl_97) fun J83 => if nI j = 0 then J83 ch (nI t) else bd3 (fX6_type ch (nI t) (44 : Int32)) fun r84 ch_86 tl_88 => if r84 ≤ 0 then none else J83 ch_86 tl_88 else bd1 (fX6_count ke lnn (nI t) x (4 : Int32)) fun r79 => mrg (fun (ch91 : Nat → Int32) (tl92 : Int32) => bd1 (fL_low (v13 >>> (((2 : Int32) + nI j) &&& 31)) m) fun r93 => bd3 (fL_digits ch91 tl92 (r79 + r93)) fun r95 ch_96 tl_97 => if r95 = 0 then none else jl (nI j + (1 : Int32)) fun v100 => gl3 (sL_types_rec37 ke lnn x p2 r1 rec8 (nI i) v13 r14 (nI W)) n v100 ch_96 tl_97) fun J83 => if nI j = 0 then J83 ch (nI t) else bd3 (fX6_type ch (nI t) (44 : Int32)) fun r84 ch_86 tl_88 => if r84 ≤ 0 then none else J83 ch_86 tl_88 else mrg (fun (ch91 : Nat → Int32) (tl92 : Int32) => bd1 (fL_low (v13 >>> (((2 : Int32) + nI j) &&& 31)) m) fun r93 => bd3 (fL_digits ch91 tl92 ((0 : Int32) + r93)) fun r95 ch_96 tl_97 => if r95 = 0 then none else jl (nI j + (1 : Int32)) fun v100 => gl3 (sL_types_rec37 ke lnn x p2 r1 rec8 (nI i) v13 r14 (nI W)) n v100 ch_96 tl_97) fun J83 => if nI j = 0 then J83 ch (nI t) else bd3 (fX6_type ch (nI t) (44 : Int32)) fun r84 ch_86 tl_88 => if r84 ≤ 0 then none else J83 ch_86 tl_88) := by
        intro v74
        refine P_ite (fun _ => ?_) (fun _ => leaf m 0 hm z0)
        rw [hd4, bd1_e]
        refine P_ite (fun _ => leaf m 0 hm z0) (fun _ => ?_)
        rw [bd1_e]
        exact leaf m (nI D) hm ⟨D, rfl, by omega⟩
      refine P_ite (fun _ => leaf m 0 hm z0) (fun _ => P_ite (fun _ => leaf m 0 hm z0) (fun _ => ?_))
      rw [q_mrg]
      exact P_ite (fun _ => day 0) (fun _ => day 1)
    rw [sL_types_rec37]
    rw [if_neg (show ¬ nI W ≤ nI j by rw [q_le (by omega) (by omega)]; omega), q_mrg]
    have m7 : ∃ k, (7 : Int32) = nI k ∧ 1 ≤ k ∧ k ≤ 60 := ⟨7, by decide, by omega, by omega⟩
    have m12 : ∃ k, (12 : Int32) = nI k ∧ 1 ≤ k ∧ k ≤ 60 := ⟨12, by decide, by omega, by omega⟩
    have m4 : ∃ k, (4 : Int32) = nI k ∧ 1 ≤ k ∧ k ≤ 60 := ⟨4, by decide, by omega, by omega⟩
    have m60 : ∃ k, (60 : Int32) = nI k ∧ 1 ≤ k ∧ k ≤ 60 := ⟨60, by decide, by omega, by omega⟩
    have m20 : ∃ k, (20 : Int32) = nI k ∧ 1 ≤ k ∧ k ≤ 60 := ⟨20, by decide, by omega, by omega⟩
    exact P_ite (fun _ => P_ite (fun _ => leaf2 7 m7) (fun _ => P_ite (fun _ => leaf2 7 m7) (fun _ => P_ite (fun _ => leaf2 12 m12) (fun _ => leaf2 7 m7)))) (fun _ => P_ite (fun _ => leaf2 4 m4) (fun _ => P_ite (fun _ => leaf2 60 m60) (fun _ => leaf2 20 m20)))
theorem ty_outer {ke lnn p2 : Int32} {x : HutS} {m D : Nat} (hd : ∀ tl, fX6_count ke lnn tl x 4 = some (nI D)) (hD : D ≤ 365) (hm : m ≤ 4) :
    ∀ (k i n t : Nat) (ch : Nat → Int32), i + k = m → k < n → t ≤ 14 * i → TxtR t ch ch → TY (gl3 (sL_types_rec8 ke lnn x p2 (nI m)) n (nI i) ch (nI t)) := by
  have ez : ∀ k : Nat, k < 100 → (nI (k + 1) ≤ (0 : Int32)) = False := by
    intro k hk
    rw [q_l0, q_le (by omega) (by omega)]
    exact eq_false (by omega)
  intro k
  induction k with
  | zero =>
    intro i n t ch hi hn ht hT
    obtain ⟨n, rfl⟩ := Nat.exists_eq_succ_of_ne_zero (Nat.ne_of_gt hn)
    show TY (sL_types_rec8 ke lnn x p2 (nI m) _ (nI i) ch (nI t))
    rw [sL_types_rec8]
    rw [if_pos (show nI m ≤ nI i by rw [q_le (by omega) (by omega)]; omega)]
    exact ⟨ch, t, rfl, hT⟩
  | succ k ih =>
    intro i n t ch hi hn ht hT
    obtain ⟨n, rfl⟩ := Nat.exists_eq_succ_of_ne_zero (by omega : n ≠ 0)
    show TY (sL_types_rec8 ke lnn x p2 (nI m) (gl3 (sL_types_rec8 ke lnn x p2 (nI m)) n) (nI i) ch (nI t))
    obtain ⟨w, w1, w2⟩ := low_v (p2 >>> (((3 : Int32) + ((5 : Int32) * nI i)) &&& 31)) (n := 9) (by omega) (by omega)
    have body : ∀ (W : Nat) (c : Nat), W ≤ 3 → 32 ≤ c ∧ c ≤ 126 → TY (bd3 (fX6_type ch (nI t) (nI c)) fun r30 ch_32 tl_34 => if r30 ≤ 0 then none else gl3 (sL_types_rec37 ke lnn x p2 (nI m) (gl3 (sL_types_rec8 ke lnn x p2 (nI m)) n) (nI i) (p2 >>> (((3 : Int32) + ((5 : Int32) * nI i)) &&& 31)) (nI w) (nI W)) gFU (0 : Int32) ch_32 tl_34) := by
      intro W c hW hc
      obtain ⟨ch1, e1, h1⟩ := type_v hT (c := c) (by omega) hc
      rw [e1, bd3_e, if_neg (by rw [ez t (by omega)]; exact fun q => q), q_l0]
      exact ty_inner hd hD (by omega) hW (fun ch' t' t1 h' => ih (i + 1) n t' ch' (by omega) (by omega) (by omega) h') W 0 gFU (t + 1) ch1 (Nat.zero_add _) (by unfold gFU; omega) (by omega) h1
    have sign : ∀ (W : Nat), W ≤ 3 → TY (mrg (fun (v29 : Int32) => bd3 (fX6_type ch (nI t) v29) fun r30 ch_32 tl_34 => if r30 ≤ 0 then none else gl3 (sL_types_rec37 ke lnn x p2 (nI m) (gl3 (sL_types_rec8 ke lnn x p2 (nI m)) n) (nI i) (p2 >>> (((3 : Int32) + ((5 : Int32) * nI i)) &&& 31)) (nI w) (nI W)) gFU (0 : Int32) ch_32 tl_34) fun J24 => if (3 : Int32) ≤ nI w then if nI w = (3 : Int32) then J24 (102 : Int32) else if (5 : Int32) ≤ nI w then if (7 : Int32) ≤ nI w then if nI w = (7 : Int32) then J24 (115 : Int32) else J24 (120 : Int32) else J24 (98 : Int32) else J24 (110 : Int32) else J24 (108 : Int32)) := by
      intro W hW
      rw [q_mrg]
      exact P_ite (fun _ => P_ite (fun _ => body W 102 hW (by omega)) (fun _ => P_ite (fun _ => P_ite (fun _ => P_ite (fun _ => body W 115 hW (by omega)) (fun _ => body W 120 hW (by omega))) (fun _ => body W 98 hW (by omega))) (fun _ => body W 110 hW (by omega)))) (fun _ => body W 108 hW (by omega))
    rw [sL_types_rec8]
    rw [if_neg (show ¬ nI m ≤ nI i by rw [q_le (by omega) (by omega)]; omega), q_jl, q_l9, w2, bd1_e, q_mrg]
    exact P_ite (fun _ => sign 3 (by omega)) (fun _ => P_ite (fun _ => sign 3 (by omega)) (fun _ => P_ite (fun _ => sign 3 (by omega)) (fun _ => P_ite (fun _ => sign 0 (by omega)) (fun _ => P_ite (fun _ => sign 2 (by omega)) (fun _ => sign 1 (by omega))))))
theorem types_v {ke lnn : Int32} {x : HutS} {s ch : Nat → Int32} {t : Nat} (p2 : Int32) (h : HR x s) (hT : TxtR t ch ch) : ∃ ch' t', fL_types ke lnn ch (nI t) x p2 = some (1, ch', nI t') ∧ TxtR t' ch' ch' := by
  obtain ⟨m, m1, m2⟩ := low_v p2 (n := 5) (by omega) (by omega)
  obtain ⟨l, pl, N, d, F, lk, la, ll, us, sp, zs, zd, zn, zt, zl, zc, sto, sg, hu, cn, gn, cs, pk, pa, pd, br, hN, hd, rfl, hh⟩ := h
  unfold fL_types
  rw [q_l5, m2, bd1_e]
  unfold fX6_clearText
  have ht : t ≤ 60 := hT.1
  rw [bd2_e, if_neg (nI_nn (by omega)), q_l0]
  exact ty_outer (fun tl => (vH_count (ke := ke) (lnn := lnn) (tl := tl) hN hh).2.2.2.2.1) hd (by omega) m 0 gFU 0 ch (Nat.zero_add _) (by unfold gFU; omega) (Nat.zero_le _) ⟨by omega, fun i hi => absurd hi (Nat.not_lt_zero i)⟩
