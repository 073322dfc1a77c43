/-! ===== one night: the pieces ===== -/
theorem q_div {a b : Nat} (ha : a < 2 ^ 30) (hb : b < 2 ^ 30) (hb0 : 0 < b) : nI a / nI b = nI (a / b) := by
  apply Int32.toInt_inj.mp
  have h1 : a / b ≤ a := Nat.div_le_self a b
  have hne : nI b ≠ -1 := by
    intro e
    have := congrArg Int32.toInt e
    rw [nI_toInt (by omega)] at this
    have e2 : (-1 : Int32).toInt = -1 := by decide
    omega
  rw [Int32.toInt_div_of_ne_right _ _ hne, nI_toInt (by omega), nI_toInt (by omega), nI_toInt (by omega), Int.tdiv_eq_ediv_of_nonneg (by omega)]
  exact (Int.natCast_ediv a b).symm
def stN (c : Nat) : List LT → Nat
  | [] => 0
  | t :: r => (if t.1 = c then t.2.1 else 0) + stN c r
theorem sumS_CA {f g h : Nat → Int32} {c : Nat} (hc : c ≤ 2) : ∀ (r : List LT) (i v : Nat), (∀ t ∈ r, t.1 ≤ 2) → CA f g h i r → sumS g f (nI c) i r.length (nI v) = nI (v + stN c r) := by
  intro r
  induction r with
  | nil => intro i v _ _; rfl
  | cons t r ih =>
    intro i v hb hca
    obtain ⟨⟨e1, e2, e3⟩, hr⟩ := hca
    have hk := hb t (List.mem_cons_self ..)
    show sumS g f (nI c) (i + 1) r.length (if f i = nI c then nI v + g i else nI v) = nI (v + ((if t.1 = c then t.2.1 else 0) + stN c r))
    have e : (f i = nI c) = (t.1 = c) := by rw [e1, q_eq (by omega) (by omega)]
    by_cases h : t.1 = c
    · rw [if_pos (e.mpr h), if_pos h, e2, nI_add, ih (i + 1) _ (fun u hu => hb u (List.mem_cons_of_mem _ hu)) hr, Nat.add_assoc]
    · rw [if_neg (fun q => h (e.mp q)), if_neg h, ih (i + 1) _ (fun u hu => hb u (List.mem_cons_of_mem _ hu)) hr, Nat.zero_add]
theorem stN_le {c : Nat} : ∀ (r : List LT), (∀ t ∈ r, t.2.1 ≤ 999) → stN c r ≤ 999 * r.length := by
  intro r
  induction r with
  | nil => intro _; exact Nat.le_refl _
  | cons t r ih =>
    intro hb
    have h1 := ih (fun u hu => hb u (List.mem_cons_of_mem _ hu))
    have h2 := hb t (List.mem_cons_self ..)
    show (if t.1 = c then t.2.1 else 0) + stN c r ≤ 999 * (r.length + 1)
    split <;> omega
theorem takeL_nz {c : Nat} : ∀ (r : List LT) (n : Nat), (takeL c n (r.filter nzL)).2 = (takeL c n r).2 ∧ (takeL c n (r.filter nzL)).1.filter nzL = (takeL c n r).1.filter nzL := by
  intro r
  induction r with
  | nil => intro n; exact ⟨rfl, rfl⟩
  | cons t r ih =>
    intro n
    obtain ⟨k, a, x⟩ := t
    by_cases ha : a = 0
    · subst ha
      rw [List.filter_cons_of_neg (by simp [nzL])]
      obtain ⟨h1, h2⟩ := ih n
      rw [h1, h2]
      have e : takeL c n ((k, 0, x) :: r) = ((k, 0, x) :: (takeL c n r).1, (takeL c n r).2) := by
        conv => lhs; unfold takeL
        rw [Nat.zero_sub, Nat.sub_zero]
        split <;> rfl
      rw [e]
      exact ⟨rfl, (List.filter_cons_of_neg (by simp [nzL])).symm⟩
    · rw [List.filter_cons_of_pos (by simp [nzL, ha])]
      by_cases hk : k = c
      · have e : ∀ q : List LT, takeL c n ((k, a, x) :: q) = ((k, a - n, x) :: (takeL c (n - a) q).1, (takeL c (n - a) q).2) := by
          intro q
          conv => lhs; unfold takeL
          rw [if_pos hk]
        obtain ⟨h1, h2⟩ := ih (n - a)
        rw [e, e]
        refine ⟨h1, ?_⟩
        show (_ :: (takeL c (n - a) (r.filter nzL)).1).filter nzL = (_ :: (takeL c (n - a) r).1).filter nzL
        rw [List.filter_cons, List.filter_cons, h2]
      · have e : ∀ q : List LT, takeL c n ((k, a, x) :: q) = ((k, a, x) :: (takeL c n q).1, (takeL c n q).2) := by
          intro q
          conv => lhs; unfold takeL
          rw [if_neg hk]
        obtain ⟨h1, h2⟩ := ih n
        rw [e, e]
        refine ⟨h1, ?_⟩
        show (_ :: (takeL c n (r.filter nzL)).1).filter nzL = (_ :: (takeL c n r).1).filter nzL
        rw [List.filter_cons, List.filter_cons, h2]
def lotB (t : LT) : Prop := t.1 ≤ 2 ∧ t.2.1 ≤ 999 ∧ t.2.2 < 4000
theorem takeL_B {c : Nat} : ∀ (r : List LT) (n : Nat), (∀ t ∈ r, lotB t) → ∀ t ∈ (takeL c n r).1, lotB t := by
  intro r
  induction r with
  | nil => intro n h; exact h
  | cons t r ih =>
    intro n h
    obtain ⟨k, a, x⟩ := t
    have h0 : lotB (k, a, x) := h (k, a, x) (List.mem_cons_self ..)
    have h2 := fun u hu => h u (List.mem_cons_of_mem (k, a, x) hu)
    unfold takeL
    split
    · intro u hu
      rcases List.mem_cons.mp hu with rfl | hu
      · exact ⟨h0.1, Nat.le_trans (Nat.sub_le _ _) h0.2.1, h0.2.2⟩
      · exact ih _ h2 u hu
    · intro u hu
      rcases List.mem_cons.mp hu with rfl | hu
      · exact h0
      · exact ih _ h2 u hu
theorem filter_B {f : LT → Bool} {r : List LT} (h : ∀ t ∈ r, lotB t) : ∀ t ∈ r.filter f, lotB t := fun t ht => h t (List.mem_filter.mp ht).1
theorem filter_nz {r : List LT} : ∀ t ∈ r.filter nzL, t.2.1 ≠ 0 := fun _ ht => of_decide_eq_true (List.mem_filter.mp ht).2
theorem lotB2 {r : List LT} (h : ∀ t ∈ r, lotB t) : ∀ t ∈ r, t.1 ≤ 2 ∧ t.2.1 ≤ 999 := fun t ht => ⟨(h t ht).1, (h t ht).2.1⟩
/-- the ration -/
def ratN (Q G R S : Nat) : Nat := if Q * G * R ≤ S then R else 1
/-- supper, in the reference -/
theorem m_sups {s : Nat → Int32} {l : List LT} {G Q R : Nat} (hl : l.length ≤ 20) (hb : ∀ t ∈ l, lotB t) (hz : ∀ t ∈ l, t.2.1 ≠ 0) (hm : ML l s) (hG : G ≤ 102) (hQ : Q ≤ 9) (hR : 1 ≤ R ∧ R ≤ 3) (h11 : s 11 = nI R) (h12 : s 12 = nI Q) :
    ∃ s' w x1 x2, w = ratN Q G R (stN 0 l) * G + (takeL 1 G l).2 ∧ x1 = (takeL 1 G l).1.filter nzL ∧ x2 = (takeL 0 w x1).2 ∧ fX7_sups s (nI G) = some s' ∧ ML ((takeL 0 w x1).1.filter nzL) s' ∧ s' 18 = s 18 + nI (G - (takeL 1 G l).2) ∧ s' 17 = s 17 + nI (w - x2) ∧ s' 5 = s 5 + nI (if G ≤ x2 then G else x2) ∧ s' 8 = s 8 + (if R ≤ ratN Q G R (stN 0 l) then nI 0 else nI 1) ∧ (∀ j, j ≠ 2 → j < 41 ∨ 101 ≤ j → j ≠ 17 → j ≠ 18 → j ≠ 5 → j ≠ 8 → s' j = s j) := by
  have hS : fX7_stock s (nI 0) = some (nI (stN 0 l)) := by
    rw [m_stock hm.1 hl]
    have := sumS_CA (c := 0) (by omega) l 0 0 (fun t ht => (hb t ht).1) hm.2
    rw [Nat.zero_add] at this
    exact congrArg some this
  have hSb := stN_le (c := 0) l (fun t ht => (hb t ht).2.1)
  obtain ⟨s1, a1, a2, a3, a4⟩ := m_uses (c := 1) (w := G) hl (by omega) (by omega) (lotB2 hb) hz hm
  have hx1 : (takeL 1 G l).2 ≤ G := takeL_le l G
  generalize hy1 : (takeL 1 G l).2 = y1 at *
  generalize hx : (takeL 1 G l).1.filter nzL = x1 at *
  have hl1 : x1.length ≤ 20 := by
    rw [← hx]
    exact Nat.le_trans (List.length_filter_le _ _) (by rw [takeL_len]; exact hl)
  have hb1 : ∀ t ∈ x1, lotB t := by rw [← hx]; exact filter_B (takeL_B l G hb)
  have hz1 : ∀ t ∈ x1, t.2.1 ≠ 0 := by rw [← hx]; exact filter_nz
  have hrat : ratN Q G R (stN 0 l) ≤ 3 := by
    unfold ratN
    split <;> omega
  have hrG : ratN Q G R (stN 0 l) * G ≤ 3 * 102 := Nat.mul_le_mul hrat hG
  have hQG : Q * G ≤ 9 * 102 := Nat.mul_le_mul hQ hG
  have hQGR : Q * G * R ≤ 9 * 102 * 3 := Nat.mul_le_mul hQG hR.2
  obtain ⟨s2, b1, b2, b3, b4⟩ := m_uses (c := 0) (w := ratN Q G R (stN 0 l) * G + y1) hl1 (by omega) (by omega) (lotB2 hb1) hz1 a2
  have hx2 : (takeL 0 (ratN Q G R (stN 0 l) * G + y1) x1).2 ≤ _ := takeL_le x1 _
  generalize hy2 : (takeL 0 (ratN Q G R (stN 0 l) * G + y1) x1).2 = y2 at *
  have hl2 : ((takeL 0 (ratN Q G R (stN 0 l) * G + y1) x1).1.filter nzL).length ≤ 20 := Nat.le_trans (List.length_filter_le _ _) (by rw [takeL_len]; exact hl1)
  refine ⟨upd (upd s2 5 (s2 5 + nI (if G ≤ y2 then G else y2))) 8 (s2 8 + (if R ≤ ratN Q G R (stN 0 l) then nI 0 else nI 1)), _, x1, y2, rfl, rfl, hy2.symm, ?_, ML_congr hl2 (by rw [pk_un (by omega), pk_un (by omega)]) (fun j q1 q2 => by rw [pk_un (by omega), pk_un (by omega)]) b2, ?_, ?_, ?_, ?_, fun j q1 q2 q3 q4 q5 q6 => ?_⟩
  · unfold fX7_sups
    have d0 : (nI 1 = nI 0) = False := by decide
    by_cases c1 : Q * G * R ≤ stN 0 l
    · have er : ratN Q G R (stN 0 l) = R := if_pos c1
      rw [er] at b1 ⊢
      have cr : R ≤ R := Nat.le_refl _
      by_cases c2 : G ≤ y2 <;> by_cases c3 : G ≤ 0 <;>
        simp (disch := omega) only [q_l11, q_l12, q_l5, q_l8, q_l0, q_l1, q_gd, q_cl, q_jl, q_mrg, h11, h12, hS, bd1_e, bd2_e, pk_mul, nI_add, q_le, c1, c2, c3, if_true, if_false, a1, b1, pk_un, cr, Nat.le_refl]
    · have er : ratN Q G R (stN 0 l) = 1 := if_neg c1
      rw [er] at b1 ⊢
      have c3 : ¬ G ≤ 0 := fun q => c1 (by have : G = 0 := by omega
                                           subst this; rw [Nat.mul_zero, Nat.zero_mul]; exact Nat.zero_le _)
      by_cases c2 : G ≤ y2 <;> by_cases cr : R ≤ 1 <;>
        simp (disch := omega) only [q_l11, q_l12, q_l5, q_l8, q_l0, q_l1, q_gd, q_cl, q_jl, q_mrg, h11, h12, hS, bd1_e, bd2_e, pk_mul, nI_add, q_le, c1, c2, c3, d0, if_true, if_false, a1, b1, pk_un, cr]
  · rw [pk_un (by omega), pk_un (by omega), b4 18 (by omega) (by omega) (by omega), a3]
  · rw [pk_un (by omega), pk_un (by omega), b3, a4 17 (by omega) (by omega) (by omega)]
  · rw [pk_un (by omega), pk_us, b4 5 (by omega) (by omega) (by omega), a4 5 (by omega) (by omega) (by omega)]
  · rw [pk_us, b4 8 (by omega) (by omega) (by omega), a4 8 (by omega) (by omega) (by omega)]
  · rw [pk_un q6, pk_un q5, b4 j q1 q2 (by omega), a4 j q1 q2 (by omega)]
def gasN (G : Nat) (sv : Int32) : Nat := if G = 0 then 0 else (G + 3) / 4 + (if sv = nI 0 then 0 else 1)
theorem gasN_le {G : Nat} {sv : Int32} (h : G ≤ 102) : gasN G sv ≤ 27 := by
  unfold gasN
  split
  · omega
  · split <;> omega
theorem p_gas {G : Nat} {sv : Int32} (h : G ≤ 102) : fX1_gasFor (nI G) sv = some (nI (gasN G sv)) := by
  unfold fX1_gasFor gasN
  by_cases h0 : G = 0
  · simp (disch := omega) only [q_l0, q_eq, h0, if_true]
  · by_cases c : sv = nI 0
    · simp (disch := omega) only [q_l0, q_l3, q_l4, q_eq, h0, if_false, c, if_true, nI_add, q_div]
    · simp (disch := omega) only [q_l0, q_l1, q_l3, q_l4, q_eq, h0, if_false, c, nI_add, q_div]
theorem m_heats {s : Nat → Int32} {l : List LT} {G d : Nat} {sv : Int32} (hl : l.length ≤ 20) (hb : ∀ t ∈ l, lotB t) (hz : ∀ t ∈ l, t.2.1 ≠ 0) (hm : ML l s) (hG : G ≤ 102) (hd : d < 1000) (h0 : s 0 = nI d) (hst : (if d < 396 ∧ s (203 + d) = nI 1 then nI 1 else nI 0) = sv) :
    ∃ s', fX7_heats s (nI G) = some s' ∧ ML ((takeL 2 (gasN G sv) l).1.filter nzL) s' ∧ s' 19 = s 19 + nI (gasN G sv - (takeL 2 (gasN G sv) l).2) ∧ s' 6 = s 6 + nI (if (takeL 2 (gasN G sv) l).2 ≤ 0 then 0 else 1) ∧ (∀ j, j ≠ 2 → j < 41 ∨ 101 ≤ j → j ≠ 19 → j ≠ 6 → s' j = s j) := by
  have hg := gasN_le (sv := sv) hG
  obtain ⟨s1, a1, a2, a3, a4⟩ := m_uses (c := 2) (w := gasN G sv) hl (by omega) (by omega) (lotB2 hb) hz hm
  have hx := takeL_le (c := 2) l (gasN G sv)
  have hl2 : ((takeL 2 (gasN G sv) l).1.filter nzL).length ≤ 20 := Nat.le_trans (List.length_filter_le _ _) (by rw [takeL_len]; exact hl)
  generalize hy : (takeL 2 (gasN G sv) l).2 = y at *
  refine ⟨upd s1 6 (s 6 + nI (if y ≤ 0 then 0 else 1)), ?_, ML_congr hl2 (pk_un (by omega)) (fun j q1 q2 => pk_un (by omega)) a2, by rw [pk_un (by omega), a3], pk_us, fun j q1 q2 q3 q4 => by rw [pk_un q4, a4 j q1 q2 (by omega)]⟩
  unfold fX7_heats
  have hx6 : s1 6 = s1 6 := rfl
  by_cases c0 : G = 0
  · have eg : gasN G sv = 0 := if_pos c0
    rw [eg] at a1
    by_cases c1 : y ≤ 0
    · simp (disch := omega) only [q_l0, q_l6, q_l2, q_eq, c0, if_true, q_mrg, q_gd, q_cl, a1, bd2_e, q_le, c1, q_jl, q_l1]
    · simp (disch := omega) only [q_l0, q_l6, q_l2, q_eq, c0, if_true, q_mrg, q_gd, q_cl, a1, bd2_e, q_le, c1, if_false, q_jl, q_l1]
  · by_cases c2 : sv = nI 0
    · have eg : gasN G sv = (G + 3) / 4 + 0 := by unfold gasN; rw [if_neg c0, if_pos c2]
      rw [eg] at a1
      by_cases c1 : y ≤ 0
      · simp (disch := omega) only [q_l0, q_l6, q_l2, q_l3, q_l4, q_eq, c0, if_false, q_mrg, q_gd, q_cl, h0, m_isStorm, hst, bd1_e, c2, if_true, nI_add, q_div, a1, bd2_e, q_le, c1, q_jl, q_l1]
      · simp (disch := omega) only [q_l0, q_l6, q_l2, q_l3, q_l4, q_eq, c0, if_false, q_mrg, q_gd, q_cl, h0, m_isStorm, hst, bd1_e, c2, if_true, nI_add, q_div, a1, bd2_e, q_le, c1, if_false, q_jl, q_l1]
    · have eg : gasN G sv = (G + 3) / 4 + 1 := by unfold gasN; rw [if_neg c0, if_neg c2]
      rw [eg] at a1
      by_cases c1 : y ≤ 0
      · simp (disch := omega) only [q_l0, q_l6, q_l2, q_l3, q_l4, q_eq, c0, if_false, q_mrg, q_gd, q_cl, h0, m_isStorm, hst, bd1_e, c2, if_true, nI_add, q_div, a1, bd2_e, q_le, c1, q_jl, q_l1]
      · simp (disch := omega) only [q_l0, q_l6, q_l2, q_l3, q_l4, q_eq, c0, if_false, q_mrg, q_gd, q_cl, h0, m_isStorm, hst, bd1_e, c2, nI_add, q_div, a1, bd2_e, q_le, c1, if_false, q_jl, q_l1]
/-- they sleep, lots spoil, the day is over (reference) -/
theorem m_sleep {s : Nat → Int32} {l : List LT} {N d : Nat} (hl : l.length ≤ 20) (hb : ∀ t ∈ l, lotB t) (hm : ML l s) (hN : N ≤ 17) (h4 : s 4 = nI N) (hd : d < 4000) (h0 : s 0 = nI d) :
    ∃ s', gl2 sX7_night_rec22 gFU 0 s = some s' ∧ ML (l.filter (fresh d)) s' ∧ s' 0 = nI (d + 1) ∧ (∀ k, k ≤ 2 → s' (20 + k) = s (20 + k) + nI (spN k d l)) ∧ (∀ k, k < N → s' (101 + 6 * k + 4) = if s (101 + 6 * k + 3) = nI 1 then s (101 + 6 * k + 4) + nI 1 else s (101 + 6 * k + 4)) ∧ (∀ j, j ≠ 0 → j ≠ 2 → j < 41 ∨ 101 ≤ j → (j < 20 ∨ 22 < j) → (∀ k, k < N → j ≠ 101 + 6 * k + 4) → s' j = s j) := by
  refine Exists.elim (scat_up (st := sX7_night_rec22) (out := fun a => bd1 (fX7_spoils a) fun ss26 => jl (upd ss26 ((0 : Int32)).toNatClampNeg ((ss26 ((0 : Int32)).toNatClampNeg) + (1 : Int32))) fun ss28 => some ss28) (fun k => 101 + 6 * k + 4) (fun k a => if a (101 + 6 * k + 3) = nI 1 then a (101 + 6 * k + 4) + nI 1 else a (101 + 6 * k + 4)) 0 N (fun a => a 4 = nI N) (fun a i v ha _ hi => (pk_un (by omega)).trans ha) (fun rec a ha => ?_) (fun rec i a _ hi ha => ?_) (fun i m _ _ h => by omega) (fun i m a v _ _ h => ?_) N 0 gFU s (Nat.le_refl _) (by omega) (by unfold gFU; omega) h4) (fun a ⟨g1, ga, g2, g3⟩ => ?_)
  · simp (disch := omega) only [sX7_night_rec22, q_l4, q_cl, ha, q_le, Nat.le_refl, if_true]
  · by_cases c1 : a (101 + 6 * i + 3) = nI 1
    · simp (disch := omega) only [sX7_night_rec22, q_l4, q_l3, q_l1, q_l0, q_cl, ha, q_le, if_neg (Nat.not_le.mpr hi), m_ofParty, m_setParty, bd1_e, q_jl, q_mrg, nI_add, c1, if_true]
    · simp (disch := omega) only [sX7_night_rec22, q_l4, q_l3, q_l1, q_l0, q_cl, ha, q_le, if_neg (Nat.not_le.mpr hi), m_ofParty, m_setParty, bd1_e, q_jl, q_mrg, nI_add, c1, if_false, q_z]
  · simp (disch := omega) only [pk_un]
  · have a0 : a 0 = nI d := (g3 0 (fun m _ _ => by omega)).trans h0
    obtain ⟨b, b1, b2, b3, b4⟩ := m_spoils hd hl (fun t ht => ⟨(hb t ht).1, (hb t ht).2.2⟩) a0 (ML_congr hl (g3 2 (fun m _ _ => by omega)) (fun j q1 q2 => g3 j (fun m _ _ => by omega)) hm)
    have hl2 : (l.filter (fresh d)).length ≤ 20 := Nat.le_trans (List.length_filter_le _ _) hl
    refine ⟨upd b 0 (nI (d + 1)), ?_, ML_congr hl2 (pk_un (by omega)) (fun j q1 q2 => pk_un (by omega)) b2, pk_us, fun k hk => ?_, fun k hk => ?_, fun j q1 q2 q3 q4 q5 => ?_⟩
    · have b0 : b 0 = nI d := (b4 0 (by omega) (by omega) (by omega)).trans a0
      rw [q_l0, g1]
      simp (disch := omega) only [b1, bd1_e, q_l0, q_l1, q_cl, b0, nI_add, q_jl]
    · rw [pk_un (by omega), b3 k hk, g3 (20 + k) (fun m _ _ => by omega)]
    · rw [pk_un (by omega), b4 (101 + 6 * k + 4) (by omega) (by omega) (by omega), g2 k (Nat.zero_le _) hk]
    · rw [pk_un q1, b4 j q2 q3 q4, g3 j (fun m _ hm => q5 m hm)]
