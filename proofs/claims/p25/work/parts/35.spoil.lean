/-! ===== lots that spoil, lots that are empty ===== -/
theorem upd_upd (f : Nat → Int32) (k : Nat) (v w : Int32) : upd (upd f k v) k w = upd f k w := by
  funext j
  by_cases h : j = k
  · subst h; rw [pk_us, pk_us]
  · rw [pk_un h, pk_un h, pk_un h]
def spN (c d : Nat) : List LT → Nat
  | [] => 0
  | t :: r => (if t.1 = c ∧ t.2.2 = d then t.2.1 else 0) + spN c d r
def zeroK (c d : Nat) (t : LT) : LT := if t.1 = c ∧ t.2.2 = d then (t.1, 0, t.2.2) else t
def fresh (d : Nat) (t : LT) : Bool := decide (t.2.2 ≠ d)
theorem spN_app {c d : Nat} : ∀ (p q : List LT), spN c d (p ++ q) = spN c d p + spN c d q := by
  intro p
  induction p with
  | nil => intro q; exact (Nat.zero_add _).symm
  | cons t p ih =>
    intro q
    show _ + spN c d (p ++ q) = (_ + spN c d p) + _
    rw [ih, Nat.add_assoc]
theorem spN_nz {c d : Nat} : ∀ (p : List LT), spN c d (p.filter nzL) = spN c d p := by
  intro p
  induction p with
  | nil => rfl
  | cons t p ih =>
    rw [List.filter_cons]
    by_cases h : t.2.1 = 0
    · rw [if_neg (by unfold nzL; rw [decide_eq_true_eq]; exact fun q => q h), ih]
      show _ = _ + spN c d p
      split <;> omega
    · rw [if_pos (show nzL t = true from decide_eq_true h)]
      show _ + spN c d (p.filter nzL) = _ + spN c d p
      rw [ih]
theorem spN_zero {c e d : Nat} (h : c ≠ e) : ∀ (p : List LT), spN c d (p.map (zeroK e d)) = spN c d p := by
  intro p
  induction p with
  | nil => rfl
  | cons t p ih =>
    show _ + spN c d (p.map (zeroK e d)) = _ + spN c d p
    rw [ih]
    congr 1
    unfold zeroK
    by_cases h1 : t.1 = e ∧ t.2.2 = d
    · rw [if_pos h1, if_neg (fun q => h (q.1.symm.trans h1.1)), if_neg (fun q => h (q.1.symm.trans h1.1))]
    · rw [if_neg h1]
theorem zero_all {d : Nat} : ∀ (p : List LT), (∀ t ∈ p, t.1 ≤ 2) → (((p.map (zeroK 0 d)).map (zeroK 1 d)).map (zeroK 2 d)).filter nzL = (p.filter nzL).filter (fresh d) := by
  intro p
  induction p with
  | nil => intro _; rfl
  | cons t p ih =>
    intro hb
    have h0 := ih (fun u hu => hb u (List.mem_cons_of_mem _ hu))
    have ht := hb t (List.mem_cons_self ..)
    obtain ⟨k, a, x⟩ := t
    have ht' : k ≤ 2 := ht
    show ((zeroK 2 d (zeroK 1 d (zeroK 0 d (k, a, x)))) :: _).filter nzL = _
    have e : zeroK 2 d (zeroK 1 d (zeroK 0 d (k, a, x))) = (k, if x = d then 0 else a, x) := by
      rcases (show k = 0 ∨ k = 1 ∨ k = 2 by omega) with rfl | rfl | rfl <;> by_cases hx : x = d <;> simp [zeroK, hx]
    rw [e, List.filter_cons, h0]
    by_cases hx : x = d
    · rw [if_pos hx, if_neg (by simp [nzL])]
      by_cases ha : a = 0
      · rw [List.filter_cons_of_neg (by simp [nzL, ha])]
      · rw [List.filter_cons_of_pos (by simp [nzL, ha]), List.filter_cons_of_neg (by simp [fresh, hx])]
    · rw [if_neg hx]
      by_cases ha : a = 0
      · rw [if_neg (by simp [nzL, ha]), List.filter_cons_of_neg (by simp [nzL, ha])]
      · rw [if_pos (by simp [nzL, ha]), List.filter_cons_of_pos (by simp [nzL, ha]), List.filter_cons_of_pos (by simp [fresh, hx])]
/-- the class: one kind -/
theorem spoil_in {lk ll : Nat → Int32} {N c d : Nat} {rc : Int32 → (Nat → Int32) → (Nat → Int32) → Option ((Nat → Int32) × (Nat → Int32))} (hN : N ≤ 20) (hc : c ≤ 2) (hd : d < 4000) :
    ∀ (r : List LT) (i n : Nat) (la sp : Nat → Int32), i + r.length = N → r.length < n → (∀ t ∈ r, t.1 ≤ 2 ∧ t.2.1 ≤ 999 ∧ t.2.2 < 4000) → CA lk la ll i r →
      ∃ la', gl3 (sX4_spoil_rec6 lk ll (nI N) (nI d) rc (nI c)) n (nI i) la sp = rc (nI (c + 1)) la' (upd sp c (sp c + nI (spN c d r))) ∧ CA lk la' ll i (r.map (zeroK c d)) ∧ (∀ j, j < i → la' j = la j) := by
  intro r
  induction r with
  | nil =>
    intro i n la sp hi hn hb hc2
    obtain ⟨n, rfl⟩ := Nat.exists_eq_succ_of_ne_zero (Nat.ne_of_gt hn)
    have : i = N := hi
    subst this
    refine ⟨la, ?_, trivial, fun _ _ => rfl⟩
    show sX4_spoil_rec6 lk ll (nI i) (nI d) rc (nI c) _ (nI i) la sp = rc _ _ (upd sp c (sp c + nI 0))
    rw [q_z, upd_same]
    simp (disch := omega) only [sX4_spoil_rec6, q_le, Nat.le_refl, if_true, q_jl, q_l1, nI_add]
  | cons t r ih =>
    intro i n la sp hi hn hb hc2
    obtain ⟨n, rfl⟩ := Nat.exists_eq_succ_of_ne_zero (Nat.ne_of_gt (Nat.lt_of_le_of_lt (Nat.zero_le _) hn))
    obtain ⟨k, a, x⟩ := t
    obtain ⟨⟨e1, e2, e3⟩, hr⟩ := hc2
    have hl : ((k, a, x) :: r).length = r.length + 1 := rfl
    have hiN : i < N := by omega
    have ngt : ¬ N ≤ i := Nat.not_le.mpr hiN
    obtain ⟨hk, ha, hx⟩ := hb (k, a, x) (List.mem_cons_self ..)
    have hk' : k ≤ 2 := hk
    have hx' : x < 4000 := hx
    have e1' : lk i = nI k := e1
    have e2' : la i = nI a := e2
    have e3' : ll i = nI x := e3
    have hb2 := fun t ht => hb t (List.mem_cons_of_mem (k, a, x) ht)
    show ∃ la', sX4_spoil_rec6 lk ll (nI N) (nI d) rc (nI c) (gl3 (sX4_spoil_rec6 lk ll (nI N) (nI d) rc (nI c)) n) (nI i) la sp = rc _ la' (upd sp c (sp c + nI ((if k = c ∧ x = d then a else 0) + spN c d r))) ∧ CA lk la' ll i ((if k = c ∧ x = d then (k, 0, x) else (k, a, x)) :: r.map (zeroK c d)) ∧ _
    by_cases h : k = c ∧ x = d
    · obtain ⟨hkc, hxd⟩ := h
      obtain ⟨la', h1, h2, h3⟩ := ih (i + 1) n (upd la i (nI 0)) (upd sp c (sp c + nI a)) (by omega) (by omega) hb2 (CA_congr r (i + 1) (fun j q1 q2 => ⟨rfl, pk_un (by omega), rfl⟩) hr)
      rw [if_pos ⟨hkc, hxd⟩, if_pos ⟨hkc, hxd⟩]
      refine ⟨la', ?_, ⟨⟨e1, ?_, e3⟩, h2⟩, fun j hj => ?_⟩
      · rw [pk_us, upd_upd, Int32.add_assoc, nI_add] at h1
        rw [← h1]
        simp (disch := omega) only [sX4_spoil_rec6, q_le, ngt, if_false, q_gd, q_cl, e1', e2', e3', q_eq, hkc, hxd, if_true, q_jl, nI_add, q_l1, q_l0]
      · rw [h3 i (by omega), pk_us]
      · rw [h3 j (by omega), pk_un (by omega)]
    · obtain ⟨la', h1, h2, h3⟩ := ih (i + 1) n la sp (by omega) (by omega) hb2 hr
      rw [if_neg h, if_neg h, Nat.zero_add]
      refine ⟨la', ?_, ⟨⟨e1, ?_, e3⟩, h2⟩, fun j hj => h3 j (by omega)⟩
      · rw [← h1]
        by_cases hkc : k = c
        · have hxd : ¬ x = d := fun q => h ⟨hkc, q⟩
          simp (disch := omega) only [sX4_spoil_rec6, q_le, ngt, if_false, q_gd, q_cl, e1', e2', e3', q_eq, hkc, hxd, if_true, q_jl, nI_add, q_l1]
        · simp (disch := omega) only [sX4_spoil_rec6, q_le, ngt, if_false, q_gd, q_cl, e1', q_eq, hkc, q_jl, nI_add, q_l1]
      · rw [h3 i (by omega)]; exact e2
theorem p_spoil {lk la ll sp : Nat → Int32} {d : Nat} {l : List LT} (hN : l.length ≤ 20) (hd : d < 4000) (hb : ∀ t ∈ l, t.1 ≤ 2 ∧ t.2.1 ≤ 999 ∧ t.2.2 < 4000) (h : CA lk la ll 0 l) :
    ∃ la' sp', fX4_spoil lk la ll (nI l.length) sp (nI d) = some (la', sp') ∧ CA lk la' ll 0 (((l.map (zeroK 0 d)).map (zeroK 1 d)).map (zeroK 2 d)) ∧ (∀ k, k ≤ 2 → sp' k = sp k + nI (spN k d l)) ∧ (∀ k, 2 < k → sp' k = sp k) := by
  have hz : ∀ c t, (t.1 ≤ 2 ∧ t.2.1 ≤ 999 ∧ t.2.2 < 4000) → ((zeroK c d t).1 ≤ 2 ∧ (zeroK c d t).2.1 ≤ 999 ∧ (zeroK c d t).2.2 < 4000) := by
    intro c t ht
    unfold zeroK
    split
    · exact ⟨ht.1, Nat.zero_le _, ht.2.2⟩
    · exact ht
  have hm : ∀ c (q : List LT), (∀ t ∈ q, t.1 ≤ 2 ∧ t.2.1 ≤ 999 ∧ t.2.2 < 4000) → ∀ t ∈ q.map (zeroK c d), t.1 ≤ 2 ∧ t.2.1 ≤ 999 ∧ t.2.2 < 4000 := by
    intro c q hq t ht
    obtain ⟨u, hu, rfl⟩ := List.mem_map.mp ht
    exact hz c u (hq u hu)
  have l1 : (l.map (zeroK 0 d)).length = l.length := List.length_map ..
  have l2 : ((l.map (zeroK 0 d)).map (zeroK 1 d)).length = l.length := by rw [List.length_map, List.length_map]
  let st := sX4_spoil_rec1 lk ll (nI l.length) (nI d)
  have hs : ∀ n c la sp, c ≤ 2 → gl3 st (n + 1) (nI c) la sp = gl3 (sX4_spoil_rec6 lk ll (nI l.length) (nI d) (gl3 st n) (nI c)) gFU (nI 0) la sp := by
    intro n c la sp hc
    show sX4_spoil_rec1 lk ll (nI l.length) (nI d) (gl3 st n) (nI c) la sp = _
    have h3 : ¬ 3 ≤ c := by omega
    simp (disch := omega) only [sX4_spoil_rec1, q_l3, q_le, h3, if_false, q_l0]
  have hf : l.length < gFU := by unfold gFU; omega
  obtain ⟨la1, a1, a2, -⟩ := spoil_in (rc := gl3 st 4095) (d := d) (c := 0) hN (by omega) hd l 0 gFU la sp (Nat.zero_add _) hf hb h
  obtain ⟨la2, b1, b2, -⟩ := spoil_in (rc := gl3 st 4094) (d := d) (c := 1) hN (by omega) hd _ 0 gFU la1 (upd sp 0 (sp 0 + nI (spN 0 d l))) ((Nat.zero_add _).trans l1) (l1 ▸ hf) (hm 0 l hb) a2
  obtain ⟨la3, c1, c2, -⟩ := spoil_in (rc := gl3 st 4093) (d := d) (c := 2) hN (by omega) hd _ 0 gFU la2 (upd (upd sp 0 (sp 0 + nI (spN 0 d l))) 1 (upd sp 0 (sp 0 + nI (spN 0 d l)) 1 + nI (spN 1 d (l.map (zeroK 0 d))))) ((Nat.zero_add _).trans l2) (l2 ▸ hf) (hm 1 _ (hm 0 l hb)) b2
  refine ⟨la3, upd (upd (upd sp 0 (sp 0 + nI (spN 0 d l))) 1 (sp 1 + nI (spN 1 d l))) 2 (sp 2 + nI (spN 2 d l)), ?_, c2, fun k hk => ?_, fun k hk => ?_⟩
  rotate_left
  · rcases (show k = 0 ∨ k = 1 ∨ k = 2 by omega) with rfl | rfl | rfl
    · rw [pk_un (by omega), pk_un (by omega), pk_us]
    · rw [pk_un (by omega), pk_us]
    · rw [pk_us]
  · rw [pk_un (by omega), pk_un (by omega), pk_un (by omega)]
  · rw [spN_zero (by omega), spN_zero (by omega), pk_un (by omega), pk_un (by omega), pk_un (by omega)] at c1
    rw [spN_zero (by omega)] at c1
    rw [spN_zero (by omega), pk_un (by omega)] at b1
    unfold fX4_spoil
    show gl3 st (4095 + 1) 0 la sp = _
    rw [q_l0, hs _ 0 _ _ (by omega), a1, hs _ 1 _ _ (by omega), b1, hs _ 2 _ _ (by omega), c1]
    show sX4_spoil_rec1 lk ll (nI l.length) (nI d) _ (nI 3) _ _ = _
    simp (disch := omega) only [sX4_spoil_rec1, q_l3, q_le, Nat.le_refl, if_true]
/-- the class: empty lots go -/
theorem drop_loop {N : Nat} (hN : N ≤ 20) : ∀ (r p : List LT) (i n : Nat) (lk la ll : Nat → Int32), i + r.length = N → p.length ≤ i → r.length < n → (∀ t ∈ r, t.2.1 ≤ 999) → CA lk la ll 0 p → CA lk la ll i r →
    ∃ lk' la' ll', gl5 (sX4_dropEmptyLots_rec1 (nI N)) n (nI i) (nI p.length) lk la ll = some (lk', la', ll', nI (p ++ r.filter nzL).length) ∧ CA lk' la' ll' 0 (p ++ r.filter nzL) := by
  intro r
  induction r with
  | nil =>
    intro p i n lk la ll hi hpi hn hb hp hc
    obtain ⟨n, rfl⟩ := Nat.exists_eq_succ_of_ne_zero (Nat.ne_of_gt hn)
    have : i = N := hi
    subst this
    refine ⟨lk, la, ll, ?_, ?_⟩
    · show sX4_dropEmptyLots_rec1 (nI i) _ (nI i) _ lk la ll = some (lk, la, ll, nI (p ++ []).length)
      rw [List.append_nil]
      simp (disch := omega) only [sX4_dropEmptyLots_rec1, q_le, Nat.le_refl, if_true]
    · show CA lk la ll 0 (p ++ [])
      rw [List.append_nil]
      exact hp
  | cons t r ih =>
    intro p i n lk la ll hi hpi hn hb hp hc
    obtain ⟨n, rfl⟩ := Nat.exists_eq_succ_of_ne_zero (Nat.ne_of_gt (Nat.lt_of_le_of_lt (Nat.zero_le _) hn))
    obtain ⟨k, a, x⟩ := t
    obtain ⟨⟨e1, e2, e3⟩, hr⟩ := hc
    have hl : ((k, a, x) :: r).length = r.length + 1 := rfl
    have ngt : ¬ N ≤ i := by omega
    have ha : a ≤ 999 := hb (k, a, x) (List.mem_cons_self ..)
    have e2' : la i = nI a := e2
    have hb2 := fun t ht => hb t (List.mem_cons_of_mem (k, a, x) ht)
    show ∃ lk' la' ll', sX4_dropEmptyLots_rec1 (nI N) (gl5 (sX4_dropEmptyLots_rec1 (nI N)) n) (nI i) (nI p.length) lk la ll = _ ∧ _
    by_cases h : a = 0
    · subst h
      rw [List.filter_cons_of_neg (by simp [nzL])]
      obtain ⟨lk', la', ll', h1, h2⟩ := ih p (i + 1) n lk la ll (by omega) (by omega) (by omega) hb2 hp hr
      refine ⟨lk', la', ll', ?_, h2⟩
      rw [← h1]
      simp (disch := omega) only [sX4_dropEmptyLots_rec1, q_le, ngt, if_false, q_gd, q_cl, e2', q_l0, Nat.le_refl, if_true, q_jl, nI_add, q_l1]
    · rw [List.filter_cons_of_pos (by simp [nzL, h])]
      have hp1 : (p ++ [(k, a, x)]).length = p.length + 1 := by rw [List.length_append]; rfl
      obtain ⟨lk', la', ll', h1, h2⟩ := ih (p ++ [(k, a, x)]) (i + 1) n (upd lk p.length (lk i)) (upd la p.length (la i)) (upd ll p.length (ll i)) (by omega) (by omega) (by omega) hb2
        ((CA_app p _ 0).mpr ⟨CA_congr p 0 (fun j _ q2 => ⟨pk_un (by omega), pk_un (by omega), pk_un (by omega)⟩) hp, ⟨by rw [Nat.zero_add]; exact ⟨pk_us.trans e1, pk_us.trans e2, pk_us.trans e3⟩, trivial⟩⟩)
        (CA_congr r (i + 1) (fun j q1 _ => ⟨pk_un (by omega), pk_un (by omega), pk_un (by omega)⟩) hr)
      rw [List.append_assoc, hp1] at h1
      rw [List.append_assoc] at h2
      refine ⟨lk', la', ll', ?_, h2⟩
      refine Eq.trans ?_ h1
      have n0 : ¬ a ≤ 0 := by omega
      simp (disch := omega) only [sX4_dropEmptyLots_rec1, q_le, ngt, if_false, q_gd, q_cl, e2', q_l0, n0, q_jl, nI_add, q_l1]
theorem p_drop {lk la ll : Nat → Int32} {l : List LT} (hN : l.length ≤ 20) (hb : ∀ t ∈ l, t.2.1 ≤ 999) (h : CA lk la ll 0 l) :
    ∃ lk' la' ll', fX4_dropEmptyLots lk la ll (nI l.length) = some (lk', la', ll', nI (l.filter nzL).length) ∧ CA lk' la' ll' 0 (l.filter nzL) :=
  drop_loop hN l [] 0 gFU lk la ll (Nat.zero_add _) (Nat.le_refl _) (by unfold gFU; omega) hb trivial h
/-- the reference: lots that spoil go -/
theorem spoils_loop {d : Nat} (hd : d < 4000) : ∀ (K : Nat) (p post : List LT) (n : Nat) (s : Nat → Int32), p.length = K → (p ++ post).length ≤ 20 → K < n → (∀ t ∈ p, t.1 ≤ 2 ∧ t.2.2 < 4000) → s 0 = nI d → ML (p ++ post) s →
    ∃ s', gl2 sX7_spoils_rec3 n (nI p.length - nI 1) s = some s' ∧ ML (p.filter (fresh d) ++ post) s' ∧ (∀ k, k ≤ 2 → s' (20 + k) = s (20 + k) + nI (spN k d p)) ∧ (∀ j, j ≠ 2 → j < 41 ∨ 101 ≤ j → (j < 20 ∨ 22 < j) → s' j = s j) := by
  intro K
  induction K with
  | zero =>
    intro p post n s hK hl hn hb h0 hm
    obtain ⟨n, rfl⟩ := Nat.exists_eq_succ_of_ne_zero (Nat.ne_of_gt hn)
    have hp : p = [] := List.length_eq_zero_iff.mp hK
    subst hp
    refine ⟨s, ?_, hm, fun k _ => (q_z _).symm, fun _ _ _ _ => rfl⟩
    show sX7_spoils_rec3 _ (nI 0 - nI 1) s = some s
    have e : nI 0 - nI 1 < (0 : Int32) := by decide
    simp only [sX7_spoils_rec3, e, if_true]
  | succ K ih =>
    intro p post n s hK hl hn hb h0 hm
    obtain ⟨n, rfl⟩ := Nat.exists_eq_succ_of_ne_zero (by omega : n ≠ 0)
    rcases List.eq_nil_or_concat p with rfl | ⟨p, t, rfl⟩
    · exact absurd hK.symm (Nat.succ_ne_zero K)
    · rw [List.concat_eq_append] at *
      have hp1 : (p ++ [t]).length = p.length + 1 := by rw [List.length_append]; rfl
      rw [List.length_append, hp1] at hl
      obtain ⟨k, a, x⟩ := t
      obtain ⟨hk, hx⟩ := hb (k, a, x) (List.mem_append_right _ (List.mem_singleton_self _))
      have hk' : k ≤ 2 := hk
      have hx' : x < 4000 := hx
      have hb2 : ∀ t ∈ p, t.1 ≤ 2 ∧ t.2.2 < 4000 := fun t ht => hb t (List.mem_append_left _ ht)
      rw [List.append_assoc] at hm
      have hm' : ML (p ++ (k, a, x) :: post) s := hm
      obtain ⟨m1, m2, m3⟩ := ML_at hm'
      have m1' : s (41 + 3 * p.length) = nI k := m1
      have m2' : s (41 + 3 * p.length + 1) = nI a := m2
      have m3' : s (41 + 3 * p.length + 2) = nI x := m3
      have ep : nI (p.length + 1) - nI 1 = nI p.length := q_subn (by omega) (by omega)
      have ev : nI p.length + (-1 : Int32) = nI p.length - nI 1 := by
        rw [Int32.sub_eq_add_neg]; rfl
      have nn : ¬ nI p.length < nI 0 := by rw [q_lt (by omega) (by omega)]; omega
      rw [hp1, ep, List.filter_append]
      show ∃ s', sX7_spoils_rec3 (gl2 sX7_spoils_rec3 n) (nI p.length) s = some s' ∧ _
      by_cases h : x = d
      · have ef : [((k, a, x) : LT)].filter (fresh d) = [] := by simp [fresh, h]
        rw [ef, List.append_nil]
        have hm2 : ML (p ++ (k, a, x) :: post) (upd s (20 + k) (s (20 + k) + nI a)) := ML_congr (by rw [List.length_append]; show p.length + (post.length + 1) ≤ 20; omega) (pk_un (by omega)) (fun j _ _ => pk_un (by omega)) hm'
        obtain ⟨s2, r1, r2, r3⟩ := m_removes (by rw [List.length_append]; show p.length + (post.length + 1) ≤ 20; omega) hm2
        obtain ⟨s', g1, g2, g3, g4⟩ := ih p post n s2 (by omega) (by rw [List.length_append]; omega) (by omega) hb2 (by rw [r3 0 (by omega) (by omega), pk_un (by omega), h0]) r2
        refine ⟨s', ?_, g2, fun c hc => ?_, fun j q1 q2 q3 => ?_⟩
        · rw [← g1, ← ev]
          simp (disch := omega) only [sX7_spoils_rec3, q_l0, nn, if_false, q_l2, q_l1, q_l20, m_ofLot, bd1_e, m3', q_gd, q_cl, h0, h, if_true, Nat.add_zero, m1', m2', nI_add, q_jl, r1]
        · rw [g3 c hc, r3 (20 + c) (by omega) (by omega), spN_app]
          by_cases hkc : k = c
          · subst hkc
            rw [pk_us, Int32.add_assoc, nI_add]
            congr 2
            show a + _ = _ + ((if k = k ∧ x = d then a else 0) + 0)
            rw [if_pos ⟨rfl, h⟩]
            omega
          · rw [pk_un (by omega)]
            congr 2
            show _ = _ + ((if k = c ∧ x = d then a else 0) + 0)
            rw [if_neg (fun q => hkc q.1)]
            omega
        · rw [g4 j q1 q2 q3, r3 j q1 q2, pk_un (by omega)]
      · have ef : [((k, a, x) : LT)].filter (fresh d) = [(k, a, x)] := by simp [fresh, h]
        rw [ef, List.append_assoc]
        obtain ⟨s', g1, g2, g3, g4⟩ := ih p ((k, a, x) :: post) n s (by omega) (by rw [List.length_append]; show p.length + (post.length + 1) ≤ 20; omega) (by omega) hb2 h0 hm'
        refine ⟨s', ?_, g2, fun c hc => ?_, g4⟩
        · rw [← g1, ← ev]
          have h' : ¬ nI x = nI d := by rw [q_eq (by omega) (by omega)]; exact h
          simp (disch := omega) only [sX7_spoils_rec3, q_l0, nn, if_false, q_l2, m_ofLot, bd1_e, m3', q_gd, q_cl, h0, h', q_jl]
        · rw [g3 c hc, spN_app]
          congr 2
          show _ = _ + ((if k = c ∧ x = d then a else 0) + 0)
          rw [if_neg (fun q => h q.2)]
          omega
theorem m_spoils {s : Nat → Int32} {d : Nat} {l : List LT} (hd : d < 4000) (hl : l.length ≤ 20) (hb : ∀ t ∈ l, t.1 ≤ 2 ∧ t.2.2 < 4000) (h0 : s 0 = nI d) (hm : ML l s) :
    ∃ s', fX7_spoils s = some s' ∧ ML (l.filter (fresh d)) s' ∧ (∀ k, k ≤ 2 → s' (20 + k) = s (20 + k) + nI (spN k d l)) ∧ (∀ j, j ≠ 2 → j < 41 ∨ 101 ≤ j → (j < 20 ∨ 22 < j) → s' j = s j) := by
  have hm' : ML (l ++ []) s := by rw [List.append_nil]; exact hm
  obtain ⟨s', g1, g2, g3⟩ := spoils_loop hd l.length l [] gFU s rfl (by rw [List.append_nil]; exact hl) (by unfold gFU; omega) hb h0 hm'
  rw [List.append_nil] at g2
  refine ⟨s', ?_, g2, g3⟩
  unfold fX7_spoils
  simp (disch := omega) only [q_l2, q_l1, q_gd, q_cl, q_jl, hm.1]
  exact g1
