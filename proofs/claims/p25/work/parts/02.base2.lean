/-! ===== worlds in bundles ===== -/
theorem gP_mem {D : va_G} {ws : va_W} {H : Heap} : va_P D vwCl ws H ↔ ∀ q ∈ ws, va_at D vwCl q H := by
  refine ⟨fun h q hq => ?_, fun h k q hk => h q (List.mem_of_getElem? hk)⟩
  obtain ⟨k, hk⟩ := List.getElem?_of_mem hq
  exact h k q hk
theorem gP_flat {D : va_G} {bs : List va_W} {H : Heap} : va_P D vwCl bs.flatten H ↔ ∀ b ∈ bs, va_P D vwCl b H := by
  rw [gP_mem]
  refine ⟨fun h b hb => gP_mem.mpr fun q hq => h q (List.mem_flatten.mpr ⟨b, hb, hq⟩), fun h q hq => ?_⟩
  obtain ⟨b, hb, hq⟩ := List.mem_flatten.mp hq
  exact gP_mem.mp (h b hb) q hq
theorem gD_pw {A : Nat → Prop} {ws : va_W} : va_D A ws ↔ ws.Pairwise (fun p q => p.1 ≠ q.1) ∧ ∀ q ∈ ws, A q.1 := by
  refine ⟨fun h => ⟨List.pairwise_iff_getElem.mpr fun i j hi hj hij e => ?_, fun q hq => ?_⟩, fun h => ⟨fun i j p q hi hj e => ?_, fun k q hk => h.2 q (List.mem_of_getElem? hk)⟩⟩
  · have := h.1 i j _ _ (List.getElem?_eq_getElem hi) (List.getElem?_eq_getElem hj) e
    omega
  · obtain ⟨k, hk⟩ := List.getElem?_of_mem hq
    exact h.2 k q hk
  · obtain ⟨hi1, hi2⟩ := List.getElem?_eq_some_iff.mp hi
    obtain ⟨hj1, hj2⟩ := List.getElem?_eq_some_iff.mp hj
    rcases Nat.lt_trichotomy i j with hl | hl | hl
    · exact absurd (by rw [hi2, hj2]; exact e) (List.pairwise_iff_getElem.mp h.1 i j hi1 hj1 hl)
    · exact hl
    · exact absurd (by rw [hi2, hj2]; exact e.symm) (List.pairwise_iff_getElem.mp h.1 j i hj1 hi1 hl)
theorem gD_apart {A : Nat → Prop} {bs : List va_W} (hD : va_D A bs.flatten) {i j : Nat} {b c : va_W} (hi : bs[i]? = some b) (hj : bs[j]? = some c) (hij : i ≠ j) {x y : Nat × va_E} (hx : x ∈ b) (hy : y ∈ c) : x.1 ≠ y.1 := by
  have h := (List.pairwise_flatten.mp (gD_pw.mp hD).1).2
  obtain ⟨hi1, hi2⟩ := List.getElem?_eq_some_iff.mp hi
  obtain ⟨hj1, hj2⟩ := List.getElem?_eq_some_iff.mp hj
  rcases Nat.lt_or_gt_of_ne hij with hl | hl
  · exact List.pairwise_iff_getElem.mp h i j hi1 hj1 hl x (by rw [hi2]; exact hx) y (by rw [hj2]; exact hy)
  · exact Ne.symm (List.pairwise_iff_getElem.mp h j i hj1 hi1 hl y (by rw [hj2]; exact hy) x (by rw [hi2]; exact hx))
theorem gB_in {α : Type} {bs cb : List α} {isB : List Nat} (hC : isB.map (fun i => bs[i]?) = cb.map some) {k : Nat} {q : α} (h : cb[k]? = some q) : ∃ i, isB[k]? = some i ∧ bs[i]? = some q := by
  have h1 : (isB.map (fun i => bs[i]?))[k]? = some (some q) := by rw [hC, List.getElem?_map, h]; rfl
  rw [List.getElem?_map] at h1
  cases hi : isB[k]? with
  | none => rw [hi] at h1; cases h1
  | some i => rw [hi] at h1; exact ⟨i, rfl, Option.some.inj h1⟩
theorem gB_mem {bs cb : List va_W} {isB : List Nat} (hC : isB.map (fun i => bs[i]?) = cb.map some) {q : Nat × va_E} (h : q ∈ cb.flatten) : ∃ i c, i ∈ isB ∧ bs[i]? = some c ∧ q ∈ c := by
  obtain ⟨c, hc, hq⟩ := List.mem_flatten.mp h
  obtain ⟨k, hk⟩ := List.getElem?_of_mem hc
  obtain ⟨i, h1, h2⟩ := gB_in hC hk
  exact ⟨i, c, List.mem_of_getElem? h1, h2, hq⟩
theorem gB_len {α : Type} {bs cb : List α} {isB : List Nat} (hC : isB.map (fun i => bs[i]?) = cb.map some) : cb.length = isB.length := by
  have := congrArg List.length hC
  simpa using this.symm
theorem gB_sub {D : va_G} {bs cb : List va_W} {H : Heap} (hP : va_P D vwCl bs.flatten H) {isB : List Nat} (hC : isB.map (fun i => bs[i]?) = cb.map some) : va_P D vwCl cb.flatten H :=
  gP_mem.mpr fun q hq => by
    obtain ⟨i, c, -, h1, h2⟩ := gB_mem hC hq
    exact gP_mem.mp (gP_flat.mp hP c (List.mem_of_getElem? h1)) q h2
theorem gB_subD {A : Nat → Prop} {bs cb : List va_W} (hD : va_D A bs.flatten) {isB : List Nat} (hC : isB.map (fun i => bs[i]?) = cb.map some) (hn : va_nd isB = true) : va_D (fun _ => True) cb.flatten := by
  have hp := (List.pairwise_flatten.mp (gD_pw.mp hD).1)
  refine gD_pw.mpr ⟨List.pairwise_flatten.mpr ⟨fun c hc => ?_, List.pairwise_iff_getElem.mpr fun i j hi hj hij x hx y hy => ?_⟩, fun _ _ => trivial⟩
  · obtain ⟨k, hk⟩ := List.getElem?_of_mem hc
    obtain ⟨i, -, h2⟩ := gB_in hC hk
    exact hp.1 c (List.mem_of_getElem? h2)
  · obtain ⟨a, h1, h2⟩ := gB_in hC (List.getElem?_eq_getElem hi)
    obtain ⟨b, h3, h4⟩ := gB_in hC (List.getElem?_eq_getElem hj)
    refine gD_apart hD h2 h4 (fun hab => ?_) hx hy
    subst hab
    have := va_nd_inj isB hn i j a h1 h3
    omega
theorem gB_free {A0 : Nat → Prop} {bs cb : List va_W} {H0 H : Heap} {locs : List Loc} (hD : va_D A0 bs.flatten) (hS : va_S A0 H0 H locs) (hA : ∀ q, H0.size ≤ q → A0 q) {isB : List Nat} (hC : isB.map (fun i => bs[i]?) = cb.map some) : ∀ q, va_A cb.flatten H.size q → A0 q := by
  intro q h
  rcases h with ⟨k, e, h⟩ | h
  · obtain ⟨i, c, -, h1, h2⟩ := gB_mem hC (List.mem_of_getElem? h)
    exact (gD_pw.mp hD).2 (q, e) (List.mem_flatten.mpr ⟨c, List.mem_of_getElem? h1, h2⟩)
  · exact hA q (Nat.le_trans hS.1 h)
theorem gB_after {D : va_G} {A : Nat → Prop} {bs bs1 cb cb1 : List va_W} {H H1 : Heap} (hP : va_P D vwCl bs.flatten H) (hD : va_D A bs.flatten) {isB : List Nat} (hC : isB.map (fun i => bs[i]?) = cb.map some) (hset : gset bs isB cb1 = bs1) (hl : cb1.length = cb.length) (hk1 : ∀ q : Nat, q < H.size → ¬ va_A cb.flatten H.size q → H1[q]? = H[q]?) (hP1 : va_P D vwCl cb1.flatten H1) : va_P D vwCl bs1.flatten H1 := by
  refine gP_flat.mpr fun b hb => ?_
  obtain ⟨k, hk⟩ := List.getElem?_of_mem hb
  rw [← hset] at hk
  rcases gset_at isB cb1 bs (hl.trans (gB_len hC)) k b hk with ⟨j, hj⟩ | ⟨hn, h⟩
  · exact gP_flat.mp hP1 b (List.mem_of_getElem? hj)
  · refine gP_mem.mpr fun q hq => ?_
    have hq0 := gP_mem.mp (gP_flat.mp hP b (List.mem_of_getElem? h)) q hq
    refine hq0.kept (hk1 q.1 hq0.lt (fun ha => ?_))
    rcases ha with ⟨j, e, hj⟩ | hge
    · obtain ⟨i, c, h1, h2, h3⟩ := gB_mem hC (List.mem_of_getElem? hj)
      exact gD_apart hD h h2 (fun hki => hn (by rw [hki]; exact h1)) hq h3 rfl
    · have := hq0.lt
      omega
theorem gB_same {A : Nat → Prop} {bs bs1 : List va_W} (hD : va_D A bs.flatten) (e : bs1.map (fun b => b.map (·.1)) = bs.map (fun b => b.map (·.1))) : va_D A bs1.flatten :=
  gD_same hD (by rw [List.map_flatten, List.map_flatten]; exact congrArg List.flatten e)
section GCB
variable {p : Program} {l : Launch} {e : Env} {R : Room} {s : State} {m : MethodId} {args : Array Value} {below : List Frame} {meth : Method} {c : Code} {H : Heap} {locs : List Loc} {cells slots : Nat} {Q : State → Prop} {cc : ByteArray} {pc : Nat} {ls : Array Slot}
variable {E : gE} {A : Nat → Prop} {own C : String} {index nL n maxL : Nat} {y : MethodName} {bytes : ByteArray} {ret : Option FieldType} {wy Ts : List Cond} {rm : Room} {RT : Type} {b : Addr} {As rest st0 : List Value} {ws wc : va_W} {bs cb bs1 : List va_W} {W1 : RT → va_W} {B1 : RT → List va_W} {rv : RT → Int32} {res : RT} {r : Int32} {lv : List (Nat × Value)}
/-- a virtual call that answers an int; whole bundles are handed over -/
theorem g_callBi (S : CallFix p m c cc nL s args Ts own) (hM : gMI E l y wy rm (.ref b :: As) cb.flatten (fun z => (B1 z).flatten) rv res) (cw : CallW R s args own C index y bytes maxL ret wy rm 0 0 n)
    (hK : va_K E.1 vwCl (gT E) s) (hP : va_P E.1 vwCl bs.flatten H) (hD : va_D A bs.flatten) (hS : va_S A s.heap H locs) (hA : ∀ q, s.heap.size ≤ q → A q) (hG : gSt E A s s.heap) (hl : lv_has ls nL lv) (isB : List Nat) (jb kb : Nat) (hn1 : va_nd isB = true) (hC : isB.map (fun i => bs[i]?) = cb.map some)
    {ci : Nat} {q : vw_C} {fs : List Value} {bb : va_W} (hrc : vwCl[ci]? = some q) (hrn : q.1 = C) (hjb : bs[jb]? = some bb) (hb0 : bb[kb]? = some (b, .inr (ci, fs))) (hset : gset bs isB (B1 res) = bs1) (hlen : (B1 res).length = cb.length) (hsame : bs1.map (fun b => b.map (·.1)) = bs.map (fun b => b.map (·.1))) (hr : rv res = r) (hn : As.length = n) (hst : st0 = As.reverse ++ .ref b :: rest) (hW : (rest.map fun v => v.category).sum ≤ 8)
    (hdg : decode cc pc = .ok (.invokevirtual index, 3)) (hcl : cells ≤ R.cells) (hsl : slots ≤ R.slots)
    (kk : ∀ (H1 : Heap) (locs1 : List Loc), va_P E.1 vwCl bs1.flatten H1 → va_D A bs1.flatten → va_S A s.heap H1 locs1 → W p l e R s m args below meth c H1 locs1 cells slots Q (F0 m (pc + 3) ls (.int r :: rest))) : W p l e R s m args below meth c H locs cells slots Q (F0 m pc ls st0) := by
  have hF := gB_free (cb := cb) hD hS hA hC
  have hDc := gB_subD (cb := cb) hD hC hn1
  have hrecv : ∃ cellB : Cell, H[b]? = some cellB ∧ cellB.vm.isStatics = false ∧ s.vm.findClass C = some cellB.cls := by
    obtain ⟨cell, g1, g2, g3⟩ := va_recv hK (gP_flat.mp hP bb (List.mem_of_getElem? hjb)) hrc hb0
    exact ⟨cell, g1, g2, by rw [← hrn]; exact g3⟩
  refine va_calli (va_runV (As := As) (rest := rest) S (hM H.size) cw ⟨gPre_blind, hrecv, fun U hU hW => ⟨rfl, by rw [hU], by rw [hU]; exact gB_sub hP hC, va_K.moved hW.alike hK, hDc, by rw [hU]; exact hG.call hS hF hW.alike⟩⟩ rfl hn hl.1 hst (lv_room hW) hdg ⟨hcl, hsl⟩) hS (fun q _ h => hF q h) hF (fun r0 u t H1 locs1 ht hvm hw hB hz1 hk1 hS1 => ?_)
  have hw : r0 = rv res := hw
  rw [ht] at hB
  rw [hw, hr]
  exact kk H1 locs1 (gB_after hP hD hC hset hlen hk1 hB) (gB_same hD hsame) hS1
theorem g_callBv (S : CallFix p m c cc nL s args Ts own) (hM : gMV E l y wy rm (.ref b :: As) cb.flatten (fun z => (B1 z).flatten) res) (cw : CallW R s args own C index y bytes maxL ret wy rm 0 0 n)
    (hK : va_K E.1 vwCl (gT E) s) (hP : va_P E.1 vwCl bs.flatten H) (hD : va_D A bs.flatten) (hS : va_S A s.heap H locs) (hA : ∀ q, s.heap.size ≤ q → A q) (hG : gSt E A s s.heap) (hl : lv_has ls nL lv) (isB : List Nat) (jb kb : Nat) (hn1 : va_nd isB = true) (hC : isB.map (fun i => bs[i]?) = cb.map some)
    {ci : Nat} {q : vw_C} {fs : List Value} {bb : va_W} (hrc : vwCl[ci]? = some q) (hrn : q.1 = C) (hjb : bs[jb]? = some bb) (hb0 : bb[kb]? = some (b, .inr (ci, fs))) (hset : gset bs isB (B1 res) = bs1) (hlen : (B1 res).length = cb.length) (hsame : bs1.map (fun b => b.map (·.1)) = bs.map (fun b => b.map (·.1))) (hn : As.length = n) (hst : st0 = As.reverse ++ .ref b :: rest) (hW : (rest.map fun v => v.category).sum ≤ 8)
    (hdg : decode cc pc = .ok (.invokevirtual index, 3)) (hcl : cells ≤ R.cells) (hsl : slots ≤ R.slots)
    (kk : ∀ (H1 : Heap) (locs1 : List Loc), va_P E.1 vwCl bs1.flatten H1 → va_D A bs1.flatten → va_S A s.heap H1 locs1 → W p l e R s m args below meth c H1 locs1 cells slots Q (F0 m (pc + 3) ls rest)) : W p l e R s m args below meth c H locs cells slots Q (F0 m pc ls st0) := by
  have hF := gB_free (cb := cb) hD hS hA hC
  have hDc := gB_subD (cb := cb) hD hC hn1
  have hrecv : ∃ cellB : Cell, H[b]? = some cellB ∧ cellB.vm.isStatics = false ∧ s.vm.findClass C = some cellB.cls := by
    obtain ⟨cell, g1, g2, g3⟩ := va_recv hK (gP_flat.mp hP bb (List.mem_of_getElem? hjb)) hrc hb0
    exact ⟨cell, g1, g2, by rw [← hrn]; exact g3⟩
  refine va_callv (va_runV (As := As) (rest := rest) S (hM H.size) cw ⟨gPre_blind, hrecv, fun U hU hW => ⟨rfl, by rw [hU], by rw [hU]; exact gB_sub hP hC, va_K.moved hW.alike hK, hDc, by rw [hU]; exact hG.call hS hF hW.alike⟩⟩ rfl hn hl.1 hst (lv_room hW) hdg ⟨hcl, hsl⟩) hS (fun q _ h => hF q h) hF (fun u t H1 locs1 ht hvm hw hB hz1 hk1 hS1 => ?_)
  rw [ht] at hB
  exact kk H1 locs1 (gB_after hP hD hC hset hlen hk1 hB) (gB_same hD hsame) hS1
theorem gB_one (w : va_W) : [w].flatten = w := by simp
/-- the same, one bundle handed over -/
theorem g_call1i (S : CallFix p m c cc nL s args Ts own) (hM : gMI E l y wy rm (.ref b :: As) wc W1 rv res) (cw : CallW R s args own C index y bytes maxL ret wy rm 0 0 n)
    (hK : va_K E.1 vwCl (gT E) s) (hP : va_P E.1 vwCl bs.flatten H) (hD : va_D A bs.flatten) (hS : va_S A s.heap H locs) (hA : ∀ q, s.heap.size ≤ q → A q) (hG : gSt E A s s.heap) (hl : lv_has ls nL lv) (jb kb : Nat)
    {ci : Nat} {q : vw_C} {fs : List Value} (hrc : vwCl[ci]? = some q) (hrn : q.1 = C) (hjb : bs[jb]? = some wc) (hb0 : wc[kb]? = some (b, .inr (ci, fs))) (hset : bs.set jb (W1 res) = bs1) (hsame : (W1 res).map (·.1) = wc.map (·.1)) (hr : rv res = r) (hn : As.length = n) (hst : st0 = As.reverse ++ .ref b :: rest) (hW : (rest.map fun v => v.category).sum ≤ 8)
    (hdg : decode cc pc = .ok (.invokevirtual index, 3)) (hcl : cells ≤ R.cells) (hsl : slots ≤ R.slots)
    (kk : ∀ (H1 : Heap) (locs1 : List Loc), va_P E.1 vwCl bs1.flatten H1 → va_D A bs1.flatten → va_S A s.heap H1 locs1 → W p l e R s m args below meth c H1 locs1 cells slots Q (F0 m (pc + 3) ls (.int r :: rest))) : W p l e R s m args below meth c H locs cells slots Q (F0 m pc ls st0) := by
  refine g_callBi (cb := [wc]) (B1 := fun z => [W1 z]) (bs1 := bs1) S (by simpa only [gB_one] using hM) cw hK hP hD hS hA hG hl [jb] jb kb rfl (by simp [hjb]) hrc hrn hjb hb0 hset rfl ?_ hr hn hst hW hdg hcl hsl kk
  rw [← hset, List.map_set, hsame]
  refine List.ext_getElem? (fun k => ?_)
  by_cases hk : jb = k
  · subst hk
    have hlt := (List.getElem?_eq_some_iff.mp hjb).1
    rw [List.getElem?_set_self (by rw [List.length_map]; exact hlt), List.getElem?_map, hjb]
    rfl
  · rw [List.getElem?_set_ne hk]
theorem g_call1v (S : CallFix p m c cc nL s args Ts own) (hM : gMV E l y wy rm (.ref b :: As) wc W1 res) (cw : CallW R s args own C index y bytes maxL ret wy rm 0 0 n)
    (hK : va_K E.1 vwCl (gT E) s) (hP : va_P E.1 vwCl bs.flatten H) (hD : va_D A bs.flatten) (hS : va_S A s.heap H locs) (hA : ∀ q, s.heap.size ≤ q → A q) (hG : gSt E A s s.heap) (hl : lv_has ls nL lv) (jb kb : Nat)
    {ci : Nat} {q : vw_C} {fs : List Value} (hrc : vwCl[ci]? = some q) (hrn : q.1 = C) (hjb : bs[jb]? = some wc) (hb0 : wc[kb]? = some (b, .inr (ci, fs))) (hset : bs.set jb (W1 res) = bs1) (hsame : (W1 res).map (·.1) = wc.map (·.1)) (hn : As.length = n) (hst : st0 = As.reverse ++ .ref b :: rest) (hW : (rest.map fun v => v.category).sum ≤ 8)
    (hdg : decode cc pc = .ok (.invokevirtual index, 3)) (hcl : cells ≤ R.cells) (hsl : slots ≤ R.slots)
    (kk : ∀ (H1 : Heap) (locs1 : List Loc), va_P E.1 vwCl bs1.flatten H1 → va_D A bs1.flatten → va_S A s.heap H1 locs1 → W p l e R s m args below meth c H1 locs1 cells slots Q (F0 m (pc + 3) ls rest)) : W p l e R s m args below meth c H locs cells slots Q (F0 m pc ls st0) := by
  refine g_callBv (cb := [wc]) (B1 := fun z => [W1 z]) (bs1 := bs1) S (by simpa only [gB_one] using hM) cw hK hP hD hS hA hG hl [jb] jb kb rfl (by simp [hjb]) hrc hrn hjb hb0 hset rfl ?_ hn hst hW hdg hcl hsl kk
  rw [← hset, List.map_set, hsame]
  refine List.ext_getElem? (fun k => ?_)
  by_cases hk : jb = k
  · subst hk
    have hlt := (List.getElem?_eq_some_iff.mp hjb).1
    rw [List.getElem?_set_self (by rw [List.length_map]; exact hlt), List.getElem?_map, hjb]
    rfl
  · rw [List.getElem?_set_ne hk]
/-- a virtual call that only reads a part of the world -/
theorem g_callRi (S : CallFix p m c cc nL s args Ts own) (hM : gMI E l y wy rm (.ref b :: As) wc W1 rv res) (cw : CallW R s args own C index y bytes maxL ret wy rm 0 0 n)
    (hK : va_K E.1 vwCl (gT E) s) (hP : va_P E.1 vwCl ws H) (hD : va_D A ws) (hS : va_S A s.heap H locs) (hA : ∀ q, s.heap.size ≤ q → A q) (hG : gSt E A s s.heap) (hl : lv_has ls nL lv) (isC : List Nat) (q0 : Nat) (hn1 : va_nd isC = true) (hC : isC.map (fun i => ws[i]?) = wc.map some)
    {ci : Nat} {q : vw_C} {fs : List Value} (hrc : vwCl[ci]? = some q) (hrn : q.1 = C) (hb0 : ws[q0]? = some (b, .inr (ci, fs))) (hro : W1 res = wc) (hr : rv res = r) (hn : As.length = n) (hst : st0 = As.reverse ++ .ref b :: rest) (hW : (rest.map fun v => v.category).sum ≤ 8)
    (hdg : decode cc pc = .ok (.invokevirtual index, 3)) (hcl : cells ≤ R.cells) (hsl : slots ≤ R.slots)
    (kk : ∀ (H1 : Heap) (locs1 : List Loc), va_P E.1 vwCl ws H1 → va_D A ws → va_S A s.heap H1 locs1 → W p l e R s m args below meth c H1 locs1 cells slots Q (F0 m (pc + 3) ls (.int r :: rest))) : W p l e R s m args below meth c H locs cells slots Q (F0 m pc ls st0) := by
  have hF := g_freeC (wc := wc) hD hS hA hC
  have hDc := g_subD (wc := wc) hD hC hn1
  have hrecv : ∃ cellB : Cell, H[b]? = some cellB ∧ cellB.vm.isStatics = false ∧ s.vm.findClass C = some cellB.cls := by
    obtain ⟨cell, g1, g2, g3⟩ := va_recv hK hP hrc hb0
    exact ⟨cell, g1, g2, by rw [← hrn]; exact g3⟩
  refine va_calli (va_runV (As := As) (rest := rest) S (hM H.size) cw ⟨gPre_blind, hrecv, fun U hU hW => ⟨rfl, by rw [hU], by rw [hU]; exact g_sub hP hC, va_K.moved hW.alike hK, hDc, by rw [hU]; exact hG.call hS hF hW.alike⟩⟩ rfl hn hl.1 hst (lv_room hW) hdg ⟨hcl, hsl⟩) hS (fun q _ h => hF q h) hF (fun r0 u t H1 locs1 ht hvm hw hB hz1 hk1 hS1 => ?_)
  have hw : r0 = rv res := hw
  rw [ht, hro] at hB
  rw [hw, hr]
  refine kk H1 locs1 (gP_mem.mpr fun q hq => ?_) hD hS1
  have hq0 := gP_mem.mp hP q hq
  by_cases hin : ∃ j : Nat, wc[j]? = some q
  · obtain ⟨j, hj⟩ := hin
    exact hB j q hj
  · refine hq0.kept (hk1 q.1 hq0.lt (fun ha => ?_))
    rcases ha with ⟨j, e, hj⟩ | hge
    · obtain ⟨i, -, h4⟩ := g_in_of hC hj
      obtain ⟨k, hk⟩ := List.getElem?_of_mem hq
      have := hD.1 k i q (q.1, e) hk h4 rfl
      subst this
      rw [hk] at h4
      exact hin ⟨j, hj.trans h4.symm⟩
    · have := hq0.lt
      omega
end GCB
