/-! ===== constructors: worlds that grow ===== -/
def gMC {ST : Type} (E : gE) (l : Launch) (y : MethodName) (wy : List Cond) (rm : Room) (av : List Value) (ws : va_W) (W1 : ST → va_W) (post : ST → Prop) (mc ms : Nat) : Prop :=
  ∀ sz : Nat, Met l y wy rm (gPre E av ws sz) (va_Qv post (fun z t => va_P E.1 vwCl (W1 z) t.heap ∧ va_D (va_A ws sz) (W1 z)) (va_A ws sz)) mc ms (va_A ws sz)
theorem g_entC {ST : Type} {E : gE} {l : Launch} {y : MethodName} {wy wy' : List Cond} {rm : Room} {av : List Value} {ws : va_W} {W1 : ST → va_W} {post : ST → Prop} {mc ms : Nat} {cc : ByteArray} {maxL : Nat} (hy : plainName y.cls = true) (hw : wy = Cond.code y cc maxL none :: wy') (hyi : y.name = "<init>") (hlen : (lg_sl av).length ≤ maxL)
    (body : ∀ (p : Program) (e : Env) (s : State) (m : MethodId) (args : Array Value) (below : List Frame) (meth : Method) (c : Code) (A : Nat → Prop) (Q : State → Prop) (ls : Array Slot), p.tables.exec = Jvm.exec → c.code = cc → c.maxLocals = maxL → s.vm.findClass y.cls = some m.cls → (∀ w ∈ wy, w.before args s = true) → va_K E.1 vwCl (gT E) s → va_P E.1 vwCl ws s.heap → va_D A ws → va_S A s.heap s.heap [] → (∀ q : Nat, s.heap.size ≤ q → A q) → gSt E A s s.heap → meth.name = "<init>" →
      (∀ (z : ST) (H : Heap) (locs : List Loc) (ls : Array Slot) (pc cells slots : Nat), cells ≤ mc → slots ≤ ms → post z → va_P E.1 vwCl (W1 z) H → va_D A (W1 z) → va_S A s.heap H locs → decode cc pc = .ok (.return_, 1) → W p l e rm s m args below meth c H locs cells slots Q (F0 m pc ls [])) →
      lv_has ls maxL (lv_args 0 av) → W p l e rm s m args below meth c s.heap [] 0 0 Q (F0 m 0 ls [])) : gMC E l y wy rm av ws W1 post mc ms := by
  intro sz
  refine Met.ofW (cc := cc) (maxL := maxL) (ret := none) hy hw ?_
  intro p e s m args below meth c s₁ B hml hv
  obtain ⟨rfl, hsz, hP, hK, hD0, hG⟩ := hv
  have hx := B.exec
  have hb := B.bytes
  have hr := B.returns
  have hts := atoms_spec (ws := wy) B.pre
  have hown : s.vm.findClass y.cls = some m.cls := findClass_of_methodNamed B.named
  have hlocks := B.notSynchronized
  have hin : meth.name = "<init>" := by rw [← hyi]; exact (name_of_methodNamed B.named B.method).1
  subst hsz
  have hD := hD0.self (sz := s.heap.size)
  have hl := lv_entry av (n := maxL) hlen
  rw [lg_entry_eq]
  exact body p e s m _ below meth c (va_A ws s.heap.size) _ _ hx hb hml hown hts hK hP hD va_S.rf (fun q h => Or.inr h) hG hin (fun z H locs ls pc cells slots h1 h2 hz hP1 hD1 hS hdg => by
    refine W.widen h1 h2 ?_
    exact W.vret hx hb hr (fun t ht hW => ⟨⟨z, rfl, hz, by show va_P _ _ _ t.heap; rw [ht]; exact hP1, hD1⟩, hS.F ht⟩) hS.2.2 hdg) hl
section GCC
variable {p : Program} {l : Launch} {e : Env} {R : Room} {s : State} {m : MethodId} {args : Array Value} {below : List Frame} {meth : Method} {c : Code} {H : Heap} {locs : List Loc} {cells slots : Nat} {Q : State → Prop} {cc : ByteArray} {pc : Nat} {ls : Array Slot}
variable {E : gE} {A : Nat → Prop} {own C : String} {index nL n maxL mc ms : Nat} {y : MethodName} {bytes : ByteArray} {wy Ts : List Cond} {rm : Room} {ST : Type} {b : Addr} {As rest st0 : List Value} {ws wc wr : va_W} {W1 : ST → va_W} {post : ST → Prop} {lv : List (Nat × Value)}
theorem g_callC (S : CallFix p m c cc nL s args Ts own) (hM : gMC E l y wy rm (.ref b :: As) wc W1 post mc ms) (cw : CallB R s args own index y bytes maxL none wy rm mc ms n ∧ y.name = "<init>" ∧ (Cond.instanceMethod y).before args s = true)
    (hK : va_K E.1 vwCl (gT E) s) (hP : va_P E.1 vwCl (wr ++ wc) H) (hD : va_D A (wr ++ wc)) (hS : va_S A s.heap H locs) (hA : ∀ q, s.heap.size ≤ q → A q) (hG : gSt E A s s.heap) (hl : lv_has ls nL lv)
    (hn : As.length = n) (hst : st0 = As.reverse ++ .ref b :: rest) (hW : (rest.map fun v => v.category).sum ≤ 8)
    (hdg : decode cc pc = .ok (.invokespecial index, 3)) (hcl : cells + mc ≤ R.cells) (hsl : slots + ms ≤ R.slots)
    (kk : ∀ (z : ST) (H1 : Heap) (locs1 : List Loc), post z → va_P E.1 vwCl (wr ++ W1 z) H1 → va_D A (wr ++ W1 z) → va_S A s.heap H1 locs1 → W p l e R s m args below meth c H1 locs1 (cells + mc) (slots + ms) Q (F0 m (pc + 3) ls rest)) : W p l e R s m args below meth c H locs cells slots Q (F0 m pc ls st0) := by
  have eB : ([wr, wc] : List va_W).flatten = wr ++ wc := by simp
  have eC : ([wc] : List va_W).flatten = wc := by simp
  have hC : [1].map (fun i => ([wr, wc] : List va_W)[i]?) = [wc].map some := rfl
  have hF := gB_free (bs := [wr, wc]) (cb := [wc]) (by rw [eB]; exact hD) hS hA hC
  have hDc := gB_subD (bs := [wr, wc]) (cb := [wc]) (A := A) (by rw [eB]; exact hD) hC rfl
  have hPc := gB_sub (bs := [wr, wc]) (cb := [wc]) (by rw [eB]; exact hP) hC
  rw [eC] at hF hDc hPc
  refine va_callv (va_runI (As := As) (rest := rest) S (hM H.size) cw ⟨gPre_blind, fun U hU hW => ⟨rfl, by rw [hU], by rw [hU]; exact hPc, va_K.moved hW.alike hK, hDc, by rw [hU]; exact hG.call hS hF hW.alike⟩⟩ rfl hn hl.1 hst (lv_room hW) hdg ⟨hcl, hsl⟩) hS (fun q _ h => hF q h) hF (fun z t H1 locs1 ht hvm hw hB hz1 hk1 hS1 => ?_)
  obtain ⟨hP1, hD1⟩ := hB
  rw [ht] at hP1
  have key : ∀ q ∈ wr, q.1 < H.size ∧ ¬ va_A wc H.size q.1 := by
    intro q hq
    have h0 := gP_mem.mp hP q (List.mem_append_left _ hq)
    refine ⟨h0.lt, fun ha => ?_⟩
    rcases ha with ⟨j, e, hj⟩ | hge
    · exact (List.pairwise_append.mp (gD_pw.mp hD).1).2.2 q hq (q.1, e) (List.mem_of_getElem? hj) rfl
    · have := h0.lt
      omega
  refine kk z H1 locs1 hw (gP_mem.mpr fun q hq => ?_) (gD_pw.mpr ⟨List.pairwise_append.mpr ⟨(List.pairwise_append.mp (gD_pw.mp hD).1).1, (gD_pw.mp hD1).1, fun q hq x hx e => ?_⟩, fun q hq => ?_⟩) hS1
  · rcases List.mem_append.mp hq with h | h
    · obtain ⟨k1, k2⟩ := key q h
      exact (gP_mem.mp hP q (List.mem_append_left _ h)).kept (hk1 q.1 k1 k2)
    · exact gP_mem.mp hP1 q h
  · exact (key q hq).2 (by rw [e]; exact (gD_pw.mp hD1).2 x hx)
  · rcases List.mem_append.mp hq with h | h
    · exact (gD_pw.mp hD).2 q (List.mem_append_left _ h)
    · exact hF _ ((gD_pw.mp hD1).2 q h)
theorem g_newI (hexec : p.tables.exec = Jvm.exec) (hb : c.code = cc) (harr : (Cond.arrayClass .int).before args s = true) (hK : va_K E.1 vwCl (gT E) s) (hP : va_P E.1 vwCl ws H) (hD : va_D A ws) (hS : va_S A s.heap H locs) (hA : ∀ q, s.heap.size ≤ q → A q)
    {nn : Int32} (N : Nat) (hn : ¬ nn < 0) (hN : nn.toNatClampNeg = N) (hbytes : N * componentBytes .int ≤ 536870912) (hcells : cells + 1 ≤ R.cells) (hslots : slots + N ≤ R.slots) (hdg : decode cc pc = .ok (.newarray .int, 2))
    (kk : ∀ (q : Nat) (H1 : Heap), va_P E.1 vwCl (ws ++ [(q, .inl (E.2.1, N, .inl (fun _ => 0)))]) H1 → va_D A (ws ++ [(q, .inl (E.2.1, N, .inl (fun _ => 0)))]) → va_S A s.heap H1 locs →
      W p l e R s m args below meth c H1 locs (cells + 1) (slots + N) Q (F0 m (pc + 2) ls (.ref q :: rest))) : W p l e R s m args below meth c H locs cells slots Q (F0 m pc ls (.int nn :: rest)) := by
  refine va_newa (atype := .int) (ty := .int) (a0 := (N, .inl (fun _ => 0))) hexec hb harr rfl hK hP hD hS hA (fun _ => rfl) hn hN hbytes hcells hslots hdg (fun q cA H1 hK1 hP1 hD1 hS1 => ?_)
  have e1 := va_nm_int (hK1.2 4 (cA, .int) rfl).2
  have e2 := va_nm_int (hK.2 0 (E.2.1, .int) rfl).2
  have : cA = E.2.1 := Option.some.inj (e1.symm.trans e2)
  subst this
  exact kk q H1 hP1 hD1 hS1
theorem g_newZ (hexec : p.tables.exec = Jvm.exec) (hb : c.code = cc) (harr : (Cond.arrayClass .boolean).before args s = true) (hK : va_K E.1 vwCl (gT E) s) (hP : va_P E.1 vwCl ws H) (hD : va_D A ws) (hS : va_S A s.heap H locs) (hA : ∀ q, s.heap.size ≤ q → A q)
    {nn : Int32} (N : Nat) (hn : ¬ nn < 0) (hN : nn.toNatClampNeg = N) (hbytes : N * componentBytes .boolean ≤ 536870912) (hcells : cells + 1 ≤ R.cells) (hslots : slots + N ≤ R.slots) (hdg : decode cc pc = .ok (.newarray .boolean, 2))
    (kk : ∀ (q : Nat) (H1 : Heap), va_P E.1 vwCl (ws ++ [(q, .inl (E.2.2.1, N, .inl (fun _ => 0)))]) H1 → va_D A (ws ++ [(q, .inl (E.2.2.1, N, .inl (fun _ => 0)))]) → va_S A s.heap H1 locs →
      W p l e R s m args below meth c H1 locs (cells + 1) (slots + N) Q (F0 m (pc + 2) ls (.ref q :: rest))) : W p l e R s m args below meth c H locs cells slots Q (F0 m pc ls (.int nn :: rest)) := by
  refine va_newa (atype := .boolean) (ty := .boolean) (a0 := (N, .inl (fun _ => 0))) hexec hb harr rfl hK hP hD hS hA (fun _ => rfl) hn hN hbytes hcells hslots hdg (fun q cA H1 hK1 hP1 hD1 hS1 => ?_)
  have e1 := va_nm_boolean (hK1.2 4 (cA, .boolean) rfl).2
  have e2 := va_nm_boolean (hK.2 1 (E.2.2.1, .boolean) rfl).2
  have : cA = E.2.2.1 := Option.some.inj (e1.symm.trans e2)
  subst this
  exact kk q H1 hP1 hD1 hS1
theorem g_newC (hexec : p.tables.exec = Jvm.exec) (hb : c.code = cc) (harr : (Cond.arrayClass .char).before args s = true) (hK : va_K E.1 vwCl (gT E) s) (hP : va_P E.1 vwCl ws H) (hD : va_D A ws) (hS : va_S A s.heap H locs) (hA : ∀ q, s.heap.size ≤ q → A q)
    {nn : Int32} (N : Nat) (hn : ¬ nn < 0) (hN : nn.toNatClampNeg = N) (hbytes : N * componentBytes .char ≤ 536870912) (hcells : cells + 1 ≤ R.cells) (hslots : slots + N ≤ R.slots) (hdg : decode cc pc = .ok (.newarray .char, 2))
    (kk : ∀ (q : Nat) (H1 : Heap), va_P E.1 vwCl (ws ++ [(q, .inl (E.2.2.2.1, N, .inl (fun _ => 0)))]) H1 → va_D A (ws ++ [(q, .inl (E.2.2.2.1, N, .inl (fun _ => 0)))]) → va_S A s.heap H1 locs →
      W p l e R s m args below meth c H1 locs (cells + 1) (slots + N) Q (F0 m (pc + 2) ls (.ref q :: rest))) : W p l e R s m args below meth c H locs cells slots Q (F0 m pc ls (.int nn :: rest)) := by
  refine va_newa (atype := .char) (ty := .char) (a0 := (N, .inl (fun _ => 0))) hexec hb harr rfl hK hP hD hS hA (fun _ => rfl) hn hN hbytes hcells hslots hdg (fun q cA H1 hK1 hP1 hD1 hS1 => ?_)
  have e1 := va_nm_char (hK1.2 4 (cA, .char) rfl).2
  have e2 := va_nm_char (hK.2 2 (E.2.2.2.1, .char) rfl).2
  have : cA = E.2.2.2.1 := Option.some.inj (e1.symm.trans e2)
  subst this
  exact kk q H1 hP1 hD1 hS1
/-- a new row of huts -/
theorem g_newH (hexec : p.tables.exec = Jvm.exec) (hb : c.code = cc) {own : String} {index : Nat} (hown : s.vm.findClass own = some m.cls) (hclink : (Cond.classLink own index "GlacierHut$Hut").before args s = true) (hG : gSt E A s s.heap) (hK : va_K E.1 vwCl (gT E) s) (hP : va_P E.1 vwCl ws H) (hD : va_D A ws) (hS : va_S A s.heap H locs) (hA : ∀ q, s.heap.size ≤ q → A q)
    {nn : Int32} (N : Nat) (hn : ¬ nn < 0) (hN : nn.toNatClampNeg = N) (hbytes : N * 4 ≤ 536870912) (hcells : cells + 1 ≤ R.cells) (hslots : slots + N ≤ R.slots) (hdg : decode cc pc = .ok (.anewarray index, 3))
    (kk : ∀ (q : Nat) (H1 : Heap), va_P E.1 vwCl (ws ++ [(q, .inl (E.2.2.2.2.1, N, .inr (.inr (.inr (.inr (fun _ => none))))))]) H1 → va_D A (ws ++ [(q, .inl (E.2.2.2.2.1, N, .inr (.inr (.inr (.inr (fun _ => none))))))]) → va_S A s.heap H1 locs →
      W p l e R s m args below meth c H1 locs (cells + 1) (slots + N) Q (F0 m (pc + 3) ls (.ref q :: rest))) : W p l e R s m args below meth c H locs cells slots Q (F0 m pc ls (.int nn :: rest)) := by
  refine va_newq hexec hb hown hclink hG.2.2.2 hK hP hD hS hA hn hN hbytes hcells hslots hdg (fun q cA H1 hK1 hP1 hD1 hS1 => ?_)
  obtain ⟨kA, comp, h1, h2, h3, h4⟩ := (hK1.2 4 (cA, .object "GlacierHut$Hut") rfl).2
  obtain ⟨kB, comp2, g1, g2, g3, g4⟩ := (hK.2 3 (E.2.2.2.2.1, .object "GlacierHut$Hut") rfl).2
  have : cA = E.2.2.2.2.1 := Option.some.inj (h4.symm.trans g4)
  subst this
  exact kk q H1 hP1 hD1 hS1
end GCC
/-- a row of references may be told otherwise behind its end -/
theorem gP_refs {D : va_G} {ws : va_W} {H : Heap} (hP : va_P D vwCl ws H) (k : Nat) {q n : Nat} {cA : ClassId} {f g : Nat → Option Nat} (hk : ws[k]? = some (q, .inl (cA, n, .inr (.inr (.inr (.inr f)))))) (h : ∀ i, i < n → f i = g i) : va_P D vwCl (ws.set k (q, .inl (cA, n, .inr (.inr (.inr (.inr g)))))) H := by
  intro j x hx
  by_cases hj : j = k
  · subst hj
    rw [List.getElem?_set_self (List.getElem?_eq_some_iff.mp hk).1] at hx
    cases hx
    have h9 := hP j _ hk
    show H[q]? = some (vp_cell _ _)
    have e1 : vp_cell cA (n, .inr (.inr (.inr (.inr f)))) = vp_cell cA (n, .inr (.inr (.inr (.inr g)))) := g_arrV (f := fun j => va_rf (f j)) (g := fun j => va_rf (g j)) (fun i hi => by rw [h i hi])
    rw [← e1]
    exact h9
  · rw [List.getElem?_set_ne (Ne.symm hj)] at hx
    exact hP j x hx
theorem gP_push {D : va_G} {L : List va_W} {B : va_W} {H : Heap} (h : va_P D vwCl (L.flatten ++ B) H) : va_P D vwCl (L ++ [B]).flatten H := by rw [List.flatten_append, gB_one]; exact h
theorem gD_push {A : Nat → Prop} {L : List va_W} {B : va_W} (h : va_D A (L.flatten ++ B)) : va_D A (L ++ [B]).flatten := by rw [List.flatten_append, gB_one]; exact h
theorem gP_pushs {D : va_G} {L B : List va_W} {H : Heap} (h : va_P D vwCl (L.flatten ++ B.flatten) H) : va_P D vwCl (L ++ B).flatten H := by rw [List.flatten_append]; exact h
theorem gD_pushs {A : Nat → Prop} {L B : List va_W} (h : va_D A (L.flatten ++ B.flatten)) : va_D A (L ++ B).flatten := by rw [List.flatten_append]; exact h
/-- all the bundles in another order -/
theorem gB_perm {D : va_G} {A : Nat → Prop} {bs cb : List va_W} {H : Heap} (hP : va_P D vwCl bs.flatten H) (hD : va_D A bs.flatten) (isB : List Nat) (hC : isB.map (fun i => bs[i]?) = cb.map some) (hn : va_nd isB = true) : va_P D vwCl cb.flatten H ∧ va_D A cb.flatten := by
  refine ⟨gB_sub hP hC, gD_pw.mpr ⟨(gD_pw.mp (gB_subD hD hC hn)).1, fun q hq => ?_⟩⟩
  obtain ⟨i, c, -, h1, h2⟩ := gB_mem hC hq
  exact (gD_pw.mp hD).2 q (List.mem_flatten.mpr ⟨c, List.mem_of_getElem? h1, h2⟩)
