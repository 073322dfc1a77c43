/-! ===== static methods of the law: whole bundles are handed over; long answers; the script's row ===== -/
def gML {RT : Type} (E : gE) (l : Launch) (y : MethodName) (wy : List Cond) (rm : Room) (av : List Value) (ws : va_W) (W1 : RT → va_W) (rv : RT → Int64) (res : RT) : Prop :=
  ∀ sz : Nat, Met l y wy rm (gPre E av ws sz) (va_Ql (fun r0 (_ : Unit) => r0 = rv res) (fun _ t => va_P E.1 vwCl (W1 res) t.heap) (va_A ws sz)) 0 0 (va_A ws sz)
def dzB (v : Int32) : Bool := !decide (v = 0)
theorem dzB_ne {v : Int32} (h : dzB v = true) : ¬ v = 0 := by
  intro e
  rw [e] at h
  exact absurd h (by decide)
theorem g_entL {E : gE} {l : Launch} {y : MethodName} {wy wy' : List Cond} {rm : Room} {av : List Value} {ws : va_W} {RT : Type} {W1 : RT → va_W} {rv : RT → Int64} {res : RT} {cc : ByteArray} {maxL : Nat} (hy : plainName y.cls = true) (hw : wy = Cond.code y cc maxL (some .long) :: wy') (hlen : (lg_sl av).length ≤ maxL)
    (body : ∀ (p : Program) (e : Env) (s : State) (m : MethodId) (args : Array Value) (below : List Frame) (meth : Method) (c : Code) (A : Nat → Prop) (Q : State → Prop) (ls : Array Slot), p.tables.exec = Jvm.exec → c.code = cc → c.maxLocals = maxL → s.vm.findClass y.cls = some m.cls → (∀ w ∈ wy, w.before args s = true) → va_K E.1 vwCl (gT E) s → va_P E.1 vwCl ws s.heap → va_D A ws → va_S A s.heap s.heap [] → (∀ q : Nat, s.heap.size ≤ q → A q) → gSt E A s s.heap →
      (∀ (res' : RT) (H : Heap) (locs : List Loc) (ls : Array Slot) (pc : Nat) (v : Int64), res' = res → va_P E.1 vwCl (W1 res') H → va_S A s.heap H locs → rv res' = v → decode cc pc = .ok (.lreturn, 1) → W p l e rm s m args below meth c H locs 0 0 Q (F0 m pc ls [.long v])) →
      lv_has ls maxL (lv_args 0 av) → W p l e rm s m args below meth c s.heap [] 0 0 Q (F0 m 0 ls [])) : gML E l y wy rm av ws W1 rv res := by
  intro sz
  refine Met.ofW (cc := cc) (maxL := maxL) (ret := some .long) hy hw ?_
  intro p e s m args below meth c s₁ B hml hv
  obtain ⟨rfl, hsz, hP, hK, hD0, hG⟩ := hv
  have hx := B.exec
  have hb := B.bytes
  have hr := B.returns
  have hts := atoms_spec (ws := wy) B.pre
  have hown : s.vm.findClass y.cls = some m.cls := findClass_of_methodNamed B.named
  have hlocks := B.notSynchronized
  subst hsz
  have hD := hD0.self (sz := s.heap.size)
  have hl := lv_entry av (n := maxL) hlen
  rw [lg_entry_eq]
  exact body p e s m _ below meth c (va_A ws s.heap.size) _ _ hx hb hml hown hts hK hP hD va_S.rf (fun q h => Or.inr h) hG (fun res' H locs ls pc v er hP1 hS ev hdg => by
    subst er; subst ev
    exact W.lret hx hb hr (fun t ht hW => ⟨⟨_, (), rfl, rfl, by show va_P _ _ _ t.heap; rw [ht]; exact hP1⟩, hS.F ht⟩) hS.2.2 hdg) hl
section GC25
variable {p : Program} {l : Launch} {e : Env} {R : Room} {s : State} {m : MethodId} {args : Array Value} {below : List Frame} {meth : Method} {c : Code} {H : Heap} {locs : List Loc} {cells slots : Nat} {Q : State → Prop} {cc : ByteArray} {pc : Nat} {ls : Array Slot}
variable {E : gE} {A : Nat → Prop} {own C : String} {index nL n maxL : Nat} {y : MethodName} {bytes : ByteArray} {ret : Option FieldType} {wy Ts : List Cond} {rm : Room} {RT : Type} {b : Addr} {As rest st0 : List Value} {ws wc : va_W} {bs cb bs1 : List va_W} {W1 : RT → va_W} {B1 : RT → List va_W} {res : RT} {lv : List (Nat × Value)}
/-- a static call that answers an int; whole bundles are handed over -/
theorem g_callSBi {rv : RT → Int32} {r : Int32} (S : CallFix p m c cc nL s args Ts own) (hM : gMI E l y wy rm As cb.flatten (fun z => (B1 z).flatten) rv res) (cw : CallB R s args own index y bytes maxL ret wy rm 0 0 n ∧ (Cond.static y).before args s = true)
    (hK : va_K E.1 vwCl (gT E) s) (hP : va_P E.1 vwCl bs.flatten H) (hD : va_D A bs.flatten) (hS : va_S A s.heap H locs) (hA : ∀ q, s.heap.size ≤ q → A q) (hG : gSt E A s s.heap) (hl : lv_has ls nL lv) (isB : List Nat) (hn1 : va_nd isB = true) (hC : isB.map (fun i => bs[i]?) = cb.map some)
    (hset : gset bs isB (B1 res) = bs1) (hlen : (B1 res).length = cb.length) (hsame : bs1.map (fun b => b.map (·.1)) = bs.map (fun b => b.map (·.1))) (hr : rv res = r) (hn : As.length = n) (hst : st0 = As.reverse ++ rest) (hW : (rest.map fun v => v.category).sum ≤ 8)
    (hdg : decode cc pc = .ok (.invokestatic index, 3)) (hcl : cells ≤ R.cells) (hsl : slots ≤ R.slots)
    (kk : ∀ (H1 : Heap) (locs1 : List Loc), va_P E.1 vwCl bs1.flatten H1 → va_D A bs1.flatten → va_S A s.heap H1 locs1 → W p l e R s m args below meth c H1 locs1 cells slots Q (F0 m (pc + 3) ls (.int r :: rest))) : W p l e R s m args below meth c H locs cells slots Q (F0 m pc ls st0) := by
  have hF := gB_free (cb := cb) hD hS hA hC
  have hDc := gB_subD (cb := cb) hD hC hn1
  refine va_calli (va_runS (As := As) (rest := rest) S (hM H.size) cw ⟨gPre_blind, fun U hU hW => ⟨rfl, by rw [hU], by rw [hU]; exact gB_sub hP hC, va_K.moved hW.alike hK, hDc, by rw [hU]; exact hG.call hS hF hW.alike⟩⟩ rfl hn hl.1 hst (lv_room hW) hdg ⟨hcl, hsl⟩) hS (fun q _ h => hF q h) hF (fun r0 u t H1 locs1 ht hvm hw hB hz1 hk1 hS1 => ?_)
  have hw : r0 = rv res := hw
  rw [ht] at hB
  rw [hw, hr]
  exact kk H1 locs1 (gB_after hP hD hC hset hlen hk1 hB) (gB_same hD hsame) hS1
theorem g_callSBl {rv : RT → Int64} {r : Int64} (S : CallFix p m c cc nL s args Ts own) (hM : gML E l y wy rm As cb.flatten (fun z => (B1 z).flatten) rv res) (cw : CallB R s args own index y bytes maxL ret wy rm 0 0 n ∧ (Cond.static y).before args s = true)
    (hK : va_K E.1 vwCl (gT E) s) (hP : va_P E.1 vwCl bs.flatten H) (hD : va_D A bs.flatten) (hS : va_S A s.heap H locs) (hA : ∀ q, s.heap.size ≤ q → A q) (hG : gSt E A s s.heap) (hl : lv_has ls nL lv) (isB : List Nat) (hn1 : va_nd isB = true) (hC : isB.map (fun i => bs[i]?) = cb.map some)
    (hset : gset bs isB (B1 res) = bs1) (hlen : (B1 res).length = cb.length) (hsame : bs1.map (fun b => b.map (·.1)) = bs.map (fun b => b.map (·.1))) (hr : rv res = r) (hn : As.length = n) (hst : st0 = As.reverse ++ rest) (hW : (rest.map fun v => v.category).sum ≤ 8)
    (hdg : decode cc pc = .ok (.invokestatic index, 3)) (hcl : cells ≤ R.cells) (hsl : slots ≤ R.slots)
    (kk : ∀ (H1 : Heap) (locs1 : List Loc), va_P E.1 vwCl bs1.flatten H1 → va_D A bs1.flatten → va_S A s.heap H1 locs1 → W p l e R s m args below meth c H1 locs1 cells slots Q (F0 m (pc + 3) ls (.long r :: rest))) : W p l e R s m args below meth c H locs cells slots Q (F0 m pc ls st0) := by
  have hF := gB_free (cb := cb) hD hS hA hC
  have hDc := gB_subD (cb := cb) hD hC hn1
  refine va_calll (va_runS (As := As) (rest := rest) S (hM H.size) cw ⟨gPre_blind, fun U hU hW => ⟨rfl, by rw [hU], by rw [hU]; exact gB_sub hP hC, va_K.moved hW.alike hK, hDc, by rw [hU]; exact hG.call hS hF hW.alike⟩⟩ rfl hn hl.1 hst (lv_room hW) hdg ⟨hcl, hsl⟩) hS (fun q _ h => hF q h) hF (fun r0 u t H1 locs1 ht hvm hw hB hz1 hk1 hS1 => ?_)
  have hw : r0 = rv res := hw
  rw [ht] at hB
  rw [hw, hr]
  exact kk H1 locs1 (gB_after hP hD hC hset hlen hk1 hB) (gB_same hD hsame) hS1
/-- what a reader of the script's row asks: the row is there, below all that is new -/
def gXPre (av : List Value) (b L : Nat) (xs : Nat → Int32) (sz : Nat) : Array Value → State → Prop := va_Pc av (fun U => U.heap.size = sz ∧ va_X b L xs U U.heap ∧ b < U.heap.size)
theorem gXPre_blind {av : List Value} {b L : Nat} {xs : Nat → Int32} {sz : Nat} : FrameBlind (gXPre av b L xs sz) := fun a U g mk q => by
  obtain ⟨q0, q1, qX, qb⟩ := q
  exact ⟨q0, q1, va_X.moved (u := U) (U := U.calling g mk a) (Vm.Alike.refl U.vm) qX, qb⟩
def gMX (l : Launch) (y : MethodName) (wy : List Cond) (rm : Room) (av : List Value) (b L : Nat) (xs : Nat → Int32) (res : Int32) : Prop :=
  ∀ sz : Nat, Met l y wy rm (gXPre av b L xs sz) (va_Qi (fun r0 (_ : Unit) => r0 = res) (fun _ _ => True) (fun q => sz ≤ q)) 0 0 (fun q => sz ≤ q)
theorem g_callX {L : Nat} {xs : Nat → Int32} {r : Int32} {x : Nat} (S : CallFix p m c cc nL s args Ts own) (hM : gMX l y wy rm As x L xs r) (cw : CallB R s args own index y bytes maxL ret wy rm 0 0 n ∧ (Cond.static y).before args s = true)
    (hP : va_P E.1 vwCl ws H) (hD : va_D A ws) (hS : va_S A s.heap H locs) (hA : ∀ q, s.heap.size ≤ q → A q) (hX : va_X x L xs s s.heap) (hxl : x < s.heap.size) (hxA : ¬ A x) (hl : lv_has ls nL lv)
    (hn : As.length = n) (hst : st0 = As.reverse ++ rest) (hW : (rest.map fun v => v.category).sum ≤ 8)
    (hdg : decode cc pc = .ok (.invokestatic index, 3)) (hcl : cells ≤ R.cells) (hsl : slots ≤ R.slots)
    (kk : ∀ (H1 : Heap) (locs1 : List Loc), va_P E.1 vwCl ws H1 → va_D A ws → va_S A s.heap H1 locs1 → W p l e R s m args below meth c H1 locs1 cells slots Q (F0 m (pc + 3) ls (.int r :: rest))) : W p l e R s m args below meth c H locs cells slots Q (F0 m pc ls st0) := by
  have hF : ∀ q, H.size ≤ q → A q := fun q h => hA q (Nat.le_trans hS.1 h)
  refine va_calli (va_runS (As := As) (rest := rest) S (hM H.size) cw ⟨gXPre_blind, fun U hU hW => ⟨rfl, by rw [hU], va_X.moved hW.alike (by rw [hU]; exact hX.kept (hS.2.1 x hxl hxA)), by rw [hU]; exact Nat.lt_of_lt_of_le hxl hS.1⟩⟩ rfl hn hl.1 hst (lv_room hW) hdg ⟨hcl, hsl⟩) hS (fun q _ h => hF q h) hF (fun r0 u t H1 locs1 ht hvm hw hB hz1 hk1 hS1 => ?_)
  have hw : r0 = r := hw
  rw [hw]
  exact kk H1 locs1 (fun k q h => (hP k q h).kept (hk1 q.1 (hP k q h).lt (fun ha => absurd (hP k q h).lt (Nat.not_lt.mpr ha)))) hD hS1
end GC25
