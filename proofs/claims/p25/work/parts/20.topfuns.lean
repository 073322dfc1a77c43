abbrev HutS : Type := (Nat → Int32) × (Nat → Int32) × (Nat → Int32) × Int32 × (Nat → Int32) × (Nat → Int32) × (Nat → Int32) × Int32 × (Nat → Int32) × (Nat → Int32) × (Nat → Int32) × (Nat → Int32) × (Nat → Int32) × (Nat → Int32) × (Nat → Int32) × (Nat → Int32) × (Nat → Int32) × Int32 × (Nat → Int32) × (Nat → Int32) × Int32 × Int32 × Int32 × Int32 × Int32 × Int32
def wHuT (E : gE) (a : Nat → Nat) (x : HutS) : va_W := List.flatten [wHo E (a 0) (a 1) (a 11) (a 18) (a 19) x.2.2.2.2.2.2.2.2.2.2.2.2.2.2.2.2.2.2.2.2.1 x.2.2.2.2.2.2.2.2.2.2.2.2.2.2.2.2.2.2.2.2.2.1 x.2.2.2.2.2.2.2.2.2.2.2.2.2.2.2.2.2.2.2.2.2.2.1 x.2.2.2.2.2.2.2.2.2.2.2.2.2.2.2.2.2.2.2.2.2.2.2.1 x.2.2.2.2.2.2.2.2.2.2.2.2.2.2.2.2.2.2.2.2.2.2.2.2.1 x.2.2.2.2.2.2.2.2.2.2.2.2.2.2.2.2.2.2.2.2.2.2.2.2.2, wSt E (a 1) (a 2) (a 3) (a 4) (a 5) (a 6) (a 7) (a 8) (a 9) (a 10) x.1 x.2.1 x.2.2.1 x.2.2.2.1 x.2.2.2.2.1 x.2.2.2.2.2.1 x.2.2.2.2.2.2.1 x.2.2.2.2.2.2.2.1 x.2.2.2.2.2.2.2.2.1 x.2.2.2.2.2.2.2.2.2.1 x.2.2.2.2.2.2.2.2.2.2.1, wPa E (a 11) (a 12) (a 13) (a 14) (a 15) (a 16) (a 17) x.2.2.2.2.2.2.2.2.2.2.2.1 x.2.2.2.2.2.2.2.2.2.2.2.2.1 x.2.2.2.2.2.2.2.2.2.2.2.2.2.1 x.2.2.2.2.2.2.2.2.2.2.2.2.2.2.1 x.2.2.2.2.2.2.2.2.2.2.2.2.2.2.2.1 x.2.2.2.2.2.2.2.2.2.2.2.2.2.2.2.2.1 x.2.2.2.2.2.2.2.2.2.2.2.2.2.2.2.2.2.1, wH8 E (a 18) x.2.2.2.2.2.2.2.2.2.2.2.2.2.2.2.2.2.2.1, wH9 E (a 19) x.2.2.2.2.2.2.2.2.2.2.2.2.2.2.2.2.2.2.2.1]
def wHa (E : gE) (q1 : Nat) (ba : Nat → Nat → Nat) (pm : Nat → Nat) : va_W := [(q1, .inl (E.2.2.2.2.1, 5, .inr (.inr (.inr (.inr (fun i => some (ba (pm i) 0)))))))]
theorem gH_up {ba : Nat → Nat → Nat} {pm : Nat → Nat} {k j : Nat} : va_up (fun i => some (ba (pm i) 0)) k (some (ba j 0)) = fun i => some (ba (va_up pm k j i) 0) := by
  funext i
  unfold va_up
  split <;> rfl
theorem gH_five {P : Nat → Prop} {j : Nat} (hj : Nat.blt j 5 = true) (h : P 0 ∧ P 1 ∧ P 2 ∧ P 3 ∧ P 4) : P j := by
  have hj : j < 5 := Nat.le_of_ble_eq_true hj
  match j, hj with
  | 0, _ => exact h.1
  | 1, _ => exact h.2.1
  | 2, _ => exact h.2.2.1
  | 3, _ => exact h.2.2.2.1
  | 4, _ => exact h.2.2.2.2
section GAQ
variable {p : Program} {l : Launch} {e : Env} {R : Room} {s : State} {m : MethodId} {args : Array Value} {below : List Frame} {meth : Method} {c : Code} {H : Heap} {locs : List Loc} {cells slots : Nat} {Q : State → Prop} {cc : ByteArray} {pc : Nat} {ls : Array Slot} {rest : List Value} {E : gE} {ws : va_W} {a : Nat}
theorem g_aldH (hexec : p.tables.exec = Jvm.exec) (hb : c.code = cc) (hK : va_K E.1 vwCl (gT E) s) (hP : va_P E.1 vwCl ws H) (q0 t0 : Nat) {cA : ClassId} {C : String} {n : Nat} {f : Nat → Option Nat} (ha : ws[q0]? = some (a, .inl (cA, n, .inr (.inr (.inr (.inr f)))))) (ht : (gT E)[t0]? = some (cA, .object C)) {i : Int32} (hin : vp_in i n) {v : Nat} (hv : f i.toNatClampNeg = some v) (hdg : decode cc pc = .ok (.aaload, 1))
    (kk : W p l e R s m args below meth c H locs cells slots Q (F0 m (pc + 1) ls (.ref v :: rest))) : W p l e R s m args below meth c H locs cells slots Q (F0 m pc ls (.int i :: .ref a :: rest)) := by
  refine va_aldq hexec hb hK hP q0 t0 ha ht hin hdg ?_
  rw [hv]
  exact kk
end GAQ
def gX1_copyFrom (x : HutS) (y : HutS)  : Option (HutS) :=
  bd26 (fX1_copyFrom y.1 y.2.1 y.2.2.1 y.2.2.2.1 y.2.2.2.2.1 y.2.2.2.2.2.1 y.2.2.2.2.2.2.1 y.2.2.2.2.2.2.2.1 y.2.2.2.2.2.2.2.2.1 y.2.2.2.2.2.2.2.2.2.1 y.2.2.2.2.2.2.2.2.2.2.1 y.2.2.2.2.2.2.2.2.2.2.2.1 y.2.2.2.2.2.2.2.2.2.2.2.2.1 y.2.2.2.2.2.2.2.2.2.2.2.2.2.1 y.2.2.2.2.2.2.2.2.2.2.2.2.2.2.1 y.2.2.2.2.2.2.2.2.2.2.2.2.2.2.2.1 y.2.2.2.2.2.2.2.2.2.2.2.2.2.2.2.2.1 y.2.2.2.2.2.2.2.2.2.2.2.2.2.2.2.2.2.1 y.2.2.2.2.2.2.2.2.2.2.2.2.2.2.2.2.2.2.1 y.2.2.2.2.2.2.2.2.2.2.2.2.2.2.2.2.2.2.2.1 y.2.2.2.2.2.2.2.2.2.2.2.2.2.2.2.2.2.2.2.2.1 y.2.2.2.2.2.2.2.2.2.2.2.2.2.2.2.2.2.2.2.2.2.1 y.2.2.2.2.2.2.2.2.2.2.2.2.2.2.2.2.2.2.2.2.2.2.1 y.2.2.2.2.2.2.2.2.2.2.2.2.2.2.2.2.2.2.2.2.2.2.2.1 y.2.2.2.2.2.2.2.2.2.2.2.2.2.2.2.2.2.2.2.2.2.2.2.2.1 y.2.2.2.2.2.2.2.2.2.2.2.2.2.2.2.2.2.2.2.2.2.2.2.2.2) fun m0 m1 m2 m3 m4 m5 m6 m7 m8 m9 m10 m11 m12 m13 m14 m15 m16 m17 m18 m19 m20 m21 m22 m23 m24 m25 =>
  some (m0, m1, m2, m3, m4, m5, m6, m7, m8, m9, m10, m11, m12, m13, m14, m15, m16, m17, m18, m19, m20, m21, m22, m23, m24, m25)
def gX1_putOnPallet (x : HutS) (p1 : Int32) (p2 : Int32) (p3 : Int32) : Option (Int32 × HutS) :=
  bd5 (fX1_putOnPallet x.2.2.2.2.1 x.2.2.2.2.2.1 x.2.2.2.2.2.2.1 x.2.2.2.2.2.2.2.1 p1 p2 p3) fun r m0 m1 m2 m3 =>
  some (r, (x.1, x.2.1, x.2.2.1, x.2.2.2.1, m0, m1, m2, m3, x.2.2.2.2.2.2.2.2.1, x.2.2.2.2.2.2.2.2.2.1, x.2.2.2.2.2.2.2.2.2.2.1, x.2.2.2.2.2.2.2.2.2.2.2.1, x.2.2.2.2.2.2.2.2.2.2.2.2.1, x.2.2.2.2.2.2.2.2.2.2.2.2.2.1, x.2.2.2.2.2.2.2.2.2.2.2.2.2.2.1, x.2.2.2.2.2.2.2.2.2.2.2.2.2.2.2.1, x.2.2.2.2.2.2.2.2.2.2.2.2.2.2.2.2.1, x.2.2.2.2.2.2.2.2.2.2.2.2.2.2.2.2.2.1, x.2.2.2.2.2.2.2.2.2.2.2.2.2.2.2.2.2.2.1, x.2.2.2.2.2.2.2.2.2.2.2.2.2.2.2.2.2.2.2.1, x.2.2.2.2.2.2.2.2.2.2.2.2.2.2.2.2.2.2.2.2.1, x.2.2.2.2.2.2.2.2.2.2.2.2.2.2.2.2.2.2.2.2.2.1, x.2.2.2.2.2.2.2.2.2.2.2.2.2.2.2.2.2.2.2.2.2.2.1, x.2.2.2.2.2.2.2.2.2.2.2.2.2.2.2.2.2.2.2.2.2.2.2.1, x.2.2.2.2.2.2.2.2.2.2.2.2.2.2.2.2.2.2.2.2.2.2.2.2.1, x.2.2.2.2.2.2.2.2.2.2.2.2.2.2.2.2.2.2.2.2.2.2.2.2.2))
def gX1_bringPallet (x : HutS)  : Option (Int32 × HutS) :=
  bd8 (fX1_bringPallet x.1 x.2.1 x.2.2.1 x.2.2.2.1 x.2.2.2.2.1 x.2.2.2.2.2.1 x.2.2.2.2.2.2.1 x.2.2.2.2.2.2.2.1 x.2.2.2.2.2.2.2.2.1 x.2.2.2.2.2.2.2.2.2.2.2.2.2.2.2.2.2.2.1 x.2.2.2.2.2.2.2.2.2.2.2.2.2.2.2.2.2.2.2.1 x.2.2.2.2.2.2.2.2.2.2.2.2.2.2.2.2.2.2.2.2.1 x.2.2.2.2.2.2.2.2.2.2.2.2.2.2.2.2.2.2.2.2.2.1) fun r m0 m1 m2 m3 m4 m5 m6 =>
  some (r, (m0, m1, m2, m3, x.2.2.2.2.1, x.2.2.2.2.2.1, x.2.2.2.2.2.2.1, m4, m5, x.2.2.2.2.2.2.2.2.2.1, x.2.2.2.2.2.2.2.2.2.2.1, x.2.2.2.2.2.2.2.2.2.2.2.1, x.2.2.2.2.2.2.2.2.2.2.2.2.1, x.2.2.2.2.2.2.2.2.2.2.2.2.2.1, x.2.2.2.2.2.2.2.2.2.2.2.2.2.2.1, x.2.2.2.2.2.2.2.2.2.2.2.2.2.2.2.1, x.2.2.2.2.2.2.2.2.2.2.2.2.2.2.2.2.1, x.2.2.2.2.2.2.2.2.2.2.2.2.2.2.2.2.2.1, x.2.2.2.2.2.2.2.2.2.2.2.2.2.2.2.2.2.2.1, x.2.2.2.2.2.2.2.2.2.2.2.2.2.2.2.2.2.2.2.1, x.2.2.2.2.2.2.2.2.2.2.2.2.2.2.2.2.2.2.2.2.1, m6, x.2.2.2.2.2.2.2.2.2.2.2.2.2.2.2.2.2.2.2.2.2.2.1, x.2.2.2.2.2.2.2.2.2.2.2.2.2.2.2.2.2.2.2.2.2.2.2.1, x.2.2.2.2.2.2.2.2.2.2.2.2.2.2.2.2.2.2.2.2.2.2.2.2.1, x.2.2.2.2.2.2.2.2.2.2.2.2.2.2.2.2.2.2.2.2.2.2.2.2.2))
def gX1_takeBooking (x : HutS) (y : HutS) (p1 : Int32) (p2 : Int32) (p3 : Int32) : Option (Int32 × HutS × HutS) :=
  bd34 (fX1_takeBooking x.1 x.2.1 x.2.2.1 x.2.2.2.1 x.2.2.2.2.1 x.2.2.2.2.2.1 x.2.2.2.2.2.2.1 x.2.2.2.2.2.2.2.1 x.2.2.2.2.2.2.2.2.1 x.2.2.2.2.2.2.2.2.2.1 x.2.2.2.2.2.2.2.2.2.2.1 x.2.2.2.2.2.2.2.2.2.2.2.1 x.2.2.2.2.2.2.2.2.2.2.2.2.1 x.2.2.2.2.2.2.2.2.2.2.2.2.2.1 x.2.2.2.2.2.2.2.2.2.2.2.2.2.2.1 x.2.2.2.2.2.2.2.2.2.2.2.2.2.2.2.1 x.2.2.2.2.2.2.2.2.2.2.2.2.2.2.2.2.1 x.2.2.2.2.2.2.2.2.2.2.2.2.2.2.2.2.2.1 x.2.2.2.2.2.2.2.2.2.2.2.2.2.2.2.2.2.2.1 x.2.2.2.2.2.2.2.2.2.2.2.2.2.2.2.2.2.2.2.1 x.2.2.2.2.2.2.2.2.2.2.2.2.2.2.2.2.2.2.2.2.1 x.2.2.2.2.2.2.2.2.2.2.2.2.2.2.2.2.2.2.2.2.2.1 x.2.2.2.2.2.2.2.2.2.2.2.2.2.2.2.2.2.2.2.2.2.2.1 x.2.2.2.2.2.2.2.2.2.2.2.2.2.2.2.2.2.2.2.2.2.2.2.1 x.2.2.2.2.2.2.2.2.2.2.2.2.2.2.2.2.2.2.2.2.2.2.2.2.1 x.2.2.2.2.2.2.2.2.2.2.2.2.2.2.2.2.2.2.2.2.2.2.2.2.2 y.1 y.2.1 y.2.2.1 y.2.2.2.1 y.2.2.2.2.1 y.2.2.2.2.2.1 y.2.2.2.2.2.2.1 y.2.2.2.2.2.2.2.1 y.2.2.2.2.2.2.2.2.1 y.2.2.2.2.2.2.2.2.2.1 y.2.2.2.2.2.2.2.2.2.2.1 y.2.2.2.2.2.2.2.2.2.2.2.1 y.2.2.2.2.2.2.2.2.2.2.2.2.1 y.2.2.2.2.2.2.2.2.2.2.2.2.2.1 y.2.2.2.2.2.2.2.2.2.2.2.2.2.2.1 y.2.2.2.2.2.2.2.2.2.2.2.2.2.2.2.1 y.2.2.2.2.2.2.2.2.2.2.2.2.2.2.2.2.1 y.2.2.2.2.2.2.2.2.2.2.2.2.2.2.2.2.2.1 y.2.2.2.2.2.2.2.2.2.2.2.2.2.2.2.2.2.2.1 y.2.2.2.2.2.2.2.2.2.2.2.2.2.2.2.2.2.2.2.1 y.2.2.2.2.2.2.2.2.2.2.2.2.2.2.2.2.2.2.2.2.1 y.2.2.2.2.2.2.2.2.2.2.2.2.2.2.2.2.2.2.2.2.2.1 y.2.2.2.2.2.2.2.2.2.2.2.2.2.2.2.2.2.2.2.2.2.2.1 y.2.2.2.2.2.2.2.2.2.2.2.2.2.2.2.2.2.2.2.2.2.2.2.1 y.2.2.2.2.2.2.2.2.2.2.2.2.2.2.2.2.2.2.2.2.2.2.2.2.1 y.2.2.2.2.2.2.2.2.2.2.2.2.2.2.2.2.2.2.2.2.2.2.2.2.2 p1 p2 p3) fun r m0 m1 m2 m3 m4 m5 m6 m7 m8 m9 m10 m11 m12 m13 m14 m15 m16 m17 m18 m19 m20 m21 m22 m23 m24 m25 m26 m27 m28 m29 m30 m31 m32 =>
  some (r, (x.1, x.2.1, x.2.2.1, x.2.2.2.1, x.2.2.2.2.1, x.2.2.2.2.2.1, x.2.2.2.2.2.2.1, x.2.2.2.2.2.2.2.1, x.2.2.2.2.2.2.2.2.1, x.2.2.2.2.2.2.2.2.2.1, x.2.2.2.2.2.2.2.2.2.2.1, m0, m1, m2, m3, m4, m5, m6, x.2.2.2.2.2.2.2.2.2.2.2.2.2.2.2.2.2.2.1, x.2.2.2.2.2.2.2.2.2.2.2.2.2.2.2.2.2.2.2.1, x.2.2.2.2.2.2.2.2.2.2.2.2.2.2.2.2.2.2.2.2.1, x.2.2.2.2.2.2.2.2.2.2.2.2.2.2.2.2.2.2.2.2.2.1, x.2.2.2.2.2.2.2.2.2.2.2.2.2.2.2.2.2.2.2.2.2.2.1, x.2.2.2.2.2.2.2.2.2.2.2.2.2.2.2.2.2.2.2.2.2.2.2.1, x.2.2.2.2.2.2.2.2.2.2.2.2.2.2.2.2.2.2.2.2.2.2.2.2.1, x.2.2.2.2.2.2.2.2.2.2.2.2.2.2.2.2.2.2.2.2.2.2.2.2.2), (m7, m8, m9, m10, m11, m12, m13, m14, m15, m16, m17, m18, m19, m20, m21, m22, m23, m24, m25, m26, m27, m28, m29, m30, m31, m32))
def gX1_wouldSuffice (x : HutS) (p1 : Int32) (p2 : Int32) (p3 : Int32) : Option (Int32 × HutS) :=
  bd19 (fX1_wouldSuffice x.1 x.2.1 x.2.2.1 x.2.2.2.1 x.2.2.2.2.2.2.2.2.2.1 x.2.2.2.2.2.2.2.2.2.2.1 x.2.2.2.2.2.2.2.2.2.2.2.1 x.2.2.2.2.2.2.2.2.2.2.2.2.1 x.2.2.2.2.2.2.2.2.2.2.2.2.2.1 x.2.2.2.2.2.2.2.2.2.2.2.2.2.2.1 x.2.2.2.2.2.2.2.2.2.2.2.2.2.2.2.1 x.2.2.2.2.2.2.2.2.2.2.2.2.2.2.2.2.1 x.2.2.2.2.2.2.2.2.2.2.2.2.2.2.2.2.2.1 x.2.2.2.2.2.2.2.2.2.2.2.2.2.2.2.2.2.2.1 x.2.2.2.2.2.2.2.2.2.2.2.2.2.2.2.2.2.2.2.1 x.2.2.2.2.2.2.2.2.2.2.2.2.2.2.2.2.2.2.2.2.1 x.2.2.2.2.2.2.2.2.2.2.2.2.2.2.2.2.2.2.2.2.2.2.1 x.2.2.2.2.2.2.2.2.2.2.2.2.2.2.2.2.2.2.2.2.2.2.2.1 x.2.2.2.2.2.2.2.2.2.2.2.2.2.2.2.2.2.2.2.2.2.2.2.2.1 x.2.2.2.2.2.2.2.2.2.2.2.2.2.2.2.2.2.2.2.2.2.2.2.2.2 p1 p2 p3) fun r m0 m1 m2 m3 m4 m5 m6 m7 m8 m9 m10 m11 m12 m13 m14 m15 m16 m17 =>
  some (r, (m0, m1, m2, m3, x.2.2.2.2.1, x.2.2.2.2.2.1, x.2.2.2.2.2.2.1, x.2.2.2.2.2.2.2.1, x.2.2.2.2.2.2.2.2.1, m4, m5, m6, m7, m8, m9, m10, m11, m12, x.2.2.2.2.2.2.2.2.2.2.2.2.2.2.2.2.2.2.1, x.2.2.2.2.2.2.2.2.2.2.2.2.2.2.2.2.2.2.2.1, m13, x.2.2.2.2.2.2.2.2.2.2.2.2.2.2.2.2.2.2.2.2.2.1, m14, m15, m16, m17))
def gX1_callOff (x : HutS) (p1 : Int32) : Option (Int32 × HutS) :=
  bd2 (fX1_callOff x.2.2.2.2.2.2.2.2.2.2.2.2.2.2.1 x.2.2.2.2.2.2.2.2.2.2.2.2.2.2.2.2.2.1 p1) fun r m0 =>
  some (r, (x.1, x.2.1, x.2.2.1, x.2.2.2.1, x.2.2.2.2.1, x.2.2.2.2.2.1, x.2.2.2.2.2.2.1, x.2.2.2.2.2.2.2.1, x.2.2.2.2.2.2.2.2.1, x.2.2.2.2.2.2.2.2.2.1, x.2.2.2.2.2.2.2.2.2.2.1, x.2.2.2.2.2.2.2.2.2.2.2.1, x.2.2.2.2.2.2.2.2.2.2.2.2.1, x.2.2.2.2.2.2.2.2.2.2.2.2.2.1, m0, x.2.2.2.2.2.2.2.2.2.2.2.2.2.2.2.1, x.2.2.2.2.2.2.2.2.2.2.2.2.2.2.2.2.1, x.2.2.2.2.2.2.2.2.2.2.2.2.2.2.2.2.2.1, x.2.2.2.2.2.2.2.2.2.2.2.2.2.2.2.2.2.2.1, x.2.2.2.2.2.2.2.2.2.2.2.2.2.2.2.2.2.2.2.1, x.2.2.2.2.2.2.2.2.2.2.2.2.2.2.2.2.2.2.2.2.1, x.2.2.2.2.2.2.2.2.2.2.2.2.2.2.2.2.2.2.2.2.2.1, x.2.2.2.2.2.2.2.2.2.2.2.2.2.2.2.2.2.2.2.2.2.2.1, x.2.2.2.2.2.2.2.2.2.2.2.2.2.2.2.2.2.2.2.2.2.2.2.1, x.2.2.2.2.2.2.2.2.2.2.2.2.2.2.2.2.2.2.2.2.2.2.2.2.1, x.2.2.2.2.2.2.2.2.2.2.2.2.2.2.2.2.2.2.2.2.2.2.2.2.2))
def gX1_tellStorm (x : HutS) (p1 : Int32) (p2 : Int32) : Option (Int32 × HutS) :=
  bd2 (fX1_tellStorm x.2.2.2.2.2.2.2.2.2.2.2.2.2.2.2.2.2.2.1 x.2.2.2.2.2.2.2.2.2.2.2.2.2.2.2.2.2.2.2.2.1 p1 p2) fun r m0 =>
  some (r, (x.1, x.2.1, x.2.2.1, x.2.2.2.1, x.2.2.2.2.1, x.2.2.2.2.2.1, x.2.2.2.2.2.2.1, x.2.2.2.2.2.2.2.1, x.2.2.2.2.2.2.2.2.1, x.2.2.2.2.2.2.2.2.2.1, x.2.2.2.2.2.2.2.2.2.2.1, x.2.2.2.2.2.2.2.2.2.2.2.1, x.2.2.2.2.2.2.2.2.2.2.2.2.1, x.2.2.2.2.2.2.2.2.2.2.2.2.2.1, x.2.2.2.2.2.2.2.2.2.2.2.2.2.2.1, x.2.2.2.2.2.2.2.2.2.2.2.2.2.2.2.1, x.2.2.2.2.2.2.2.2.2.2.2.2.2.2.2.2.1, x.2.2.2.2.2.2.2.2.2.2.2.2.2.2.2.2.2.1, m0, x.2.2.2.2.2.2.2.2.2.2.2.2.2.2.2.2.2.2.2.1, x.2.2.2.2.2.2.2.2.2.2.2.2.2.2.2.2.2.2.2.2.1, x.2.2.2.2.2.2.2.2.2.2.2.2.2.2.2.2.2.2.2.2.2.1, x.2.2.2.2.2.2.2.2.2.2.2.2.2.2.2.2.2.2.2.2.2.2.1, x.2.2.2.2.2.2.2.2.2.2.2.2.2.2.2.2.2.2.2.2.2.2.2.1, x.2.2.2.2.2.2.2.2.2.2.2.2.2.2.2.2.2.2.2.2.2.2.2.2.1, x.2.2.2.2.2.2.2.2.2.2.2.2.2.2.2.2.2.2.2.2.2.2.2.2.2))
def gX1_tellCalm (x : HutS) (p1 : Int32) : Option (Int32 × HutS) :=
  bd2 (fX1_tellCalm x.2.2.2.2.2.2.2.2.2.2.2.2.2.2.2.2.2.2.1 x.2.2.2.2.2.2.2.2.2.2.2.2.2.2.2.2.2.2.2.2.1 p1) fun r m0 =>
  some (r, (x.1, x.2.1, x.2.2.1, x.2.2.2.1, x.2.2.2.2.1, x.2.2.2.2.2.1, x.2.2.2.2.2.2.1, x.2.2.2.2.2.2.2.1, x.2.2.2.2.2.2.2.2.1, x.2.2.2.2.2.2.2.2.2.1, x.2.2.2.2.2.2.2.2.2.2.1, x.2.2.2.2.2.2.2.2.2.2.2.1, x.2.2.2.2.2.2.2.2.2.2.2.2.1, x.2.2.2.2.2.2.2.2.2.2.2.2.2.1, x.2.2.2.2.2.2.2.2.2.2.2.2.2.2.1, x.2.2.2.2.2.2.2.2.2.2.2.2.2.2.2.1, x.2.2.2.2.2.2.2.2.2.2.2.2.2.2.2.2.1, x.2.2.2.2.2.2.2.2.2.2.2.2.2.2.2.2.2.1, m0, x.2.2.2.2.2.2.2.2.2.2.2.2.2.2.2.2.2.2.2.1, x.2.2.2.2.2.2.2.2.2.2.2.2.2.2.2.2.2.2.2.2.1, x.2.2.2.2.2.2.2.2.2.2.2.2.2.2.2.2.2.2.2.2.2.1, x.2.2.2.2.2.2.2.2.2.2.2.2.2.2.2.2.2.2.2.2.2.2.1, x.2.2.2.2.2.2.2.2.2.2.2.2.2.2.2.2.2.2.2.2.2.2.2.1, x.2.2.2.2.2.2.2.2.2.2.2.2.2.2.2.2.2.2.2.2.2.2.2.2.1, x.2.2.2.2.2.2.2.2.2.2.2.2.2.2.2.2.2.2.2.2.2.2.2.2.2))
def gX1_passNights (x : HutS) (p1 : Int32) : Option (Int32 × HutS) :=
  bd15 (fX1_passNights x.1 x.2.1 x.2.2.1 x.2.2.2.1 x.2.2.2.2.2.2.2.2.2.1 x.2.2.2.2.2.2.2.2.2.2.1 x.2.2.2.2.2.2.2.2.2.2.2.1 x.2.2.2.2.2.2.2.2.2.2.2.2.1 x.2.2.2.2.2.2.2.2.2.2.2.2.2.1 x.2.2.2.2.2.2.2.2.2.2.2.2.2.2.1 x.2.2.2.2.2.2.2.2.2.2.2.2.2.2.2.1 x.2.2.2.2.2.2.2.2.2.2.2.2.2.2.2.2.1 x.2.2.2.2.2.2.2.2.2.2.2.2.2.2.2.2.2.1 x.2.2.2.2.2.2.2.2.2.2.2.2.2.2.2.2.2.2.1 x.2.2.2.2.2.2.2.2.2.2.2.2.2.2.2.2.2.2.2.1 x.2.2.2.2.2.2.2.2.2.2.2.2.2.2.2.2.2.2.2.2.1 x.2.2.2.2.2.2.2.2.2.2.2.2.2.2.2.2.2.2.2.2.2.2.1 x.2.2.2.2.2.2.2.2.2.2.2.2.2.2.2.2.2.2.2.2.2.2.2.1 x.2.2.2.2.2.2.2.2.2.2.2.2.2.2.2.2.2.2.2.2.2.2.2.2.1 x.2.2.2.2.2.2.2.2.2.2.2.2.2.2.2.2.2.2.2.2.2.2.2.2.2 p1) fun r m0 m1 m2 m3 m4 m5 m6 m7 m8 m9 m10 m11 m12 m13 =>
  some (r, (m0, m1, m2, m3, x.2.2.2.2.1, x.2.2.2.2.2.1, x.2.2.2.2.2.2.1, x.2.2.2.2.2.2.2.1, x.2.2.2.2.2.2.2.2.1, m4, m5, x.2.2.2.2.2.2.2.2.2.2.2.1, x.2.2.2.2.2.2.2.2.2.2.2.2.1, x.2.2.2.2.2.2.2.2.2.2.2.2.2.1, m6, m7, m8, x.2.2.2.2.2.2.2.2.2.2.2.2.2.2.2.2.2.1, x.2.2.2.2.2.2.2.2.2.2.2.2.2.2.2.2.2.2.1, x.2.2.2.2.2.2.2.2.2.2.2.2.2.2.2.2.2.2.2.1, m9, x.2.2.2.2.2.2.2.2.2.2.2.2.2.2.2.2.2.2.2.2.2.1, m10, m11, m12, m13))
def gX1_changeSetting (x : HutS) (p1 : Int32) (p2 : Int32) : Option (Int32 × HutS) :=
  bd2 (fX1_changeSetting x.2.2.2.2.2.2.2.2.2.2.2.2.2.2.2.2.2.2.2.1 p1 p2) fun r m0 =>
  some (r, (x.1, x.2.1, x.2.2.1, x.2.2.2.1, x.2.2.2.2.1, x.2.2.2.2.2.1, x.2.2.2.2.2.2.1, x.2.2.2.2.2.2.2.1, x.2.2.2.2.2.2.2.2.1, x.2.2.2.2.2.2.2.2.2.1, x.2.2.2.2.2.2.2.2.2.2.1, x.2.2.2.2.2.2.2.2.2.2.2.1, x.2.2.2.2.2.2.2.2.2.2.2.2.1, x.2.2.2.2.2.2.2.2.2.2.2.2.2.1, x.2.2.2.2.2.2.2.2.2.2.2.2.2.2.1, x.2.2.2.2.2.2.2.2.2.2.2.2.2.2.2.1, x.2.2.2.2.2.2.2.2.2.2.2.2.2.2.2.2.1, x.2.2.2.2.2.2.2.2.2.2.2.2.2.2.2.2.2.1, x.2.2.2.2.2.2.2.2.2.2.2.2.2.2.2.2.2.2.1, m0, x.2.2.2.2.2.2.2.2.2.2.2.2.2.2.2.2.2.2.2.2.1, x.2.2.2.2.2.2.2.2.2.2.2.2.2.2.2.2.2.2.2.2.2.1, x.2.2.2.2.2.2.2.2.2.2.2.2.2.2.2.2.2.2.2.2.2.2.1, x.2.2.2.2.2.2.2.2.2.2.2.2.2.2.2.2.2.2.2.2.2.2.2.1, x.2.2.2.2.2.2.2.2.2.2.2.2.2.2.2.2.2.2.2.2.2.2.2.2.1, x.2.2.2.2.2.2.2.2.2.2.2.2.2.2.2.2.2.2.2.2.2.2.2.2.2))
def gX1_dayWhenGone (x : HutS) (p1 : Int32) : Option (Int32 × HutS) :=
  bd15 (fX1_dayWhenGone x.1 x.2.1 x.2.2.1 x.2.2.2.1 x.2.2.2.2.2.2.2.2.2.1 x.2.2.2.2.2.2.2.2.2.2.1 x.2.2.2.2.2.2.2.2.2.2.2.1 x.2.2.2.2.2.2.2.2.2.2.2.2.1 x.2.2.2.2.2.2.2.2.2.2.2.2.2.1 x.2.2.2.2.2.2.2.2.2.2.2.2.2.2.1 x.2.2.2.2.2.2.2.2.2.2.2.2.2.2.2.1 x.2.2.2.2.2.2.2.2.2.2.2.2.2.2.2.2.1 x.2.2.2.2.2.2.2.2.2.2.2.2.2.2.2.2.2.1 x.2.2.2.2.2.2.2.2.2.2.2.2.2.2.2.2.2.2.1 x.2.2.2.2.2.2.2.2.2.2.2.2.2.2.2.2.2.2.2.1 x.2.2.2.2.2.2.2.2.2.2.2.2.2.2.2.2.2.2.2.2.1 x.2.2.2.2.2.2.2.2.2.2.2.2.2.2.2.2.2.2.2.2.2.2.1 x.2.2.2.2.2.2.2.2.2.2.2.2.2.2.2.2.2.2.2.2.2.2.2.1 x.2.2.2.2.2.2.2.2.2.2.2.2.2.2.2.2.2.2.2.2.2.2.2.2.1 x.2.2.2.2.2.2.2.2.2.2.2.2.2.2.2.2.2.2.2.2.2.2.2.2.2 p1) fun r m0 m1 m2 m3 m4 m5 m6 m7 m8 m9 m10 m11 m12 m13 =>
  some (r, (m0, m1, m2, m3, x.2.2.2.2.1, x.2.2.2.2.2.1, x.2.2.2.2.2.2.1, x.2.2.2.2.2.2.2.1, x.2.2.2.2.2.2.2.2.1, m4, m5, x.2.2.2.2.2.2.2.2.2.2.2.1, x.2.2.2.2.2.2.2.2.2.2.2.2.1, x.2.2.2.2.2.2.2.2.2.2.2.2.2.1, m6, m7, m8, x.2.2.2.2.2.2.2.2.2.2.2.2.2.2.2.2.2.1, x.2.2.2.2.2.2.2.2.2.2.2.2.2.2.2.2.2.2.1, x.2.2.2.2.2.2.2.2.2.2.2.2.2.2.2.2.2.2.2.1, m9, x.2.2.2.2.2.2.2.2.2.2.2.2.2.2.2.2.2.2.2.2.2.1, m10, m11, m12, m13))
def gX1_dayWhenOut (x : HutS) (p1 : Int32) : Option (Int32 × HutS) :=
  bd15 (fX1_dayWhenOut x.1 x.2.1 x.2.2.1 x.2.2.2.1 x.2.2.2.2.2.2.2.2.2.1 x.2.2.2.2.2.2.2.2.2.2.1 x.2.2.2.2.2.2.2.2.2.2.2.1 x.2.2.2.2.2.2.2.2.2.2.2.2.1 x.2.2.2.2.2.2.2.2.2.2.2.2.2.1 x.2.2.2.2.2.2.2.2.2.2.2.2.2.2.1 x.2.2.2.2.2.2.2.2.2.2.2.2.2.2.2.1 x.2.2.2.2.2.2.2.2.2.2.2.2.2.2.2.2.1 x.2.2.2.2.2.2.2.2.2.2.2.2.2.2.2.2.2.1 x.2.2.2.2.2.2.2.2.2.2.2.2.2.2.2.2.2.2.1 x.2.2.2.2.2.2.2.2.2.2.2.2.2.2.2.2.2.2.2.1 x.2.2.2.2.2.2.2.2.2.2.2.2.2.2.2.2.2.2.2.2.1 x.2.2.2.2.2.2.2.2.2.2.2.2.2.2.2.2.2.2.2.2.2.2.1 x.2.2.2.2.2.2.2.2.2.2.2.2.2.2.2.2.2.2.2.2.2.2.2.1 x.2.2.2.2.2.2.2.2.2.2.2.2.2.2.2.2.2.2.2.2.2.2.2.2.1 x.2.2.2.2.2.2.2.2.2.2.2.2.2.2.2.2.2.2.2.2.2.2.2.2.2 p1) fun r m0 m1 m2 m3 m4 m5 m6 m7 m8 m9 m10 m11 m12 m13 =>
  some (r, (m0, m1, m2, m3, x.2.2.2.2.1, x.2.2.2.2.2.1, x.2.2.2.2.2.2.1, x.2.2.2.2.2.2.2.1, x.2.2.2.2.2.2.2.2.1, m4, m5, x.2.2.2.2.2.2.2.2.2.2.2.1, x.2.2.2.2.2.2.2.2.2.2.2.2.1, x.2.2.2.2.2.2.2.2.2.2.2.2.2.1, m6, m7, m8, x.2.2.2.2.2.2.2.2.2.2.2.2.2.2.2.2.2.1, x.2.2.2.2.2.2.2.2.2.2.2.2.2.2.2.2.2.2.1, x.2.2.2.2.2.2.2.2.2.2.2.2.2.2.2.2.2.2.2.1, m9, x.2.2.2.2.2.2.2.2.2.2.2.2.2.2.2.2.2.2.2.2.2.1, m10, m11, m12, m13))
def fX0_prepare (lnn : Int32) (pm : Nat → Nat) (h0 : HutS) (h1 : HutS) (h2 : HutS) (h3 : HutS) (h4 : HutS) (xn : HutS)  : Option (HutS × HutS × HutS × HutS × HutS) :=
  if lnn < 0 then
    some (h0, h1, h2, h3, h4)
  else
    if (4 : Int32) < lnn then
      some (h0, h1, h2, h3, h4)
    else
      gd (inB lnn 5) <|
      if (pm (lnn).toNatClampNeg) = 0 then
        bd1 (gX1_copyFrom h0 xn) fun h0_6 =>
        some (h0_6, h1, h2, h3, h4)
      else
      if (pm (lnn).toNatClampNeg) = 1 then
        bd1 (gX1_copyFrom h1 xn) fun h1_10 =>
        some (h0, h1_10, h2, h3, h4)
      else
      if (pm (lnn).toNatClampNeg) = 2 then
        bd1 (gX1_copyFrom h2 xn) fun h2_14 =>
        some (h0, h1, h2_14, h3, h4)
      else
      if (pm (lnn).toNatClampNeg) = 3 then
        bd1 (gX1_copyFrom h3 xn) fun h3_18 =>
        some (h0, h1, h2, h3_18, h4)
      else
      if (pm (lnn).toNatClampNeg) = 4 then
        bd1 (gX1_copyFrom h4 xn) fun h4_22 =>
        some (h0, h1, h2, h3, h4_22)
      else
        none
def sX0_commit_rec4 (pm : Nat → Nat) (rec4 : Int32 → (Nat → Nat) → Option (Int32 × (Nat → Nat))) (v5 : Int32) (pm6 : Nat → Nat) : Option (Int32 × (Nat → Nat)) :=
  if (4 : Int32) ≤ v5 then
    gd (inB (4 : Int32) 5) <|
    gd (Nat.blt (pm ((0 : Int32)).toNatClampNeg) 5) <|
    jl (va_up pm6 ((4 : Int32)).toNatClampNeg (pm ((0 : Int32)).toNatClampNeg)) fun pm10 =>
    some ((4 : Int32), pm10)
  else
    gd (inB (v5 + (1 : Int32)) 5) <|
    gd (inB v5 5) <|
    gd (Nat.blt (pm6 ((v5 + (1 : Int32))).toNatClampNeg) 5) <|
    jl (va_up pm6 (v5).toNatClampNeg (pm6 ((v5 + (1 : Int32))).toNatClampNeg)) fun pm14 =>
    jl (v5 + (1 : Int32)) fun v15 =>
    rec4 v15 pm14
def fX0_commit (lnn : Int32) (pm : Nat → Nat)  : Option (Int32 × (Nat → Nat)) :=
  jl (lnn + (1 : Int32)) fun v1 =>
  if (4 : Int32) < v1 then
    gd (inB (0 : Int32) 5) <|
    gl2 (sX0_commit_rec4 pm) gFU (0 : Int32) pm
  else
    some (v1, pm)
def fX0_takeBack (lnn : Int32) (pm : Nat → Nat) (h0 : HutS) (h1 : HutS) (h2 : HutS) (h3 : HutS) (h4 : HutS) (xn : HutS)  : Option (Int32 × HutS) :=
  if lnn < (1 : Int32) then
    some (lnn, xn)
  else
    if (4 : Int32) < lnn then
      some (lnn, xn)
    else
      gd (inB (lnn - (1 : Int32)) 5) <|
      if (pm ((lnn - (1 : Int32))).toNatClampNeg) = 0 then
        bd1 (gX1_copyFrom xn h0) fun xn_6 =>
        jl (lnn - (1 : Int32)) fun v8 =>
        some (v8, xn_6)
      else
      if (pm ((lnn - (1 : Int32))).toNatClampNeg) = 1 then
        bd1 (gX1_copyFrom xn h1) fun xn_11 =>
        jl (lnn - (1 : Int32)) fun v13 =>
        some (v13, xn_11)
      else
      if (pm ((lnn - (1 : Int32))).toNatClampNeg) = 2 then
        bd1 (gX1_copyFrom xn h2) fun xn_16 =>
        jl (lnn - (1 : Int32)) fun v18 =>
        some (v18, xn_16)
      else
      if (pm ((lnn - (1 : Int32))).toNatClampNeg) = 3 then
        bd1 (gX1_copyFrom xn h3) fun xn_21 =>
        jl (lnn - (1 : Int32)) fun v23 =>
        some (v23, xn_21)
      else
      if (pm ((lnn - (1 : Int32))).toNatClampNeg) = 4 then
        bd1 (gX1_copyFrom xn h4) fun xn_26 =>
        jl (lnn - (1 : Int32)) fun v28 =>
        some (v28, xn_26)
      else
        none
def fX3_obey (xr : HutS) (xw : HutS) (nu : Nat → Int32) (p1 : Int32) : Option (Int32 × HutS × HutS) :=
  if p1 = (98 : Int32) then
    gd (inB (0 : Int32) 3) <|
    gd (inB (1 : Int32) 3) <|
    gd (inB (2 : Int32) 3) <|
    bd3 (gX1_takeBooking xr xw (nu ((0 : Int32)).toNatClampNeg) (nu ((1 : Int32)).toNatClampNeg) (nu ((2 : Int32)).toNatClampNeg)) fun r10 xr_12 xw_14 =>
    some (r10, xr_12, xw_14)
  else
  if p1 = (102 : Int32) then
    bd2 (gX1_bringPallet xr) fun r16 xr_18 =>
    some (r16, xr_18, xw)
  else
  if p1 = (108 : Int32) then
    gd (inB (0 : Int32) 3) <|
    gd (inB (1 : Int32) 3) <|
    gd (inB (2 : Int32) 3) <|
    bd2 (gX1_putOnPallet xr (nu ((0 : Int32)).toNatClampNeg) (nu ((1 : Int32)).toNatClampNeg) (nu ((2 : Int32)).toNatClampNeg)) fun r23 xr_25 =>
    some (r23, xr_25, xw)
  else
  if p1 = (110 : Int32) then
    gd (inB (0 : Int32) 3) <|
    bd2 (gX1_passNights xr (nu ((0 : Int32)).toNatClampNeg)) fun r28 xr_30 =>
    some (r28, xr_30, xw)
  else
  if p1 = (115 : Int32) then
    gd (inB (0 : Int32) 3) <|
    gd (inB (1 : Int32) 3) <|
    bd2 (gX1_tellStorm xr (nu ((0 : Int32)).toNatClampNeg) (nu ((1 : Int32)).toNatClampNeg)) fun r34 xr_36 =>
    some (r34, xr_36, xw)
  else
  if p1 = (120 : Int32) then
    gd (inB (0 : Int32) 3) <|
    bd2 (gX1_callOff xr (nu ((0 : Int32)).toNatClampNeg)) fun r39 xr_41 =>
    some (r39, xr_41, xw)
  else
    some ((-1 : Int32), xr, xw)
def sX3_run_rec4 (ch : Nat → Int32) (tl : Int32) (rec4 : Int32 → Int32 → Int32 → HutS → HutS → (Nat → Int32) → Int32 → Int32 → Option (Int32 × Int32 × Int32 × Int32 × HutS × HutS × (Nat → Int32) × Int32 × Int32)) (v5 : Int32) (cmd6 : Int32) (pos7 : Int32) (xr8 : HutS) (xw9 : HutS) (nu10 : Nat → Int32) (le11 : Int32) (nx12 : Int32) : Option (Int32 × Int32 × Int32 × Int32 × HutS × HutS × (Nat → Int32) × Int32 × Int32) :=
  if (60 : Int32) ≤ v5 then
    some (cmd6, pos7, (0 : Int32), (0 : Int32), xr8, xw9, nu10, le11, nx12)
  else
    if tl ≤ pos7 then
      some (cmd6, pos7, (0 : Int32), (0 : Int32), xr8, xw9, nu10, le11, nx12)
    else
      bd4 (fX5_readCommand ch tl nu10 pos7) fun r15 nu16 le17 nx18 =>
      if r15 = 0 then
        some (cmd6, pos7, (1 : Int32), (0 : Int32), xr8, xw9, nu16, le17, nx18)
      else
        bd3 (fX3_obey xr8 xw9 nu16 le17) fun r21 xr_23 xw_25 =>
        if 0 ≤ r21 then
          jl (cmd6 + (1 : Int32)) fun v28 =>
          jl (v5 + (1 : Int32)) fun v29 =>
          rec4 v29 v28 nx18 xr_23 xw_25 nu16 le17 nx18
        else
          some (cmd6, pos7, (2 : Int32), r21, xr_23, xw_25, nu16, le17, nx18)
def fX3_run (xr : HutS) (xw : HutS) (ch : Nat → Int32) (tl : Int32) (nu : Nat → Int32) (le : Int32) (nx : Int32) (xn : HutS)  : Option (Int32 × Int32 × Int32 × Int32 × HutS × HutS × (Nat → Int32) × Int32 × Int32) :=
  bd1 (gX1_copyFrom xr xn) fun xr_2 =>
  gl8 (sX3_run_rec4 ch tl) gFU (0 : Int32) (0 : Int32) (0 : Int32) xr_2 xw nu le nx
def fX6_recorded (lnn : Int32) (pm : Nat → Nat) (p1 : Int32) : Option (Int32 × Int32 × (Nat → Nat)) :=
  if p1 < 0 then
    some (p1, lnn, pm)
  else
    bd2 (fX0_commit lnn pm) fun lnn_3 pm_5 =>
    some (p1, lnn_3, pm_5)
def fX6_book (lnn : Int32) (pm : Nat → Nat) (xn : HutS) (xt : HutS) (h0 : HutS) (h1 : HutS) (h2 : HutS) (h3 : HutS) (h4 : HutS) (p1 : Int32) (p2 : Int32) (p3 : Int32) : Option (Int32 × Int32 × (Nat → Nat) × HutS × HutS × HutS × HutS × HutS × HutS × HutS) :=
  bd5 (fX0_prepare lnn pm h0 h1 h2 h3 h4 xn) fun h0_2 h1_4 h2_6 h3_8 h4_10 =>
  bd3 (gX1_takeBooking xn xt p1 p2 p3) fun r12 xn_14 xt_16 =>
  bd3 (fX6_recorded lnn pm r12) fun r18 lnn_20 pm_22 =>
  some (r18, lnn_20, pm_22, xn_14, xt_16, h0_2, h1_4, h2_6, h3_8, h4_10)
def fX6_cancel (lnn : Int32) (pm : Nat → Nat) (xn : HutS) (h0 : HutS) (h1 : HutS) (h2 : HutS) (h3 : HutS) (h4 : HutS) (p1 : Int32) : Option (Int32 × Int32 × (Nat → Nat) × HutS × HutS × HutS × HutS × HutS × HutS) :=
  bd5 (fX0_prepare lnn pm h0 h1 h2 h3 h4 xn) fun h0_2 h1_4 h2_6 h3_8 h4_10 =>
  bd2 (gX1_callOff xn p1) fun r12 xn_14 =>
  bd3 (fX6_recorded lnn pm r12) fun r16 lnn_18 pm_20 =>
  some (r16, lnn_18, pm_20, xn_14, h0_2, h1_4, h2_6, h3_8, h4_10)
def fX6_clear (lnn : Int32) (pm : Nat → Nat) (xn : HutS) (h0 : HutS) (h1 : HutS) (h2 : HutS) (h3 : HutS) (h4 : HutS) (p1 : Int32) : Option (Int32 × Int32 × (Nat → Nat) × HutS × HutS × HutS × HutS × HutS × HutS) :=
  bd5 (fX0_prepare lnn pm h0 h1 h2 h3 h4 xn) fun h0_2 h1_4 h2_6 h3_8 h4_10 =>
  bd2 (gX1_tellCalm xn p1) fun r12 xn_14 =>
  bd3 (fX6_recorded lnn pm r12) fun r16 lnn_18 pm_20 =>
  some (r16, lnn_18, pm_20, xn_14, h0_2, h1_4, h2_6, h3_8, h4_10)
def fX6_clearText (tl : Int32)  : Option (Int32 × Int32) :=
  some (tl, (0 : Int32))
def fX6_count (ke : Int32) (lnn : Int32) (tl : Int32) (xn : HutS) (p1 : Int32) : Option (Int32) :=
  if p1 = (0 : Int32) then
    some xn.2.2.2.2.2.2.2.2.2.2.2.2.2.2.2.2.2.1
  else
  if p1 = (1 : Int32) then
    bd1 (fX2_withStatus xn.2.2.2.2.2.2.2.2.2.2.2.2.2.2.1 xn.2.2.2.2.2.2.2.2.2.2.2.2.2.2.2.2.2.1 (0 : Int32)) fun r16 =>
    some r16
  else
  if p1 = (2 : Int32) then
    bd1 (fX2_withStatus xn.2.2.2.2.2.2.2.2.2.2.2.2.2.2.1 xn.2.2.2.2.2.2.2.2.2.2.2.2.2.2.2.2.2.1 (1 : Int32)) fun r18 =>
    some r18
  else
  if p1 = (3 : Int32) then
    bd1 (fX2_guests xn.2.2.2.2.2.2.2.2.2.2.2.1 xn.2.2.2.2.2.2.2.2.2.2.2.2.2.2.1 xn.2.2.2.2.2.2.2.2.2.2.2.2.2.2.2.2.2.1) fun r20 =>
    some r20
  else
  if p1 = (4 : Int32) then
    some xn.2.2.2.2.2.2.2.2.2.2.2.2.2.2.2.2.2.2.2.2.1
  else
  if p1 = (5 : Int32) then
    bd1 (fX1_isStorm xn.2.2.2.2.2.2.2.2.2.2.2.2.2.2.2.2.2.2.1 xn.2.2.2.2.2.2.2.2.2.2.2.2.2.2.2.2.2.2.2.2.1) fun r22 =>
    if r22 = 0 then
      some (0 : Int32)
    else
      some (1 : Int32)
  else
  if p1 = (6 : Int32) then
    some xn.2.2.2.2.2.2.2.2.2.2.2.2.2.2.2.2.2.2.2.2.2.1
  else
  if p1 = (7 : Int32) then
    some xn.2.2.2.2.2.2.2.1
  else
  if p1 = (8 : Int32) then
    some xn.2.2.2.2.2.2.2.2.2.2.2.2.2.2.2.2.2.2.2.2.2.2.1
  else
  if p1 = (9 : Int32) then
    some xn.2.2.2.2.2.2.2.2.2.2.2.2.2.2.2.2.2.2.2.2.2.2.2.1
  else
  if p1 = (10 : Int32) then
    some xn.2.2.2.2.2.2.2.2.2.2.2.2.2.2.2.2.2.2.2.2.2.2.2.2.1
  else
  if p1 = (11 : Int32) then
    some xn.2.2.2.2.2.2.2.2.2.2.2.2.2.2.2.2.2.2.2.2.2.2.2.2.2
  else
  if p1 = (12 : Int32) then
    some lnn
  else
  if p1 = (13 : Int32) then
    some tl
  else
  if p1 = (14 : Int32) then
    if ke = 0 then
      some (0 : Int32)
    else
      some (1 : Int32)
  else
    bd1 (fX1_settingAt xn.2.2.2.2.2.2.2.2.2.2.2.2.2.2.2.2.2.2.2.1 (p1 - (20 : Int32))) fun r26 =>
    some r26
def fX6_fault (ch : Nat → Int32) (tl : Int32) (nu : Nat → Int32) (le : Int32) (nx : Int32) (cmd : Int32) (pos : Int32) (rea : Int32) (cau : Int32) (xn : HutS) (xr : HutS) (xw : HutS) (p1 : Int32) : Option (Int32 × (Nat → Int32) × Int32 × Int32 × Int32 × Int32 × Int32 × Int32 × HutS × HutS) :=
  if p1 < 0 then
    some ((-1 : Int32), nu, le, nx, cmd, pos, rea, cau, xr, xw)
  else
    if p1 ≤ (2 : Int32) then
      bd9 (fX3_run xr xw ch tl nu le nx xn) fun cmd_4 pos_6 rea_8 cau_10 xr_12 xw_14 nu_16 le_18 nx_20 =>
      if rea_8 = 0 then
        some ((-4 : Int32), nu_16, le_18, nx_20, cmd_4, pos_6, rea_8, cau_10, xr_12, xw_14)
      else
        if p1 = 0 then
          some (pos_6, nu_16, le_18, nx_20, cmd_4, pos_6, rea_8, cau_10, xr_12, xw_14)
        else
          if p1 = (1 : Int32) then
            some (rea_8, nu_16, le_18, nx_20, cmd_4, pos_6, rea_8, cau_10, xr_12, xw_14)
          else
            if rea_8 = (1 : Int32) then
              some ((-4 : Int32), nu_16, le_18, nx_20, cmd_4, pos_6, rea_8, cau_10, xr_12, xw_14)
            else
              some (cau_10, nu_16, le_18, nx_20, cmd_4, pos_6, rea_8, cau_10, xr_12, xw_14)
    else
      some ((-1 : Int32), nu, le, nx, cmd, pos, rea, cau, xr, xw)
def fX6_fly (lnn : Int32) (pm : Nat → Nat) (xn : HutS) (h0 : HutS) (h1 : HutS) (h2 : HutS) (h3 : HutS) (h4 : HutS)  : Option (Int32 × Int32 × (Nat → Nat) × HutS × HutS × HutS × HutS × HutS × HutS) :=
  bd5 (fX0_prepare lnn pm h0 h1 h2 h3 h4 xn) fun h0_2 h1_4 h2_6 h3_8 h4_10 =>
  bd2 (gX1_bringPallet xn) fun r12 xn_14 =>
  bd3 (fX6_recorded lnn pm r12) fun r16 lnn_18 pm_20 =>
  some (r16, lnn_18, pm_20, xn_14, h0_2, h1_4, h2_6, h3_8, h4_10)
def fX6_goneOn (xn : HutS) (xt : HutS) (p1 : Int32) : Option (Int32 × HutS) :=
  bd1 (fX2_has xn.2.2.2.2.2.2.2.2.2.2.2.2.2.2.2.2.2.1 p1) fun r1 =>
  if r1 = 0 then
    some ((-1 : Int32), xt)
  else
    bd1 (fX2_isAwaited xn.2.2.2.2.2.2.2.2.2.2.2.2.2.2.1 xn.2.2.2.2.2.2.2.2.2.2.2.2.2.2.2.2.2.1 p1) fun r4 =>
    if r4 = 0 then
      some ((-2 : Int32), xt)
    else
      bd1 (gX1_copyFrom xt xn) fun xt_8 =>
      bd2 (gX1_dayWhenGone xt_8 p1) fun r10 xt_12 =>
      some (r10, xt_12)
def fX6_keep (xn : HutS) (xp : HutS)  : Option (Int32 × Int32 × HutS) :=
  bd1 (gX1_copyFrom xp xn) fun xp_2 =>
  some (xn.2.2.2.2.2.2.2.2.2.2.2.2.2.2.2.2.2.2.2.2.1, (1 : Int32), xp_2)
def fX6_load (lnn : Int32) (pm : Nat → Nat) (xn : HutS) (h0 : HutS) (h1 : HutS) (h2 : HutS) (h3 : HutS) (h4 : HutS) (p1 : Int32) (p2 : Int32) (p3 : Int32) : Option (Int32 × Int32 × (Nat → Nat) × HutS × HutS × HutS × HutS × HutS × HutS) :=
  bd5 (fX0_prepare lnn pm h0 h1 h2 h3 h4 xn) fun h0_2 h1_4 h2_6 h3_8 h4_10 =>
  bd2 (gX1_putOnPallet xn p1 p2 p3) fun r12 xn_14 =>
  bd3 (fX6_recorded lnn pm r12) fun r16 lnn_18 pm_20 =>
  some (r16, lnn_18, pm_20, xn_14, h0_2, h1_4, h2_6, h3_8, h4_10)
def fX6_lotOf (xn : HutS) (p1 : Int32) (p2 : Int32) (p3 : Int32) : Option (Int32) :=
  bd1 (fX4_isKind p1) fun r1 =>
  if r1 = 0 then
    some (-1 : Int32)
  else
    if p3 < 0 then
      some (-1 : Int32)
    else
      if (1 : Int32) < p3 then
        some (-1 : Int32)
      else
        if 0 ≤ p2 then
          bd1 (fX4_find xn.1 xn.2.2.2.1 p1 p2) fun r7 =>
          if 0 ≤ r7 then
            if p3 = 0 then
              gd (inB r7 20) <|
              some (xn.2.1 (r7).toNatClampNeg)
            else
              gd (inB r7 20) <|
              some (xn.2.2.1 (r7).toNatClampNeg)
          else
            some (-4 : Int32)
        else
          some (-1 : Int32)
def sX6_most_rec5 (xn : HutS) (p1 : Int32) (p2 : Int32) (rec5 : Int32 → HutS → Option (Int32 × HutS)) (v6 : Int32) (xt7 : HutS) : Option (Int32 × HutS) :=
  if v6 < (1 : Int32) then
    some ((0 : Int32), xt7)
  else
    bd1 (gX1_copyFrom xt7 xn) fun xt_10 =>
    bd2 (gX1_wouldSuffice xt_10 v6 p1 p2) fun r12 xt_14 =>
    if r12 = 0 then
      jl (v6 + (-1 : Int32)) fun v17 =>
      rec5 v17 xt_14
    else
      some (v6, xt_14)
def fX6_most (xn : HutS) (xt : HutS) (p1 : Int32) (p2 : Int32) : Option (Int32 × HutS) :=
  bd1 (fX1_mayBeBooked xn.2.2.2.2.2.2.2.2.2.2.2.2.2.2.2.2.2.2.2.2.1 (1 : Int32) p1 p2) fun r1 =>
  if r1 = 0 then
    some ((-1 : Int32), xt)
  else
    if xn.2.2.2.2.2.2.2.2.2.2.2.2.2.2.2.2.2.1 < (16 : Int32) then
      gl2 (sX6_most_rec5 xn p1 p2) gFU (6 : Int32) xt
    else
      some ((-3 : Int32), xt)
def fX6_outOn (xn : HutS) (xt : HutS) (p1 : Int32) : Option (Int32 × HutS) :=
  bd1 (fX4_isKind p1) fun r1 =>
  if r1 = 0 then
    some ((-1 : Int32), xt)
  else
    bd1 (gX1_copyFrom xt xn) fun xt_5 =>
    bd2 (gX1_dayWhenOut xt_5 p1) fun r7 xt_9 =>
    some (r7, xt_9)
def fX6_partyOf (xn : HutS) (p1 : Int32) (p2 : Int32) : Option (Int32) :=
  bd1 (fX2_has xn.2.2.2.2.2.2.2.2.2.2.2.2.2.2.2.2.2.1 p1) fun r1 =>
  if r1 = 0 then
    some (-1 : Int32)
  else
    if p2 = (0 : Int32) then
      gd (inB p1 17) <|
      some (xn.2.2.2.2.2.2.2.2.2.2.2.1 (p1).toNatClampNeg)
    else
    if p2 = (1 : Int32) then
      gd (inB p1 17) <|
      some (xn.2.2.2.2.2.2.2.2.2.2.2.2.1 (p1).toNatClampNeg)
    else
    if p2 = (2 : Int32) then
      gd (inB p1 17) <|
      some (xn.2.2.2.2.2.2.2.2.2.2.2.2.2.1 (p1).toNatClampNeg)
    else
    if p2 = (3 : Int32) then
      gd (inB p1 17) <|
      some (xn.2.2.2.2.2.2.2.2.2.2.2.2.2.2.1 (p1).toNatClampNeg)
    else
    if p2 = (4 : Int32) then
      gd (inB p1 17) <|
      some (xn.2.2.2.2.2.2.2.2.2.2.2.2.2.2.2.1 (p1).toNatClampNeg)
    else
    if p2 = (5 : Int32) then
      gd (inB p1 17) <|
      if 0 ≤ (xn.2.2.2.2.2.2.2.2.2.2.2.2.2.2.2.2.1 (p1).toNatClampNeg) then
        some (xn.2.2.2.2.2.2.2.2.2.2.2.2.2.2.2.2.1 (p1).toNatClampNeg)
      else
        some (-4 : Int32)
    else
    if p2 = (6 : Int32) then
      gd (inB p1 17) <|
      some (if (0 : Int32) < ((xn.2.2.2.2.2.2.2.2.2.2.2.2.2.2.2.1 (p1).toNatClampNeg) - (xn.2.2.2.2.2.2.2.2.2.2.2.2.2.1 (p1).toNatClampNeg)) then ((xn.2.2.2.2.2.2.2.2.2.2.2.2.2.2.2.1 (p1).toNatClampNeg) - (xn.2.2.2.2.2.2.2.2.2.2.2.2.2.1 (p1).toNatClampNeg)) else (0 : Int32))
    else
      some (-1 : Int32)
def fX6_play (lnn : Int32) (pm : Nat → Nat) (ch : Nat → Int32) (tl : Int32) (nu : Nat → Int32) (le : Int32) (nx : Int32) (xn : HutS) (xr : HutS) (xw : HutS) (h0 : HutS) (h1 : HutS) (h2 : HutS) (h3 : HutS) (h4 : HutS)  : Option (Int32 × Int32 × (Nat → Nat) × (Nat → Int32) × Int32 × Int32 × Int32 × Int32 × Int32 × Int32 × HutS × HutS × HutS × HutS × HutS × HutS × HutS × HutS) :=
  bd9 (fX3_run xr xw ch tl nu le nx xn) fun cmd_2 pos_4 rea_6 cau_8 xr_10 xw_12 nu_14 le_16 nx_18 =>
  if rea_6 = 0 then
    bd5 (fX0_prepare lnn pm h0 h1 h2 h3 h4 xn) fun h0_22 h1_24 h2_26 h3_28 h4_30 =>
    bd1 (gX1_copyFrom xn xr_10) fun xn_33 =>
    bd3 (fX6_recorded lnn pm cmd_2) fun r35 lnn_37 pm_39 =>
    some (r35, lnn_37, pm_39, nu_14, le_16, nx_18, cmd_2, pos_4, rea_6, cau_8, xn_33, xr_10, xw_12, h0_22, h1_24, h2_26, h3_28, h4_30)
  else
    some ((-2 : Int32), lnn, pm, nu_14, le_16, nx_18, cmd_2, pos_4, rea_6, cau_8, xn, xr_10, xw_12, h0, h1, h2, h3, h4)
def fX6_restore (ke : Int32) (lnn : Int32) (pm : Nat → Nat) (xn : HutS) (xp : HutS) (h0 : HutS) (h1 : HutS) (h2 : HutS) (h3 : HutS) (h4 : HutS)  : Option (Int32 × Int32 × (Nat → Nat) × HutS × HutS × HutS × HutS × HutS × HutS) :=
  if ke = 0 then
    some ((-2 : Int32), lnn, pm, xn, h0, h1, h2, h3, h4)
  else
    bd5 (fX0_prepare lnn pm h0 h1 h2 h3 h4 xn) fun h0_3 h1_5 h2_7 h3_9 h4_11 =>
    bd1 (gX1_copyFrom xn xp) fun xn_14 =>
    bd3 (fX6_recorded lnn pm xn_14.2.2.2.2.2.2.2.2.2.2.2.2.2.2.2.2.2.2.2.2.1) fun r16 lnn_18 pm_20 =>
    some (r16, lnn_18, pm_20, xn_14, h0_3, h1_5, h2_7, h3_9, h4_11)
def fX6_set (lnn : Int32) (pm : Nat → Nat) (xn : HutS) (h0 : HutS) (h1 : HutS) (h2 : HutS) (h3 : HutS) (h4 : HutS) (p1 : Int32) (p2 : Int32) : Option (Int32 × Int32 × (Nat → Nat) × HutS × HutS × HutS × HutS × HutS × HutS) :=
  bd5 (fX0_prepare lnn pm h0 h1 h2 h3 h4 xn) fun h0_2 h1_4 h2_6 h3_8 h4_10 =>
  bd2 (gX1_changeSetting xn p1 p2) fun r12 xn_14 =>
  bd3 (fX6_recorded lnn pm r12) fun r16 lnn_18 pm_20 =>
  some (r16, lnn_18, pm_20, xn_14, h0_2, h1_4, h2_6, h3_8, h4_10)
def fX6_sleep (lnn : Int32) (pm : Nat → Nat) (xn : HutS) (h0 : HutS) (h1 : HutS) (h2 : HutS) (h3 : HutS) (h4 : HutS) (p1 : Int32) : Option (Int32 × Int32 × (Nat → Nat) × HutS × HutS × HutS × HutS × HutS × HutS) :=
  bd5 (fX0_prepare lnn pm h0 h1 h2 h3 h4 xn) fun h0_2 h1_4 h2_6 h3_8 h4_10 =>
  bd2 (gX1_passNights xn p1) fun r12 xn_14 =>
  bd3 (fX6_recorded lnn pm r12) fun r16 lnn_18 pm_20 =>
  some (r16, lnn_18, pm_20, xn_14, h0_2, h1_4, h2_6, h3_8, h4_10)
def fX6_storeOf (xn : HutS) (p1 : Int32) (p2 : Int32) : Option (Int32) :=
  bd1 (fX4_isKind p1) fun r1 =>
  if r1 = 0 then
    some (-1 : Int32)
  else
    if p2 = (0 : Int32) then
      bd1 (fX4_stock xn.1 xn.2.1 xn.2.2.2.1 p1) fun r10 =>
      some r10
    else
    if p2 = (1 : Int32) then
      gd (inB p1 3) <|
      some (xn.2.2.2.2.2.2.2.2.1 (p1).toNatClampNeg)
    else
    if p2 = (2 : Int32) then
      gd (inB p1 3) <|
      some (xn.2.2.2.2.2.2.2.2.2.1 (p1).toNatClampNeg)
    else
    if p2 = (3 : Int32) then
      gd (inB p1 3) <|
      some (xn.2.2.2.2.2.2.2.2.2.2.1 (p1).toNatClampNeg)
    else
    if p2 = (4 : Int32) then
      bd1 (fX4_lotsOfKind xn.1 xn.2.2.2.1 p1) fun r15 =>
      some r15
    else
    if p2 = (5 : Int32) then
      bd1 (fX4_amountOnPallet xn.2.2.2.2.1 xn.2.2.2.2.2.1 xn.2.2.2.2.2.2.2.1 p1) fun r17 =>
      some r17
    else
      some (-1 : Int32)
def fX6_storm (lnn : Int32) (pm : Nat → Nat) (xn : HutS) (h0 : HutS) (h1 : HutS) (h2 : HutS) (h3 : HutS) (h4 : HutS) (p1 : Int32) (p2 : Int32) : Option (Int32 × Int32 × (Nat → Nat) × HutS × HutS × HutS × HutS × HutS × HutS) :=
  bd5 (fX0_prepare lnn pm h0 h1 h2 h3 h4 xn) fun h0_2 h1_4 h2_6 h3_8 h4_10 =>
  bd2 (gX1_tellStorm xn p1 p2) fun r12 xn_14 =>
  bd3 (fX6_recorded lnn pm r12) fun r16 lnn_18 pm_20 =>
  some (r16, lnn_18, pm_20, xn_14, h0_2, h1_4, h2_6, h3_8, h4_10)
def fX6_type (ch : Nat → Int32) (tl : Int32) (p1 : Int32) : Option (Int32 × (Nat → Int32) × Int32) :=
  if p1 < (32 : Int32) then
    some ((-1 : Int32), ch, tl)
  else
    if p1 ≤ (126 : Int32) then
      if tl < (60 : Int32) then
        bd2 (fX5_append ch tl p1) fun ch4 tl5 =>
        some (tl5, ch4, tl5)
      else
        some ((-3 : Int32), ch, tl)
    else
      some ((-1 : Int32), ch, tl)
def fX6_undo (lnn : Int32) (pm : Nat → Nat) (xn : HutS) (h0 : HutS) (h1 : HutS) (h2 : HutS) (h3 : HutS) (h4 : HutS)  : Option (Int32 × Int32 × HutS) :=
  if lnn = 0 then
    some ((-2 : Int32), lnn, xn)
  else
    bd2 (fX0_takeBack lnn pm h0 h1 h2 h3 h4 xn) fun lnn_3 xn_5 =>
    some (lnn_3, lnn_3, xn_5)
