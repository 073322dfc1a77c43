theorem kL_lot (l : Launch) (b L : Nat) (xs : Nat → Int32) (p2 res : Int32) (h : fL_lot xs L p2 = some res) : gMX l yL_lot wsL_lot ({ frames := 0, cells := 0, slots := 0, locals := 0 } : Room) [.ref b, .int p2] b L xs res := by
  intro sz
  refine Met.ofW (cc := cL_lot) (maxL := 2) (ret := some .int) (by decide) rfl ?_
  intro p e s m args below meth c s₁ B hml hv
  obtain ⟨rfl, hsz, hX, hbl⟩ := hv
  have hx := B.exec
  have hb := B.bytes
  have hr := B.returns
  have hts := atoms_spec (ws := wsL_lot) B.pre
  have hown : s.vm.findClass yL_lot.cls = some m.cls := findClass_of_methodNamed B.named
  have hlocks := B.notSynchronized
  subst hsz
  have hl := lv_entry [.ref b, .int p2] (n := 2) (Nat.le_of_ble_eq_true rfl)
  have hS : va_S (fun q : Nat => s.heap.size ≤ q) s.heap s.heap [] := va_S.rf
  have hbA : ¬ (fun q : Nat => s.heap.size ≤ q) b := Nat.not_le.mpr hbl
  have hw0 := hts (.constant RL 7 (-472914581)) (by decide +kernel)
  rw [lg_entry_eq]
  generalize (lg_sl ([.ref b, .int p2])).toArray ++ List.replicate (2 - (lg_sl ([.ref b, .int p2])).length) Slot.unset |>.toArray = ls at hl ⊢
  sorry
