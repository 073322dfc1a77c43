theorem law_pure (xs : Nat → Int32) (L : Nat) (hL : L ≤ 2048) : fL_law xs L 0 0 (fun i => i) (fun _ => 0) 0 (fun _ => 0) 0 0 0 0 0 0 hut0 hut0 hut0 hut0 hut0 hut0 hut0 hut0 hut0 hut0 ss0 (fun _ => 0) (fun _ => 0) 0 (fun _ => 0) 0 (fun _ => 0) 0 (fun _ => 0) 0 0 0 0 (fun _ => 0) = some 1 := by
  unfold fL_law
  rw [q_l0]
  refine law_loop hL 513 0 gFU _ _ _ _ _ _ _ _ _ _ _ _ _ _ _ _ _ _ _ _ _ _ _ _ _ _ _ _ _ _ _ _ _ _ _ _ (by omega) (by unfold gFU; omega) ?_
  exact ⟨top_start, ⟨0, by omega, rfl, rfl, fun i hi => hi, fun i j _ _ e => e, fun i hi => absurd hi (by omega)⟩, Or.inl ⟨rfl, rfl⟩, 0, rfl, rfl, by omega, fun i hi => absurd hi (by omega)⟩
