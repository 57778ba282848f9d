theorem wy_0 : wy (-4) (-1) (1, 0, 1) 0 0 := by
  refine ⟨?_, by decide, ?_, fun i hi => by omega, by decide, fun _ => rfl, fun q => by omega⟩
  · exact ⟨by decide, ⟨by decide, by decide⟩, ⟨by decide, by decide⟩, ⟨by decide, by decide⟩, by decide, by decide, Or.inl ⟨by decide, rfl, by decide, by decide⟩⟩
  · exact Or.inl ⟨by decide, by decide, by decide, Or.inl (by decide)⟩
theorem law_pure (xs : Nat → Int32) (L : Nat) (hL : L ≤ 2048) : ∃ n, f_L_law n xs L = some 1 := by
  refine ⟨600000, ?_⟩
  obtain ⟨n, hn⟩ : ∃ n, n = 600000 := ⟨_, rfl⟩
  rw [← hn]
  have hn' : 600000 ≤ n := by omega
  clear hn
  obtain ⟨y0, y1, y2, y3, a1, a2⟩ := k_begin (n := n) (z0 := fun _ => 0) (z1 := fun _ => 0) (z2 := fun _ => 0) (z3 := fun _ => 0)
  have hi1 : f_X1_init n = some (y0, y1, y2, y3, 1, 1, 0, 0, 1) := by
    unfold f_X1_init
    rw [a1, Option.bind_some]
  have hp : f_X0_put n 1 0 1 = some (jL 1, jL 0, jL 1, jL (-4), jL (-1)) := p_put (n := n) (a := 1) (b := 0) (c := 1) (w := -1) (by omega) wy_0.1
  have hs := p_settle hn' wy_0
  have hi3 : f_X3_init n = some (upd (upd (fun _ => 0) (1100 * 0 + 0) 1) (1100 * 3 + 0) 1) := by
    unfold f_X3_init
    have p0 : ∀ (w : Nat → Int32) x, f_X3_put n w 0 0 x = some (upd w (1100 * 0 + 0) x) := fun w x => g_put (i := 0) (j := 0) (by decide) (by decide)
    have p3 : ∀ (w : Nat → Int32) x, f_X3_put n w 3 0 x = some (upd w (1100 * 3 + 0) x) := fun w x => g_put (i := 3) (j := 0) (by decide) (by decide)
    rw [p0, Option.bind_some, p3, Option.bind_some]
  have hrow : rows (upd (upd (fun _ => 0) (1100 * 0 + 0) 1) (1100 * 3 + 0) 1) (1 + 3) (mxs (-4) (-1) (1, 0, 1) (0 + wB (-4) (-1) (1, 0, 1) 0 0)) := by
    apply rows_unit
    intro i hi
    rcases (show i = 0 ∨ i = 1 ∨ i = 2 ∨ i = 3 by omega) with rfl | rfl | rfl | rfl <;> refine ⟨?_, ?_, ?_, ?_⟩ <;> rfl
  unfold f_L_law f_X2_init f_X0_init
  rw [Option.bind_some, Option.bind_some, Option.bind_some, Option.bind_some, hi1, Option.bind_some, hp, Option.bind_some]
  dsimp only
  have hs' : f_X2_settle n (jL 1) (jL 0) (jL 1) (jL (-4)) (jL (-1)) = _ := hs
  rw [hs', Option.bind_some, Option.bind_some, hi3, Option.bind_some]
  exact lawp_loop hn' xs L hL 600 0 (by omega) (by omega) (-4) (-1) (1, 0, 1) 0 0 1 0 _ _ _ _ _ _ _ _ _ _ _ _ _ _ _ _ _ _ _ _ _ _ wy_0 ⟨by decide, by decide⟩ ⟨by decide, by decide⟩ ⟨by decide, by decide⟩ (by decide) hrow (Or.inl rfl)
