theorem i32_nI {x : Int32} {q : Nat} (h0 : 0 ≤ x.toInt) (hq : x.toInt ≤ q) (hb : q < 2 ^ 31) : ∃ m, m ≤ q ∧ x = nI m := by
  refine ⟨x.toInt.toNat, by omega, ?_⟩
  apply Int32.toInt_inj.mp
  rw [nI_toInt (by omega)]
  omega
/-- RING, both sides -/
theorem p_ring {n : Nat} (hn : 600000 ≤ n) {D w : Int} {f : Fm} {k q : Nat} (h : wy D w f k q) (x1 x2 : Int32) (v6 v7 v8 v9 : Int64) :
    ∃ (o : Sum (Int32 × Int64 × Int64 × Int64 × Int64 × Int64) Int32) (r cd : Int32) (s6 s7 s8 s9 : Int64), f_X2_ring n (nI (q + 1)) (jL (wN D w f k q).1) (jL (wN D w f k q).2.1) (jL (wN D w f k q).2.2) (jL D) (jL w) x1 x2 = some o ∧ f_X3_ring n (jL D) (jL w) v6 v7 v8 v9 (jL (wN D w f k q).1) (jL (wN D w f k q).2.1) (jL (wN D w f k q).2.2) x1 x2 = some (r, cd, s6, s7, s8, s9) ∧ ((o = .inr 1 ∧ cd = 1) ∨ ((∃ u, o = .inl (r, u)) ∧ cd = 0)) := by
  have e0 : (0 : Int32).toInt = 0 := rfl
  have hq := h.2.2.2.2.1
  have hN := fF_itn (wB D w f k q) _ (fF_itn k f h.1)
  obtain ⟨y6, y7, y8, y9, hs⟩ := p_count5 (n := n) hn h v6 v7 v8 v9
  have fail : f_X3_ring_37 n (jL D) (jL w) (jL (wN D w f k q).1) (jL (wN D w f k q).2.1) (jL (wN D w f k q).2.2) x1 x2 1 y6 y7 y8 y9 = some (0, 1, y6, y7, y8, y9) := by
    unfold f_X3_ring_37
    rw [if_pos (show (0 : Int32) < 1 by decide)]
  have en : (nI (q + 1) - 1).toInt64 = jL (q : Int) := by rw [nI_pred, nI_jL (by omega)]
  have ent : (nI (q + 1)).toInt = ((q + 1 : Nat) : Int) := nI_toInt (by omega)
  unfold f_X2_ring f_X3_ring
  rw [hs, Option.bind_some]
  dsimp only
  rw [en, i32_jL x1, jL_0]
  have pin := p_in (n := n) (mB_R (i32_B x1)) jR_0 (show jR (q : Int) from ⟨by omega, by omega⟩)
  by_cases h1 : 0 ≤ x1.toInt ∧ x1.toInt ≤ q
  case neg =>
    rw [pin.2 h1, Option.bind_some, if_pos rfl, fail]
    refine ⟨.inr 1, 0, 1, y6, y7, y8, y9, ?_, rfl, Or.inl ⟨rfl, rfl⟩⟩
    by_cases z : x1 < 0
    · rw [if_pos z]
    · rw [if_neg z, if_neg (fun y => by rw [Int32.lt_iff_toInt_lt] at z y; rw [e0] at z; rw [ent] at y; omega)]
  have z1 : ¬ x1 < 0 := fun z => by rw [Int32.lt_iff_toInt_lt, e0] at z; omega
  have z2 : x1 < nI (q + 1) := by rw [Int32.lt_iff_toInt_lt, ent]; omega
  rw [pin.1 h1, Option.bind_some, if_neg o10, if_neg z1, if_pos z2, ← jL_0]
  by_cases h2 : 0 ≤ x2.toInt ∧ x2.toInt ≤ 2
  case neg =>
    rw [(p_in02 x2).2 h2, (p_isCoef x2).2 h2, Option.bind_some, Option.bind_some, if_pos rfl, if_pos rfl, fail]
    exact ⟨.inr 1, 0, 1, y6, y7, y8, y9, rfl, rfl, Or.inl ⟨rfl, rfl⟩⟩
  rw [(p_in02 x2).1 h2, (p_isCoef x2).1 h2, Option.bind_some, Option.bind_some, if_neg o10, if_neg o10]
  obtain ⟨m, m1, rfl⟩ := i32_nI h1.1 h1.2 (by omega)
  unfold f_X3_ring_37 f_X3_begin f_X0_copy
  rw [if_neg (show ¬ (0 : Int32) < 0 by decide), Option.bind_some, Option.bind_some]
  dsimp only
  have g1 := p_ring2 (n := n) hN (m := m) (by omega) x2 m 0 n (by omega) (by omega)
  obtain ⟨t', g2⟩ := p_ring3 (n := n) hN (m := m) (by omega) x2 0 m 0 n y9 (by omega) (by omega)
  obtain ⟨r, hr⟩ := p_part_ex (n := n) x2 (jL (itn D w m (wN D w f k q)).1) (jL (itn D w m (wN D w f k q)).2.1) (jL (itn D w m (wN D w f k q)).2.2)
  rw [hr] at g1 g2
  exact ⟨_, r, 0, _, _, _, _, g1, g2, Or.inr ⟨⟨_, rfl⟩, rfl⟩⟩
