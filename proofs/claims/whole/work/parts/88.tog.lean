theorem p_put {n : Nat} (hn : 12 ≤ n) {a b c w : Int} (h : fF (b * b - 4 * a * c) w (a, b, c)) : f_X0_put n (jL a) (jL b) (jL c) = some (jL a, jL b, jL c, jL (b * b - 4 * a * c), jL w) := by
  unfold f_X0_put
  rw [p_disc2, Option.bind_some]
  have h5 := h.2.2.2.2.1
  have h6 := h.2.2.2.2.2.1
  have rD : jR (b * b - 4 * a * c) := ⟨by omega, by omega⟩
  rcases h.2.2.2.2.2.2 with ⟨q, rfl, -⟩ | ⟨q, hr, -⟩
  · unfold f_X2_wholeRoot
    rw [jL_0, if_pos ((jL_lt rD jR_0).mpr q)]
    rfl
  · rw [p_root2 hn hr h6]
    rfl
theorem fF_wun {D w w' : Int} {f g : Fm} (hf : fF D w f) (hg : fF D w' g) : w' = w := by
  rcases hf.2.2.2.2.2.2 with ⟨q1, q2, -⟩ | ⟨q1, q2, -⟩ <;> rcases hg.2.2.2.2.2.2 with ⟨s1, s2, -⟩ | ⟨s1, s2, -⟩
  · omega
  · omega
  · omega
  · exact mRt_un s2 q2
set_option maxRecDepth 20000 in
/-- TOGETHER, both sides -/
theorem p_together {n : Nat} (hn : 600000 ≤ n) {D w : Int} {f : Fm} {k q : Nat} (h : wy D w f k q) (x1 x2 x3 : Int32) (v6 v7 v8 v9 : Int64) :
    ∃ (o : Sum (Int32 × Int64 × Int64 × Int64 × Int64 × Int64) Int32) (r cd : Int32) (s6 s7 s8 s9 : Int64), f_X2_together n (nI (q + 1)) (jL D) (jL (wN D w f k q).1) (jL (wN D w f k q).2.1) (jL (wN D w f k q).2.2) x1 x2 x3 = some o ∧ f_X3_together n (jL D) (jL w) v6 v7 v8 v9 (jL (wN D w f k q).1) (jL (wN D w f k q).2.1) x1 x2 x3 = some (r, cd, s6, s7, s8, s9) ∧ ((o = .inr 1 ∧ cd = 1) ∨ ((∃ u, o = .inl (r, u)) ∧ cd = 0)) := by
  have hF := h.1
  have hN := fF_itn (wB D w f k q) _ (fF_itn k f hF)
  have hq := h.2.2.2.2.1
  have rD : jR D := by
    have a1 := hF.2.2.2.2.1
    have a2 := hF.2.2.2.2.2.1
    exact ⟨by omega, by omega⟩
  unfold f_X2_together f_X3_together
  rw [i32_jL, i32_jL, i32_jL]
  have b1 := i32_B x1
  have b2 := i32_B x2
  have b3 := i32_B x3
  by_cases ht : mTk x1.toInt x2.toInt x3.toInt
  · rw [(p_can2 (by omega) b1 b2 b3).1 ht, (p_can3 (by omega) b1 b2 b3).1 ht, Option.bind_some, Option.bind_some, if_neg o10, if_neg o10]
    obtain ⟨w', hw', -, -⟩ := mTk_F ht
    rw [p_put (by omega) hw', Option.bind_some]
    unfold f_X3_together_21
    rw [if_neg (show ¬ (0 : Int32) < 0 by decide), i32_jL, i32_jL, i32_jL, p_disc3, Option.bind_some]
    have h5 := hw'.2.2.2.2.1
    have h6 := hw'.2.2.2.2.2.1
    by_cases e : x2.toInt * x2.toInt - 4 * x1.toInt * x3.toInt = D
    · rw [e] at hw'
      have ew := fF_wun hF hw'
      subst ew
      obtain ⟨k', q', hg⟩ := wy_ex hw'
      have hr' := fF_itn k' _ hw'
      have g1 : f_X0_goToReduced n (jL x1.toInt) (jL x2.toInt) (jL x3.toInt) (jL D) (jL w') = some (nI k', jL (wR D w' (x1.toInt, x2.toInt, x3.toInt) k').1, jL (wR D w' (x1.toInt, x2.toInt, x3.toInt) k').2.1, jL (wR D w' (x1.toInt, x2.toInt, x3.toInt) k').2.2) := by
        unfold f_X0_goToReduced
        have := p_toRed0 (n := n) k' (x1.toInt, x2.toInt, x3.toInt) n 0 hg.1 hg.2.2.1 hg.2.2.2.1 (by have := hg.2.1; omega) (by have := hg.2.1; omega)
        rw [Nat.zero_add] at this
        exact this
      obtain ⟨t1, g2⟩ := p_toRed (n := n) hn hg v9
      obtain ⟨t2, g3⟩ := p_toName (n := n) hn hg t1
      rw [e]
      dsimp only
      rw [if_pos rfl, if_pos rfl, g1, Option.bind_some]
      unfold f_X3_begin
      rw [Option.bind_some, g2, Option.bind_some, g3, Option.bind_some]
      have hN' := fF_itn (wB D w' (x1.toInt, x2.toInt, x3.toInt) k' q') _ hr'
      obtain ⟨m1, m2⟩ := wy_tog h hg
      obtain ⟨n1, n2⟩ := p_tog2 (n := n) hr' hN (q := q) (by omega) (q + 1) 0 n (by omega) (by omega) (fun j hj => by omega)
      by_cases z : wN D w' (x1.toInt, x2.toInt, x3.toInt) k' q' = wN D w' f k q
      · obtain ⟨u, hu⟩ := n1 (m1 z).2
        refine ⟨_, 1, 0, jL (wN D w' (x1.toInt, x2.toInt, x3.toInt) k' q').1, jL (wN D w' (x1.toInt, x2.toInt, x3.toInt) k' q').2.1, jL (wN D w' (x1.toInt, x2.toInt, x3.toInt) k' q').2.2, t2, hu, ?_, Or.inr ⟨⟨u, rfl⟩, rfl⟩⟩
        rw [(p_isName hN' hN).1 z]
        rfl
      · obtain ⟨u, hu⟩ := n2 (fun j j1 j2 => z (m2 j j1 j2))
        refine ⟨_, 0, 0, jL (wN D w' (x1.toInt, x2.toInt, x3.toInt) k' q').1, jL (wN D w' (x1.toInt, x2.toInt, x3.toInt) k' q').2.1, jL (wN D w' (x1.toInt, x2.toInt, x3.toInt) k' q').2.2, t2, hu, ?_, Or.inr ⟨⟨u, rfl⟩, rfl⟩⟩
        rw [(p_isName hN' hN).2 z]
        rfl
    · have ne : ¬ jL (x2.toInt * x2.toInt - 4 * x1.toInt * x3.toInt) = jL D := fun z => e ((jL_eq ⟨by omega, by omega⟩ rD).mp z)
      dsimp only
      rw [if_neg ne, if_neg ne]
      exact ⟨_, 0, 0, _, _, _, _, rfl, rfl, Or.inr ⟨⟨_, rfl⟩, rfl⟩⟩
  · rw [(p_can2 (by omega) b1 b2 b3).2 ht, (p_can3 (by omega) b1 b2 b3).2 ht, Option.bind_some, Option.bind_some, if_pos rfl, if_pos rfl]
    unfold f_X3_together_21
    rw [if_pos (show (0 : Int32) < 1 by decide)]
    exact ⟨_, 0, 1, _, _, _, _, rfl, rfl, Or.inl ⟨rfl, rfl⟩⟩
