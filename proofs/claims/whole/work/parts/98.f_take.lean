theorem rp_unit {r : Nat → Int} {z : Int} (hz : z = 0 ∨ z = 1) (h0 : r 0 = z) (h1 : r 1 = 0) (h2 : r 2 = 0) (h3 : r 3 = 0) : rp 65536 r (1 + 3) z := by
  refine ⟨?_, Or.inl ?_, ?_, ?_⟩
  · intro j hj
    rcases (show j = 0 ∨ j = 1 ∨ j = 2 ∨ j = 3 by omega) with rfl | rfl | rfl | rfl <;> omega
  · rw [show 1 + 3 = 0 + 1 + 1 + 1 + 1 from rfl, pl, pl, pl, pl, pl]
    show 0 + r 0 * 65536 ^ 0 + r 1 * 65536 ^ (0 + 1) + r 2 * 65536 ^ (0 + 1 + 1) + r 3 * 65536 ^ (0 + 1 + 1 + 1) = z
    rw [h0, h1, h2, h3, Int.pow_zero]
    omega
  · have : (65536 : Int) ^ (1 + 3) = 18446744073709551616 := by decide
    omega
  · have : (65536 : Int) ^ (1 + 3) = 18446744073709551616 := by decide
    omega
theorem rows_unit {w : Nat → Int32} (h : ∀ i, i < 4 → w (1100 * i + 0) = (if i = 0 ∨ i = 3 then 1 else 0) ∧ w (1100 * i + 1) = 0 ∧ w (1100 * i + 2) = 0 ∧ w (1100 * i + 3) = 0) : rows w (1 + 3) (1, 0, 0, 1) := by
  intro i hi
  obtain ⟨a, b, c, d⟩ := h i hi
  have z0 : (0 : Int32).toInt = 0 := rfl
  have z1 : (1 : Int32).toInt = 1 := rfl
  refine rp_unit ?_ ?_ ?_ ?_ ?_
  · rcases (show i = 0 ∨ i = 1 ∨ i = 2 ∨ i = 3 by omega) with rfl | rfl | rfl | rfl
    · exact Or.inr rfl
    · exact Or.inl rfl
    · exact Or.inl rfl
    · exact Or.inr rfl
  · show (w (1100 * i + 0)).toInt = _
    rw [a]
    rcases (show i = 0 ∨ i = 1 ∨ i = 2 ∨ i = 3 by omega) with rfl | rfl | rfl | rfl <;> rfl
  · show (w (1100 * i + 1)).toInt = _
    rw [b]; rfl
  · show (w (1100 * i + 2)).toInt = _
    rw [c]; rfl
  · show (w (1100 * i + 3)).toInt = _
    rw [d]; rfl
abbrev u4r (w : Nat → Int32) (i : Nat) : Nat → Int32 := upd (upd (upd (upd w (1100 * i + 0) (if i = 0 ∨ i = 3 then 1 else 0)) (1100 * i + 1) 0) (1100 * i + 2) 0) (1100 * i + 3) 0
theorem u4r_at (w : Nat → Int32) (i : Nat) : u4r w i (1100 * i + 0) = (if i = 0 ∨ i = 3 then 1 else 0) ∧ u4r w i (1100 * i + 1) = 0 ∧ u4r w i (1100 * i + 2) = 0 ∧ u4r w i (1100 * i + 3) = 0 := by
  unfold u4r
  refine ⟨?_, ?_, ?_, ?_⟩
  · rw [upd_ne _ _ (by omega), upd_ne _ _ (by omega), upd_ne _ _ (by omega), upd_at]
  · rw [upd_ne _ _ (by omega), upd_ne _ _ (by omega), upd_at]
  · rw [upd_ne _ _ (by omega), upd_at]
  · rw [upd_at]
theorem u4r_ne (w : Nat → Int32) {i i' j : Nat} (h : i' ≠ i) (hj : j < 4) : u4r w i (1100 * i' + j) = w (1100 * i' + j) := by
  unfold u4r
  rw [upd_ne _ _ (by omega), upd_ne _ _ (by omega), upd_ne _ _ (by omega), upd_ne _ _ (by omega)]
theorem u4r_rows (w : Nat → Int32) : rows (u4r (u4r (u4r (u4r w 0) 1) 2) 3) (1 + 3) (1, 0, 0, 1) := by
  apply rows_unit
  intro i hi
  rcases (show i = 0 ∨ i = 1 ∨ i = 2 ∨ i = 3 by omega) with rfl | rfl | rfl | rfl
  · obtain ⟨a, b, c, d⟩ := u4r_at w 0
    refine ⟨?_, ?_, ?_, ?_⟩ <;> rw [u4r_ne _ (by omega) (by omega), u4r_ne _ (by omega) (by omega), u4r_ne _ (by omega) (by omega)] <;> assumption
  · obtain ⟨a, b, c, d⟩ := u4r_at (u4r w 0) 1
    refine ⟨?_, ?_, ?_, ?_⟩ <;> rw [u4r_ne _ (by omega) (by omega), u4r_ne _ (by omega) (by omega)] <;> assumption
  · obtain ⟨a, b, c, d⟩ := u4r_at (u4r (u4r w 0) 1) 2
    refine ⟨?_, ?_, ?_, ?_⟩ <;> rw [u4r_ne _ (by omega) (by omega)] <;> assumption
  · exact u4r_at _ 3
theorem g_reset {n : Nat} (hn : 10 ≤ n) {w : Nat → Int32} {c0 : Int32} {c1 c2 c3 c4 c5 c6 c7 c8 c9 c10 c11 c12 : Int64} :
    f_X3_take_165 n n 0 w c0 c1 c2 c3 c4 c5 c6 c7 c8 c9 c10 c11 c12 4 = (f_X3_begin n c1 c2 c3).bind (fun r_3 => (f_X3_isReduced n r_3.1 r_3.2.1 r_3.2.2 c4 c5).bind (fun r_6 => if r_6 = 0 then (f_X3_take_269 n n 0 (u4r (u4r (u4r (u4r w 0) 1) 2) 3) c0 c1 c2 c3 c4 c5 r_3.1 r_3.2.1 r_3.2.2 c9 c10 c11 c12 4) else ((f_X3_isName n r_3.1 r_3.2.1 c10 c11).bind (fun r_11 => if r_11 = 0 then (f_X3_take_269 n n 0 (u4r (u4r (u4r (u4r w 0) 1) 2) 3) c0 c1 c2 c3 c4 c5 r_3.1 r_3.2.1 r_3.2.2 c9 c10 c11 c12 4) else (f_X3_take_269 n n 1 (u4r (u4r (u4r (u4r w 0) 1) 2) 3) c0 c1 c2 c3 c4 c5 r_3.1 r_3.2.1 r_3.2.2 c9 c10 c11 c12 4))))) := by
  have main : ∀ k, 5 ≤ k → f_X3_take_165 n k 0 w c0 c1 c2 c3 c4 c5 c6 c7 c8 c9 c10 c11 c12 4 = (f_X3_begin n c1 c2 c3).bind (fun r_3 => (f_X3_isReduced n r_3.1 r_3.2.1 r_3.2.2 c4 c5).bind (fun r_6 => if r_6 = 0 then (f_X3_take_269 n n 0 (u4r (u4r (u4r (u4r w 0) 1) 2) 3) c0 c1 c2 c3 c4 c5 r_3.1 r_3.2.1 r_3.2.2 c9 c10 c11 c12 4) else ((f_X3_isName n r_3.1 r_3.2.1 c10 c11).bind (fun r_11 => if r_11 = 0 then (f_X3_take_269 n n 0 (u4r (u4r (u4r (u4r w 0) 1) 2) 3) c0 c1 c2 c3 c4 c5 r_3.1 r_3.2.1 r_3.2.2 c9 c10 c11 c12 4) else (f_X3_take_269 n n 1 (u4r (u4r (u4r (u4r w 0) 1) 2) 3) c0 c1 c2 c3 c4 c5 r_3.1 r_3.2.1 r_3.2.2 c9 c10 c11 c12 4))))) := by
    intro k hk
    obtain ⟨k', rfl⟩ : ∃ k', k = k' + 5 := ⟨k - 5, by omega⟩
    obtain ⟨j, hj⟩ : ∃ j, n = j + 5 := ⟨n - 5, by omega⟩
    have st : ∀ (i : Nat) (K : Nat) (w : Nat → Int32), i < 4 → f_X3_take_165 n (K + 1) (nI i) w c0 c1 c2 c3 c4 c5 c6 c7 c8 c9 c10 c11 c12 4 = f_X3_take_165 n K (nI (i + 1)) (u4r w i) c0 c1 c2 c3 c4 c5 c6 c7 c8 c9 c10 c11 c12 4 := fun i K w hi => by
      rw [f_X3_take_165, if_pos (show nI i < 4 from nI_lt (b := 4) (by omega) (by omega))]
      have := g_row (n := n) (k := j) (Kf := fun u4 w1 w0_0 w0_1 w0_2 w0_3 w0_4 w0_5 w0_6 w0_7 w0_8 w0_9 w0_10 w0_11 w0_12 w0_13 => f_X3_take_165 n K u4 w1 w0_0 w0_1 w0_2 w0_3 w0_4 w0_5 w0_6 w0_7 w0_8 w0_9 w0_10 w0_11 w0_12 w0_13) (w := w) (c0 := c0) (c1 := c1) (c2 := c2) (c3 := c3) (c4 := c4) (c5 := c5) (c6 := c6) (c7 := c7) (c8 := c8) (c9 := c9) (c10 := c10) (c11 := c11) (c12 := c12) hi
      rw [← hj] at this
      exact this
    rw [show (0 : Int32) = nI 0 from rfl, st 0 (k' + 4) w (by decide), st 1 (k' + 3) _ (by decide), st 2 (k' + 2) _ (by decide), st 3 (k' + 1) _ (by decide), f_X3_take_165, if_neg (show ¬ nI (3 + 1) < 4 by decide)]
    rfl
  exact main n (by omega)
/-- after its reset the reference walks to the name -/
theorem g_walk {n : Nat} (hn : 600000 ≤ n) {D w : Int} {f : Fm} {k q : Nat} (h : wy D w f k q) (v : Nat → Int32) (c0 : Int32) (c6 c7 c8 c9 n0 n1 n2 : Int64) (hn0 : n0 = jL (wN D w f k q).1) (hn1 : n1 = jL (wN D w f k q).2.1) :
    ∃ v' m' tn', m' ≤ 514 ∧ rows v' (m' + 3) (mxs D w f (k + wB D w f k q)) ∧ f_X3_take_165 n n 0 v c0 (jL f.1) (jL f.2.1) (jL f.2.2) (jL D) (jL w) c6 c7 c8 c9 n0 n1 n2 4
        = some ((jL D).toInt32, v', c0, jL f.1, jL f.2.1, jL f.2.2, jL D, jL w, jL (wN D w f k q).1, jL (wN D w f k q).2.1, jL (wN D w f k q).2.2, tn', n0, n1, n2, nI (m' + 3)) := by
  rw [g_reset (by omega)]
  unfold f_X3_begin
  rw [Option.bind_some]
  dsimp only
  have hb := fBest_le D w (itn D w k f) q
  have hk := h.2.1
  have hq := h.2.2.2.2.1
  have hL : k + wB D w f k q < 600000 := by
    have : wB D w f k q = fBest D w (itn D w k f) q := rfl
    omega
  have hNF : fF D w (wN D w f k q) := fF_itn _ _ (fF_itn k f h.1)
  have e0 : itn D w 0 f = f := rfl
  rcases (show k + wB D w f k q = 0 ∨ 0 < k + wB D w f k q by omega) with z | z
  · obtain ⟨b1, b2⟩ := (way_at h (i := 0) (by omega)).1 (by omega)
    rw [e0] at b1 b2
    have hred := (fF_red3 (n := n) h.1).1 b1
    have hnam := (p_isName (n := n) h.1 hNF).1 b2
    refine ⟨u4r (u4r (u4r (u4r v 0) 1) 2) 3, 1, c9, by decide, ?_, ?_⟩
    rotate_left
    · rw [hred, Option.bind_some, if_neg o10, hn0, hn1, hnam, Option.bind_some, if_neg o10]
      obtain ⟨n', rfl⟩ : ∃ n', n = n' + 1 := ⟨n - 1, by omega⟩
      rw [f_X3_take_269, if_neg o10, ← b2]
      rfl
    · rw [z]
      exact u4r_rows v
  · obtain ⟨d, hd⟩ : ∃ d, k + wB D w f k q = d + 1 := ⟨k + wB D w f k q - 1, by omega⟩
    obtain ⟨v', m', tn', a1, a2, a3⟩ := g_loop (n := n) (by omega) h c0 (jL f.1) (jL f.2.1) (jL f.2.2) n0 n1 n2 hn0 hn1 d 0 n 1 (u4r (u4r (u4r (u4r v 0) 1) 2) 3) c9 (by omega) (by omega) (by decide) (u4r_rows v)
    refine ⟨v', m', tn', a1, a2, ?_⟩
    rcases (way_at h (i := 0) (by omega)).2 z with b1 | ⟨b1, b2⟩
    · have hred := (fF_red3 (n := n) h.1).2 b1
      rw [hred, Option.bind_some, if_pos rfl]
      exact a3
    · have hred := (fF_red3 (n := n) h.1).1 b1
      have hnam := (p_isName (n := n) h.1 hNF).2 b2
      rw [hred, Option.bind_some, if_neg o10]
      have hnam' : f_X3_isName n (jL f.1) (jL f.2.1) n0 n1 = some 0 := by rw [hn0, hn1]; exact hnam
      rw [hnam', Option.bind_some, if_pos rfl]
      exact a3
theorem g_take {n : Nat} (hn : 600000 ≤ n) (v1 v2 v3 v4 v5 v6 v7 v8 v9 v10 v11 v12 : Int64) (v13 : Int32) (v : Nat → Int32) (a b c : Int32) :
    (mTk a.toInt b.toInt c.toInt → ∃ w k q v' m' tn', wy (b.toInt * b.toInt - 4 * a.toInt * c.toInt) w (a.toInt, b.toInt, c.toInt) k q ∧ m' ≤ 514 ∧ rows v' (m' + 3) (mxs (b.toInt * b.toInt - 4 * a.toInt * c.toInt) w (a.toInt, b.toInt, c.toInt) (k + wB (b.toInt * b.toInt - 4 * a.toInt * c.toInt) w (a.toInt, b.toInt, c.toInt) k q)) ∧
      f_X3_take n v1 v2 v3 v4 v5 v6 v7 v8 v9 v10 v11 v12 v13 v a b c = some ((jL (b.toInt * b.toInt - 4 * a.toInt * c.toInt)).toInt32, v', 0, jL a.toInt, jL b.toInt, jL c.toInt, jL (b.toInt * b.toInt - 4 * a.toInt * c.toInt), jL w,
        jL (wN (b.toInt * b.toInt - 4 * a.toInt * c.toInt) w (a.toInt, b.toInt, c.toInt) k q).1, jL (wN (b.toInt * b.toInt - 4 * a.toInt * c.toInt) w (a.toInt, b.toInt, c.toInt) k q).2.1, jL (wN (b.toInt * b.toInt - 4 * a.toInt * c.toInt) w (a.toInt, b.toInt, c.toInt) k q).2.2, tn',
        jL (wN (b.toInt * b.toInt - 4 * a.toInt * c.toInt) w (a.toInt, b.toInt, c.toInt) k q).1, jL (wN (b.toInt * b.toInt - 4 * a.toInt * c.toInt) w (a.toInt, b.toInt, c.toInt) k q).2.1, jL (wN (b.toInt * b.toInt - 4 * a.toInt * c.toInt) w (a.toInt, b.toInt, c.toInt) k q).2.2, nI (m' + 3))) ∧
    (¬ mTk a.toInt b.toInt c.toInt → f_X3_take n v1 v2 v3 v4 v5 v6 v7 v8 v9 v10 v11 v12 v13 v a b c = some (0, v, 1, v1, v2, v3, v4, v5, v6, v7, v8, v9, v10, v11, v12, v13)) := by
  have hcan := p_can3 (n := n) (by omega) (i32_B a) (i32_B b) (i32_B c)
  constructor
  · intro hT
    obtain ⟨w, hF, hw1, hw2⟩ := mTk_F hT
    obtain ⟨k, q, h⟩ := wy_ex hF
    obtain ⟨D, hD⟩ : ∃ D, D = b.toInt * b.toInt - 4 * a.toInt * c.toInt := ⟨_, rfl⟩
    rw [← hD] at hF hw1 hw2 h ⊢
    have rD : jR D := by
      have q1 := hF.2.2.2.2.1
      have q2 := hF.2.2.2.2.2.1
      exact ⟨by omega, by omega⟩
    have main : ∀ t, t = jL w → ∃ v' m' tn', m' ≤ 514 ∧ rows v' (m' + 3) (mxs D w (a.toInt, b.toInt, c.toInt) (k + wB D w (a.toInt, b.toInt, c.toInt) k q)) ∧ f_X3_take_90 n t v 0 a.toInt64 b.toInt64 c.toInt64 (jL D) v5 v6 v7 v8 v9 v10 v11 v12 v13 = some ((jL D).toInt32, v', 0, jL a.toInt, jL b.toInt, jL c.toInt, jL D, jL w,
        jL (wN D w (a.toInt, b.toInt, c.toInt) k q).1, jL (wN D w (a.toInt, b.toInt, c.toInt) k q).2.1, jL (wN D w (a.toInt, b.toInt, c.toInt) k q).2.2, tn',
        jL (wN D w (a.toInt, b.toInt, c.toInt) k q).1, jL (wN D w (a.toInt, b.toInt, c.toInt) k q).2.1, jL (wN D w (a.toInt, b.toInt, c.toInt) k q).2.2, nI (m' + 3)) := by
      intro t ht
      subst ht
      obtain ⟨t1, ht1⟩ := p_toRed hn h v9
      obtain ⟨t2, ht2⟩ := p_toName hn h t1
      obtain ⟨v', m', tn', g1, g2, g3⟩ := g_walk hn h v 0 (jL (wN D w (a.toInt, b.toInt, c.toInt) k q).1) (jL (wN D w (a.toInt, b.toInt, c.toInt) k q).2.1) (jL (wN D w (a.toInt, b.toInt, c.toInt) k q).2.2) t2 _ _ (jL (wN D w (a.toInt, b.toInt, c.toInt) k q).2.2) rfl rfl
      refine ⟨v', m', tn', g1, g2, ?_⟩
      unfold f_X3_take_90 f_X3_begin
      rw [Option.bind_some, i32_jL, i32_jL, i32_jL]
      dsimp only
      rw [ht1, Option.bind_some]
      dsimp only
      rw [ht2, Option.bind_some]
      exact g3
    unfold f_X3_take
    rw [i32_jL a, i32_jL b, i32_jL c, hcan.1 hT, Option.bind_some, if_neg o10]
    unfold f_X3_take_21
    rw [if_neg (show ¬ (0 : Int32) < 0 by decide), i32_jL a, i32_jL b, i32_jL c, p_disc3, Option.bind_some, ← hD]
    rcases (show D < 0 ∨ 0 ≤ D by omega) with z | z
    · obtain ⟨v', m', tn', g1, g2, g3⟩ := main (-1) (by rw [hw1 z]; rfl)
      rw [i32_jL a, i32_jL b, i32_jL c] at g3
      exact ⟨w, k, q, v', m', tn', h, g1, g2, by rw [jL_0, if_pos ((jL_lt rD jR_0).mpr z)]; exact g3⟩
    · obtain ⟨v', m', tn', g1, g2, g3⟩ := main (jL w) rfl
      rw [i32_jL a, i32_jL b, i32_jL c] at g3
      refine ⟨w, k, q, v', m', tn', h, g1, g2, ?_⟩
      rw [jL_0, if_neg (fun y => by have := (jL_lt rD jR_0).mp y; omega), p_root3 (by omega) (hw2 z) hF.2.2.2.2.2.1, Option.bind_some]
      exact g3
  · intro hT
    unfold f_X3_take
    rw [i32_jL a, i32_jL b, i32_jL c, hcan.2 hT, Option.bind_some, if_pos rfl]
    unfold f_X3_take_21
    rw [if_pos (show (0 : Int32) < 1 by decide)]
