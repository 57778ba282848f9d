theorem p_take2 {n : Nat} (hn : 600000 ≤ n) (a b c : Int32) {w : Int} {k q : Nat} (hT : mTk a.toInt b.toInt c.toInt) (h : wy (b.toInt * b.toInt - 4 * a.toInt * c.toInt) w (a.toInt, b.toInt, c.toInt) k q) :
    f_X2_take n a b c = some (.inl ((jL (b.toInt * b.toInt - 4 * a.toInt * c.toInt)).toInt32, nI k, nI (k + wB (b.toInt * b.toInt - 4 * a.toInt * c.toInt) w (a.toInt, b.toInt, c.toInt) k q), nI (q + 1), 0, jL a.toInt, jL b.toInt, jL c.toInt, jL (b.toInt * b.toInt - 4 * a.toInt * c.toInt), jL w,
      jL (wR (b.toInt * b.toInt - 4 * a.toInt * c.toInt) w (a.toInt, b.toInt, c.toInt) k).1, jL (wR (b.toInt * b.toInt - 4 * a.toInt * c.toInt) w (a.toInt, b.toInt, c.toInt) k).2.1, jL (wR (b.toInt * b.toInt - 4 * a.toInt * c.toInt) w (a.toInt, b.toInt, c.toInt) k).2.2, jL (b.toInt * b.toInt - 4 * a.toInt * c.toInt), jL w,
      jL (wN (b.toInt * b.toInt - 4 * a.toInt * c.toInt) w (a.toInt, b.toInt, c.toInt) k q).1, jL (wN (b.toInt * b.toInt - 4 * a.toInt * c.toInt) w (a.toInt, b.toInt, c.toInt) k q).2.1, jL (wN (b.toInt * b.toInt - 4 * a.toInt * c.toInt) w (a.toInt, b.toInt, c.toInt) k q).2.2, jL (b.toInt * b.toInt - 4 * a.toInt * c.toInt), jL w,
      jL (wR (b.toInt * b.toInt - 4 * a.toInt * c.toInt) w (a.toInt, b.toInt, c.toInt) k).1, jL (wR (b.toInt * b.toInt - 4 * a.toInt * c.toInt) w (a.toInt, b.toInt, c.toInt) k).2.1, jL (wR (b.toInt * b.toInt - 4 * a.toInt * c.toInt) w (a.toInt, b.toInt, c.toInt) k).2.2, jL (b.toInt * b.toInt - 4 * a.toInt * c.toInt), jL w)) := by
  have hcan := p_can2 (n := n) (by omega) (i32_B a) (i32_B b) (i32_B c)
  have hs := p_settle hn h
  unfold f_X2_take
  rw [i32_jL a, i32_jL b, i32_jL c, hcan.1 hT, Option.bind_some, if_neg o10, p_put (by omega) h.1, Option.bind_some]
  dsimp only
  rw [hs, Option.bind_some]
theorem p_take2n {n : Nat} (hn : 600000 ≤ n) (a b c : Int32) (hT : ¬ mTk a.toInt b.toInt c.toInt) : f_X2_take n a b c = some (.inr 1) := by
  have hcan := p_can2 (n := n) (by omega) (i32_B a) (i32_B b) (i32_B c)
  unfold f_X2_take
  rw [i32_jL a, i32_jL b, i32_jL c, hcan.2 hT, Option.bind_some, if_pos rfl]
theorem updL_0 (ol : Nat → Int64) (x : Int64) : vp_updL ol (0 : Int32).toNatClampNeg x (0 : Int32).toNatClampNeg = x := if_pos rfl
def LAW (n : Nat) (xs : Nat → Int32) (L K i : Nat) : Prop := ∀ (D w : Int) (f : Fm) (k q m : Nat) (s8 : Int32) (wa0 wa1 wa2 wa3 wa4 : Int64) (m2 : Int32) (k3 k4 k5 k6 : Int64) (z0 z1 z2 z3 sg : Nat → Int32) (c0 : Int32) (x6 x7 x8 x9 : Int64) (v : Nat → Int32) (ol : Nat → Int64), wy D w f k q → mK f.1 → mK f.2.1 → mK f.2.2 → m ≤ 514 → rows v (m + 3) (mxs D w f (k + wB D w f k q)) → MI s8 z0 z1 z2 z3 sg m2 (mxs D w f (k + wB D w f k q)) →
  f_L_law_23 n K xs L (nI i) (nI k) (nI (k + wB D w f k q)) (nI (q + 1)) s8 (jL f.1) (jL f.2.1) (jL f.2.2) (jL D) (jL w) (jL (wR D w f k).1) (jL (wR D w f k).2.1) (jL (wR D w f k).2.2) (jL D) (jL w) (jL (wN D w f k q).1) (jL (wN D w f k q).2.1) (jL (wN D w f k q).2.2) (jL D) (jL w) wa0 wa1 wa2 wa3 wa4 m2 k3 k4 k5 k6 z0 z1 z2 z3 sg c0 (jL f.1) (jL f.2.1) (jL f.2.2) (jL D) (jL w) x6 x7 x8 x9 (jL (wN D w f k q).1) (jL (wN D w f k q).2.1) (jL (wN D w f k q).2.2) (nI (m + 3)) v ol = some 1
set_option maxHeartbeats 4000000 in
theorem lawp_step {n : Nat} (hn : 600000 ≤ n) (xs : Nat → Int32) (L : Nat) (hL : L ≤ 2048) (K i : Nat) (hi : i ≤ L) (ih : i + 4 ≤ L → LAW n xs L K (i + 4)) : LAW n xs L (K + 1) i := by
  intro D w f k q m s8 wa0 wa1 wa2 wa3 wa4 m2 k3 k4 k5 k6 z0 z1 z2 z3 sg c0 x6 x7 x8 x9 v ol h ha hb hc hm hr hM
  have eL : nI L - 4 = Int32.ofInt ((L : Int) - 4) := by rw [Int32.ofInt_sub]; rfl
  have hcond : (nI L - 4 < nI i) ↔ L < i + 4 := by
    rw [eL, Int32.lt_iff_toInt_lt, Int32.toInt_ofInt_of_le (by omega) (by omega), nI_toInt (by omega)]
    omega
  rw [f_L_law_23]
  by_cases q0 : L < i + 4
  · rw [if_pos (hcond.mpr q0)]
  have ih := ih (by omega)
  rw [if_neg (fun y => q0 (hcond.mp y))]
  have e1 : nI i + 1 = nI (i + 1) := (nI_succ i).symm
  have e2 : nI i + 2 = nI (i + 2) := by rw [show (2 : Int32) = nI 2 from rfl, nI_pl]
  have e3 : nI i + 3 = nI (i + 3) := by rw [show (3 : Int32) = nI 3 from rfl, nI_pl]
  have e4 : nI i + 4 = nI (i + 4) := by rw [show (4 : Int32) = nI 4 from rfl, nI_pl]
  have n0 : (nI i).toNatClampNeg = i := nI_clamp (by omega)
  have n1 : (nI (i + 1)).toNatClampNeg = i + 1 := nI_clamp (by omega)
  have n2 : (nI (i + 2)).toNatClampNeg = i + 2 := nI_clamp (by omega)
  have n3 : (nI (i + 3)).toNatClampNeg = i + 3 := nI_clamp (by omega)
  have ix : ∀ j, j < L → ¬ (nI j < 0 ∨ L ≤ j) := fun j hj => by
    rintro (y | y)
    · exact nI_not_neg (by omega) y
    · omega
  have i0 := ix i (by omega)
  have i1 := ix (i + 1) (by omega)
  have i2 := ix (i + 2) (by omega)
  have i3 := ix (i + 3) (by omega)
  rw [e1, e2, e3, e4, n0, n1, n2, n3, if_neg i0]
  generalize xs (i + 1) = p1
  generalize xs (i + 2) = p2
  generalize xs (i + 3) = p3
  by_cases d0 : (xs i &&& (15 : Int32)) = 0
  · -- take
    rw [if_pos d0, if_neg i1, if_neg i2, if_neg i3]
    obtain ⟨g1, g2⟩ := g_take hn (jL f.1) (jL f.2.1) (jL f.2.2) (jL D) (jL w) x6 x7 x8 x9 (jL (wN D w f k q).1) (jL (wN D w f k q).2.1) (jL (wN D w f k q).2.2) (nI (m + 3)) v p1 p2 p3
    by_cases hT : mTk p1.toInt p2.toInt p3.toInt
    · obtain ⟨w', k', q', v', m', tn', hy, hm', hr', hg⟩ := g1 hT
      have ht := p_take2 hn p1 p2 p3 hT hy
      have hl : ∀ s5 s6 s7 s8 ha0 ha1 ha2 ha3 ha4 re0 re1 re2 re3 re4 na0 na1 na2 na3 na4, f_L_take n s5 s6 s7 s8 ha0 ha1 ha2 ha3 ha4 re0 re1 re2 re3 re4 na0 na1 na2 na3 na4 wa0 wa1 wa2 wa3 wa4 ol p1 p2 p3 = some (0, vp_updL ol (0 : Int32).toNatClampNeg (jL (p2.toInt * p2.toInt - 4 * p1.toInt * p3.toInt)).toInt32.toInt64, _) := fun _ _ _ _ _ _ _ _ _ _ _ _ _ _ _ _ _ _ _ => by
        unfold f_L_take
        rw [ht, Option.bind_some]
      rw [hl, Option.bind_some, if_neg i1, if_neg i2, if_neg i3, hg, Option.bind_some]
      unfold f_X3_thrown
      rw [Option.bind_some]
      dsimp only
      rw [if_pos rfl, if_pos rfl, if_pos (updL_0 _ _)]
      exact ih _ w' (p1.toInt, p2.toInt, p3.toInt) k' q' m' 0 _ _ _ _ _ _ _ _ _ _ _ _ _ _ _ _ _ _ _ _ _ _ hy hT.1 hT.2.1 hT.2.2.1 hm' hr' (Or.inl rfl)
    · have hl : f_L_take n (nI k) (nI (k + wB D w f k q)) (nI (q + 1)) s8 (jL f.1) (jL f.2.1) (jL f.2.2) (jL D) (jL w) (jL (wR D w f k).1) (jL (wR D w f k).2.1) (jL (wR D w f k).2.2) (jL D) (jL w) (jL (wN D w f k q).1) (jL (wN D w f k q).2.1) (jL (wN D w f k q).2.2) (jL D) (jL w) wa0 wa1 wa2 wa3 wa4 ol p1 p2 p3 = some (1, ol, nI k, nI (k + wB D w f k q), nI (q + 1), s8, jL f.1, jL f.2.1, jL f.2.2, jL D, jL w, jL (wR D w f k).1, jL (wR D w f k).2.1, jL (wR D w f k).2.2, jL D, jL w, jL (wN D w f k q).1, jL (wN D w f k q).2.1, jL (wN D w f k q).2.2, jL D, jL w, wa0, wa1, wa2, wa3, wa4) := by
        unfold f_L_take
        rw [p_take2n hn p1 p2 p3 hT, Option.bind_some]
      rw [hl, Option.bind_some, if_neg i1, if_neg i2, if_neg i3, g2 hT, Option.bind_some]
      unfold f_X3_thrown
      rw [Option.bind_some]
      dsimp only
      rw [if_pos rfl, if_neg o10]
      exact ih D w f k q m s8 _ _ _ _ _ _ _ _ _ _ _ _ _ _ _ _ _ _ _ _ _ _ h ha hb hc hm hr hM
  rw [if_neg d0]
  by_cases d1 : (xs i &&& (15 : Int32)) = 1
  · -- form
    rw [if_pos d1, if_neg i1, if_neg i2]
    obtain ⟨o, r, cd, s6, s7, s8', s9, a1, a2, a3⟩ := p_form hn h p1 p2 x6 x7 x8 x9
    unfold f_L_form
    rw [a1, Option.bind_some]
    rcases a3 with ⟨rfl, rfl⟩ | ⟨rfl, rfl⟩
    · dsimp only
      rw [Option.bind_some, if_neg i1, if_neg i2, a2, Option.bind_some]
      unfold f_X3_thrown
      rw [Option.bind_some]
      dsimp only
      rw [if_pos rfl, if_neg o10]
      exact ih D w f k q m s8 _ _ _ _ _ _ _ _ _ _ _ _ _ _ _ _ _ _ _ _ _ _ h ha hb hc hm hr hM
    · dsimp only
      rw [Option.bind_some, if_neg i1, if_neg i2, a2, Option.bind_some]
      unfold f_X3_thrown
      rw [Option.bind_some]
      dsimp only
      rw [if_pos rfl, if_pos rfl, if_pos (updL_0 _ _)]
      exact ih D w f k q m s8 _ _ _ _ _ _ _ _ _ _ _ _ _ _ _ _ _ _ _ _ _ _ h ha hb hc hm hr hM
  rw [if_neg d1]
  by_cases d2 : (xs i &&& (15 : Int32)) = 2
  · -- count
    rw [if_pos d2, if_neg i1]
    obtain ⟨r, s6, s7, s8', s9, a1, a2⟩ := p_count hn h ha hb hc p1 x6 x7 x8 x9
    rw [a1, Option.bind_some, if_neg i1, a2, Option.bind_some]
    dsimp only
    rw [if_pos rfl]
    exact ih D w f k q m s8 _ _ _ _ _ _ _ _ _ _ _ _ _ _ _ _ _ _ _ _ _ _ h ha hb hc hm hr hM
  rw [if_neg d2]
  by_cases d3 : (xs i &&& (15 : Int32)) = 3
  · -- ring
    rw [if_pos d3, if_neg i1, if_neg i2]
    obtain ⟨o, r, cd, s6, s7, s8', s9, a1, a2, a3⟩ := p_ring hn h p1 p2 x6 x7 x8 x9
    unfold f_L_ring
    rw [a1, Option.bind_some]
    rcases a3 with ⟨rfl, rfl⟩ | ⟨⟨u, rfl⟩, rfl⟩
    · dsimp only
      rw [Option.bind_some, if_neg i1, if_neg i2, a2, Option.bind_some]
      unfold f_X3_thrown
      rw [Option.bind_some]
      dsimp only
      rw [if_pos rfl, if_neg o10]
      exact ih D w f k q m s8 _ _ _ _ _ _ _ _ _ _ _ _ _ _ _ _ _ _ _ _ _ _ h ha hb hc hm hr hM
    · dsimp only
      rw [Option.bind_some, if_neg i1, if_neg i2, a2, Option.bind_some]
      unfold f_X3_thrown
      rw [Option.bind_some]
      dsimp only
      rw [if_pos rfl, if_pos rfl, if_pos (updL_0 _ _)]
      exact ih D w f k q m s8 _ _ _ _ _ _ _ _ _ _ _ _ _ _ _ _ _ _ _ _ _ _ h ha hb hc hm hr hM
  rw [if_neg d3]
  by_cases d4 : (xs i &&& (15 : Int32)) = 4
  · -- together
    rw [if_pos d4, if_neg i1, if_neg i2, if_neg i3]
    obtain ⟨o, r, cd, s6, s7, s8', s9, a1, a2, a3⟩ := p_together hn h p1 p2 p3 x6 x7 x8 x9
    unfold f_L_together
    rw [a1, Option.bind_some]
    rcases a3 with ⟨rfl, rfl⟩ | ⟨⟨u, rfl⟩, rfl⟩
    · dsimp only
      rw [Option.bind_some, if_neg i1, if_neg i2, if_neg i3, a2, Option.bind_some]
      unfold f_X3_thrown
      rw [Option.bind_some]
      dsimp only
      rw [if_pos rfl, if_neg o10]
      exact ih D w f k q m s8 _ _ _ _ _ _ _ _ _ _ _ _ _ _ _ _ _ _ _ _ _ _ h ha hb hc hm hr hM
    · dsimp only
      by_cases r0 : r = 0
      · rw [if_pos r0, Option.bind_some, if_neg i1, if_neg i2, if_neg i3, a2, Option.bind_some]
        unfold f_X3_thrown
        rw [Option.bind_some]
        dsimp only
        rw [if_pos rfl, if_pos rfl, if_pos r0, if_pos (updL_0 _ _)]
        exact ih D w f k q m s8 _ _ _ _ _ _ _ _ _ _ _ _ _ _ _ _ _ _ _ _ _ _ h ha hb hc hm hr hM
      · rw [if_neg r0, Option.bind_some, if_neg i1, if_neg i2, if_neg i3, a2, Option.bind_some]
        unfold f_X3_thrown
        rw [Option.bind_some]
        dsimp only
        rw [if_pos rfl, if_pos rfl, if_neg r0, if_pos (updL_0 _ _)]
        exact ih D w f k q m s8 _ _ _ _ _ _ _ _ _ _ _ _ _ _ _ _ _ _ _ _ _ _ h ha hb hc hm hr hM
  rw [if_neg d4]
  by_cases d5 : (xs i &&& (15 : Int32)) = 5
  · -- sign
    rw [if_pos d5, if_neg i1]
    obtain ⟨o, r, v', cd, a1, a2, a3, a4⟩ := p_sign hn h wa0 wa1 wa2 wa3 wa4 k3 k4 k5 k6 hM hm hr p1
    unfold f_L_sign
    rw [a1, Option.bind_some]
    rcases a4 with ⟨rfl, c1⟩ | ⟨rfl, y0, y1, y2, y3, sg', g, wb0, wb1, wb2, wb3, wb4, l3, l4, l5, l6, rfl, hf, g1, g2⟩
    · dsimp only
      rw [Option.bind_some, if_neg i1, a2, Option.bind_some]
      unfold f_X3_thrown
      rw [Option.bind_some]
      dsimp only
      rw [if_pos rfl, if_neg c1]
      exact ih D w f k q m s8 _ _ _ _ _ _ _ _ _ _ _ _ _ _ _ _ _ _ _ _ _ _ h ha hb hc hm a3 hM
    · dsimp only
      rw [Option.bind_some, if_neg i1, a2, Option.bind_some]
      unfold f_X3_thrown
      rw [Option.bind_some]
      dsimp only
      rw [if_pos rfl, if_pos rfl, if_pos (updL_0 _ _)]
      exact ih D w f k q m 1 _ _ _ _ _ _ _ _ _ _ _ _ _ _ _ _ _ _ _ _ _ _ h ha hb hc hm a3 (Or.inr ⟨rfl, g, rfl, g1, g2, hf⟩)
  rw [if_neg d5]
  by_cases d6 : (xs i &&& (15 : Int32)) = 6
  · -- bits
    rw [if_pos d6, if_neg i1]
    obtain ⟨o, r, v', cd, a1, a2, a3, a4⟩ := p_bits hn h wa0 wa1 wa2 wa3 wa4 k3 k4 k5 k6 hM hm hr p1
    unfold f_L_bits
    rw [a1, Option.bind_some]
    rcases a4 with ⟨rfl, c1⟩ | ⟨rfl, y0, y1, y2, y3, sg', g, wb0, wb1, wb2, wb3, wb4, l3, l4, l5, l6, rfl, hf, g1, g2⟩
    · dsimp only
      rw [Option.bind_some, if_neg i1, a2, Option.bind_some]
      unfold f_X3_thrown
      rw [Option.bind_some]
      dsimp only
      rw [if_pos rfl, if_neg c1]
      exact ih D w f k q m s8 _ _ _ _ _ _ _ _ _ _ _ _ _ _ _ _ _ _ _ _ _ _ h ha hb hc hm a3 hM
    · dsimp only
      rw [Option.bind_some, if_neg i1, a2, Option.bind_some]
      unfold f_X3_thrown
      rw [Option.bind_some]
      dsimp only
      rw [if_pos rfl, if_pos rfl, if_pos (updL_0 _ _)]
      exact ih D w f k q m 1 _ _ _ _ _ _ _ _ _ _ _ _ _ _ _ _ _ _ _ _ _ _ h ha hb hc hm a3 (Or.inr ⟨rfl, g, rfl, g1, g2, hf⟩)
  rw [if_neg d6]
  by_cases d7 : (xs i &&& (15 : Int32)) = 7
  · -- word
    rw [if_pos d7, if_neg i1, if_neg i2]
    obtain ⟨o, r, v', cd, a1, a2, a3, a4⟩ := p_word hn h wa0 wa1 wa2 wa3 wa4 k3 k4 k5 k6 hM hm hr p1 p2
    unfold f_L_word
    rw [a1, Option.bind_some]
    rcases a4 with ⟨rfl, c1⟩ | ⟨rfl, y0, y1, y2, y3, sg', g, wb0, wb1, wb2, wb3, wb4, l3, l4, l5, l6, rfl, hf, g1, g2⟩
    · dsimp only
      rw [Option.bind_some, if_neg i1, if_neg i2, a2, Option.bind_some]
      unfold f_X3_thrown
      rw [Option.bind_some]
      dsimp only
      rw [if_pos rfl, if_neg c1]
      exact ih D w f k q m s8 _ _ _ _ _ _ _ _ _ _ _ _ _ _ _ _ _ _ _ _ _ _ h ha hb hc hm a3 hM
    · dsimp only
      rw [Option.bind_some, if_neg i1, if_neg i2, a2, Option.bind_some]
      unfold f_X3_thrown
      rw [Option.bind_some]
      dsimp only
      rw [if_pos rfl, if_pos rfl, if_pos (updL_0 _ _)]
      exact ih D w f k q m 1 _ _ _ _ _ _ _ _ _ _ _ _ _ _ _ _ _ _ _ _ _ _ h ha hb hc hm a3 (Or.inr ⟨rfl, g, rfl, g1, g2, hf⟩)
  rw [if_neg d7]
  by_cases d8 : (xs i &&& (15 : Int32)) = 8
  · -- residue
    rw [if_pos d8, if_neg i1, if_neg i2]
    obtain ⟨o, r, v', cd, a1, a2, a3, a4⟩ := p_residue hn h wa0 wa1 wa2 wa3 wa4 k3 k4 k5 k6 hM hm hr p1 p2
    unfold f_L_residue
    rw [a1, Option.bind_some]
    rcases a4 with ⟨rfl, c1⟩ | ⟨rfl, y0, y1, y2, y3, sg', g, wb0, wb1, wb2, wb3, wb4, l3, l4, l5, l6, rfl, hf, g1, g2⟩
    · dsimp only
      rw [Option.bind_some, if_neg i1, if_neg i2, a2, Option.bind_some]
      unfold f_X3_thrown
      rw [Option.bind_some]
      dsimp only
      rw [if_pos rfl, if_neg c1]
      exact ih D w f k q m s8 _ _ _ _ _ _ _ _ _ _ _ _ _ _ _ _ _ _ _ _ _ _ h ha hb hc hm a3 hM
    · dsimp only
      rw [Option.bind_some, if_neg i1, if_neg i2, a2, Option.bind_some]
      unfold f_X3_thrown
      rw [Option.bind_some]
      dsimp only
      rw [if_pos rfl, if_pos rfl, if_pos (updL_0 _ _)]
      exact ih D w f k q m 1 _ _ _ _ _ _ _ _ _ _ _ _ _ _ _ _ _ _ _ _ _ _ h ha hb hc hm a3 (Or.inr ⟨rfl, g, rfl, g1, g2, hf⟩)
  rw [if_neg d8]
  exact ih D w f k q m s8 _ _ _ _ _ _ _ _ _ _ _ _ _ _ _ _ _ _ _ _ _ _ h ha hb hc hm hr hM
theorem lawp_loop {n : Nat} (hn : 600000 ≤ n) (xs : Nat → Int32) (L : Nat) (hL : L ≤ 2048) : ∀ (K i : Nat), i ≤ L → L < i + 4 * K → LAW n xs L K i
  | 0, i, h1, h2 => by omega
  | K + 1, i, h1, h2 => lawp_step hn xs L hL K i h1 (fun q => lawp_loop hn xs L hL K (i + 4) q (by omega))
