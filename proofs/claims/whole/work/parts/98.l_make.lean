theorem k_fin {n len : Nat} (hn : 300 ≤ n) {z0 z1 z2 z3 sg : Nat → Int32} {N W : M4} (h1 : 1 ≤ len) (h2 : len ≤ 256) (h : cls z0 z1 z2 z3 len N) (hW : wok W) (hb : mlt (mm W N)) :
    ∃ y0 y1 y2 y3 sg' g, f_X1_finish n (nI len) (jL W.1) (jL W.2.1) (jL W.2.2.1) (jL W.2.2.2) z0 z1 z2 z3 sg = some (y0, y1, y2, y3, sg', nI g, 1, 0, 0, 1) ∧ fin4 y0 y1 y2 y3 sg' g (mm W N) ∧ 1 ≤ g ∧ g ≤ 256 := by
  obtain ⟨u0, u1, u2, u3, g, a1, ⟨b0, b1, b2, b3⟩, a3, a4⟩ := k_mulW (n := n) hn h1 h2 h hW.1 hW.2 hb
  have s0 := k_sign (n := n) hn a3 a4 b0
  have s1 := k_sign (n := n) hn a3 a4 b1
  have s2 := k_sign (n := n) hn a3 a4 b2
  have s3 := k_sign (n := n) hn a3 a4 b3
  obtain ⟨y0, c0, d0, e0⟩ := k_one (n := n) hn a4 b0
  obtain ⟨y1, c1, d1, e1⟩ := k_one (n := n) hn a4 b1
  obtain ⟨y2, c2, d2, e2⟩ := k_one (n := n) hn a4 b2
  obtain ⟨y3, c3, d3, e3⟩ := k_one (n := n) hn a4 b3
  refine ⟨y0, y1, y2, y3, upd (upd (upd (upd sg 0 (sg32 (mm W N).1)) 1 (sg32 (mm W N).2.1)) 2 (sg32 (mm W N).2.2.1)) 3 (sg32 (mm W N).2.2.2), g, ?_, ⟨c0, c1, c2, c3, ?_, ?_, ?_, ?_⟩, a3, a4⟩
  · have i0 : ¬ ((0 : Int32) < 0 ∨ 4 ≤ (0 : Int32).toNatClampNeg) := by decide
    have i1 : ¬ ((1 : Int32) < 0 ∨ 4 ≤ (1 : Int32).toNatClampNeg) := by decide
    have i2 : ¬ ((2 : Int32) < 0 ∨ 4 ≤ (2 : Int32).toNatClampNeg) := by decide
    have i3 : ¬ ((3 : Int32) < 0 ∨ 4 ≤ (3 : Int32).toNatClampNeg) := by decide
    unfold f_X1_finish
    rw [a1, Option.bind_some]
    dsimp only
    rw [s0, Option.bind_some, if_neg i0, if_neg i0, upd_at]
    by_cases q0 : sg32 (mm W N).1 < 0
    · rw [if_pos q0, d0 q0, Option.bind_some, s1, Option.bind_some, if_neg i1, if_neg i1, upd_at]
      by_cases q1 : sg32 (mm W N).2.1 < 0
      · rw [if_pos q1, d1 q1, Option.bind_some, s2, Option.bind_some, if_neg i2, if_neg i2, upd_at]
        by_cases q2 : sg32 (mm W N).2.2.1 < 0
        · rw [if_pos q2, d2 q2, Option.bind_some, s3, Option.bind_some, if_neg i3, if_neg i3, upd_at]
          by_cases q3 : sg32 (mm W N).2.2.2 < 0
          · rw [if_pos q3, d3 q3, Option.bind_some]; rfl
          · rw [if_neg q3, e3 q3]; rfl
        · rw [if_neg q2, e2 q2, s3, Option.bind_some, if_neg i3, if_neg i3, upd_at]
          by_cases q3 : sg32 (mm W N).2.2.2 < 0
          · rw [if_pos q3, d3 q3, Option.bind_some]; rfl
          · rw [if_neg q3, e3 q3]; rfl
      · rw [if_neg q1, e1 q1, s2, Option.bind_some, if_neg i2, if_neg i2, upd_at]
        by_cases q2 : sg32 (mm W N).2.2.1 < 0
        · rw [if_pos q2, d2 q2, Option.bind_some, s3, Option.bind_some, if_neg i3, if_neg i3, upd_at]
          by_cases q3 : sg32 (mm W N).2.2.2 < 0
          · rw [if_pos q3, d3 q3, Option.bind_some]; rfl
          · rw [if_neg q3, e3 q3]; rfl
        · rw [if_neg q2, e2 q2, s3, Option.bind_some, if_neg i3, if_neg i3, upd_at]
          by_cases q3 : sg32 (mm W N).2.2.2 < 0
          · rw [if_pos q3, d3 q3, Option.bind_some]; rfl
          · rw [if_neg q3, e3 q3]; rfl
    · rw [if_neg q0, e0 q0, s1, Option.bind_some, if_neg i1, if_neg i1, upd_at]
      by_cases q1 : sg32 (mm W N).2.1 < 0
      · rw [if_pos q1, d1 q1, Option.bind_some, s2, Option.bind_some, if_neg i2, if_neg i2, upd_at]
        by_cases q2 : sg32 (mm W N).2.2.1 < 0
        · rw [if_pos q2, d2 q2, Option.bind_some, s3, Option.bind_some, if_neg i3, if_neg i3, upd_at]
          by_cases q3 : sg32 (mm W N).2.2.2 < 0
          · rw [if_pos q3, d3 q3, Option.bind_some]; rfl
          · rw [if_neg q3, e3 q3]; rfl
        · rw [if_neg q2, e2 q2, s3, Option.bind_some, if_neg i3, if_neg i3, upd_at]
          by_cases q3 : sg32 (mm W N).2.2.2 < 0
          · rw [if_pos q3, d3 q3, Option.bind_some]; rfl
          · rw [if_neg q3, e3 q3]; rfl
      · rw [if_neg q1, e1 q1, s2, Option.bind_some, if_neg i2, if_neg i2, upd_at]
        by_cases q2 : sg32 (mm W N).2.2.1 < 0
        · rw [if_pos q2, d2 q2, Option.bind_some, s3, Option.bind_some, if_neg i3, if_neg i3, upd_at]
          by_cases q3 : sg32 (mm W N).2.2.2 < 0
          · rw [if_pos q3, d3 q3, Option.bind_some]; rfl
          · rw [if_neg q3, e3 q3]; rfl
        · rw [if_neg q2, e2 q2, s3, Option.bind_some, if_neg i3, if_neg i3, upd_at]
          by_cases q3 : sg32 (mm W N).2.2.2 < 0
          · rw [if_pos q3, d3 q3, Option.bind_some]; rfl
          · rw [if_neg q3, e3 q3]; rfl
  · rw [upd_ne _ _ (by decide), upd_ne _ _ (by decide), upd_ne _ _ (by decide), upd_at]
  · rw [upd_ne _ _ (by decide), upd_ne _ _ (by decide), upd_at]
  · rw [upd_ne _ _ (by decide), upd_at]
  · rw [upd_at]
/-- makeMatrix, whole: not made yet -/
theorem k_make {n : Nat} (hn : 600000 ≤ n) {D w : Int} {f : Fm} {k q : Nat} (h : wy D w f k q) (wa0 wa1 wa2 wa3 wa4 : Int64) (m2 : Int32) (m3 m4 m5 m6 : Int64) (z0 z1 z2 z3 sg : Nat → Int32) :
    ∃ y0 y1 y2 y3 sg' g, fin4 y0 y1 y2 y3 sg' g (mxs D w f (k + wB D w f k q)) ∧ 1 ≤ g ∧ g ≤ 256 ∧
      f_X2_makeMatrix n (nI (k + wB D w f k q)) 0 (jL f.1) (jL f.2.1) (jL f.2.2) (jL D) (jL w) wa0 wa1 wa2 wa3 wa4 m2 m3 m4 m5 m6 z0 z1 z2 z3 sg
      = some (y0, y1, y2, y3, sg', 1, jL (wN D w f k q).1, jL (wN D w f k q).2.1, jL (wN D w f k q).2.2, jL D, jL w, nI g, 1, 0, 0, 1) := by
  have hb := fBest_le D w (itn D w k f) q
  have hk := h.2.1
  have hq := h.2.2.2.2.1
  have hL : k + wB D w f k q < 600000 := by
    have : wB D w f k q = fBest D w (itn D w k f) q := rfl
    omega
  obtain ⟨x0, x1, x2, x3, a1, a2⟩ := k_begin (n := n) (z0 := z0) (z1 := z1) (z2 := z2) (z3 := z3)
  obtain ⟨y0, y1, y2, y3, g, V, K, b1, b2, b3, b4, b5, b6⟩ := k_loop (n := n) (by omega) h hL sg 0 (k + wB D w f k q) 0 n 1 x0 x1 x2 x3 (1, 0, 0, 1) (1, 0, 0, 1) (by omega) (by omega) (by decide) (by decide) a2 ⟨by decide, by decide⟩ (by rw [mm_one]; rfl)
  have hm := mx_lt h (i := k + wB D w f k q) (by omega)
  rw [← b5] at hm
  obtain ⟨p0, p1, p2, p3, sg', g', c1, c2, c3, c4⟩ := k_fin (n := n) (sg := sg) (by omega) b2 b3 b1 b4 hm
  rw [b5] at c2
  refine ⟨p0, p1, p2, p3, sg', g', c2, c3, c4, ?_⟩
  unfold f_X2_makeMatrix f_X0_copy
  rw [if_pos rfl, Option.bind_some, a1, Option.bind_some]
  dsimp only
  have b6' : f_X2_makeMatrix_28 n n (nI (k + wB D w f k q)) 0 x0 x1 x2 x3 sg 0 (jL f.1) (jL f.2.1) (jL f.2.2) (jL D) (jL w) 1 1 0 0 1 = _ := b6
  rw [b6', c1, Option.bind_some]
