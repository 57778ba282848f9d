theorem t_small {D w : Int} {f : Fm} (h : fF D w f) : mS (mT D w f.2.1 f.2.2) ≤ 1073742336 := by
  have hc := mF_c h
  have ts := t_size (D := D) (w := w) (b := f.2.1) hc
  have hb := mB_S h.2.2.1
  have hw := mF_w h
  have hc0 := mS_pos hc
  have hcB := mB_S h.2.2.2.1
  have t0 := mS_0 (mT D w f.2.1 f.2.2)
  rcases (show mS (mT D w f.2.1 f.2.2) ≤ 1073742336 ∨ 1073742337 ≤ mS (mT D w f.2.1 f.2.2) by omega) with z | z
  · exact z
  · have m1 : mS f.2.2 * 1073742337 ≤ mS f.2.2 * mS (mT D w f.2.1 f.2.2) := Int.mul_le_mul_of_nonneg_left z (by omega)
    rcases mF_D h with hD | hD
    · have he := e_near (w := w) (b := f.2.1) hc (Or.inl hD)
      omega
    · rcases (show w < mS f.2.2 ∨ mS f.2.2 ≤ w by omega) with y | y
      · have he := e_near (D := D) (b := f.2.1) hc (Or.inr y)
        omega
      · have he := e_far (b := f.2.1) hc hD y
        omega
theorem k_great {n : Nat} {v : Int} (hv : jR v) : f_X1_isTooGreat n (jL v) = some (if 536870912 < v ∨ v < -536870912 then 1 else 0) := by
  unfold f_X1_isTooGreat
  have l1 : (536870912 : Int64) = jL 536870912 := by decide
  have l2 : (-536870912 : Int64) = jL (-536870912) := by decide
  have r1 : jR 536870912 := ⟨by decide, by decide⟩
  have r2 : jR (-536870912) := ⟨by decide, by decide⟩
  rw [l2, l1]
  by_cases q1 : 536870912 < v
  · rw [if_pos ((jL_lt r1 hv).mpr q1), if_pos (Or.inl q1)]
  · rw [if_neg (fun y => q1 ((jL_lt r1 hv).mp y))]
    by_cases q2 : v < -536870912
    · rw [if_pos ((jL_lt hv r2).mpr q2), if_pos (Or.inr q2)]
    · rw [if_neg (fun y => q2 ((jL_lt hv r2).mp y)), if_neg (by omega)]
def nxt (t : Int) (M : M4) : M4 := (t * M.1 + M.2.2.1, t * M.2.1 + M.2.2.2, -M.1, -M.2.1)
theorem mm_nxt (t : Int) (W N : M4) : mm (nxt t W) N = nxt t (mm W N) := by
  unfold mm nxt
  dsimp only
  refine Prod.ext ?_ (Prod.ext ?_ (Prod.ext ?_ ?_))
  · show (t * W.1 + W.2.2.1) * N.1 + (t * W.2.1 + W.2.2.2) * N.2.2.1 = t * (W.1 * N.1 + W.2.1 * N.2.2.1) + (W.2.2.1 * N.1 + W.2.2.2 * N.2.2.1)
    grind
  · show (t * W.1 + W.2.2.1) * N.2.1 + (t * W.2.1 + W.2.2.2) * N.2.2.2 = t * (W.1 * N.2.1 + W.2.1 * N.2.2.2) + (W.2.2.1 * N.2.1 + W.2.2.2 * N.2.2.2)
    grind
  · show -W.1 * N.1 + -W.2.1 * N.2.2.1 = -(W.1 * N.1 + W.2.1 * N.2.2.1)
    grind
  · show -W.1 * N.2.1 + -W.2.1 * N.2.2.2 = -(W.1 * N.2.1 + W.2.1 * N.2.2.2)
    grind
theorem mm_one (N : M4) : mm (1, 0, 0, 1) N = N := by
  unfold mm
  refine Prod.ext ?_ (Prod.ext ?_ (Prod.ext ?_ ?_))
  · show 1 * N.1 + 0 * N.2.2.1 = N.1; omega
  · show 1 * N.2.1 + 0 * N.2.2.2 = N.2.1; omega
  · show 0 * N.1 + 1 * N.2.2.1 = N.2.2.1; omega
  · show 0 * N.2.1 + 1 * N.2.2.2 = N.2.2.2; omega
def wok (W : M4) : Prop := mS W.1 + mS W.2.1 ≤ 1073742848 ∧ mS W.2.2.1 + mS W.2.2.2 ≤ 1073742848
theorem k_undo {n len : Nat} (hn : 300 ≤ n) {z0 z1 z2 z3 : Nat → Int32} {N W : M4} {t : Int} (ht : mS t ≤ 1073742336) (h1 : 1 ≤ len) (h2 : len ≤ 256) (h : cls z0 z1 z2 z3 len N) (hW : wok W) (hb : mlt (mm W N)) :
    ∃ y0 y1 y2 y3 g V K, f_X1_undoStep n (nI len) (jL W.1) (jL W.2.1) (jL W.2.2.1) (jL W.2.2.2) z0 z1 z2 z3 (jL t) = some (y0, y1, y2, y3, nI g, jL V.1, jL V.2.1, jL V.2.2.1, jL V.2.2.2) ∧ cls y0 y1 y2 y3 g K ∧ 1 ≤ g ∧ g ≤ 256 ∧ wok V ∧ mm V K = nxt t (mm W N) := by
  have rw1 : ∀ p q : Int, mS p ≤ 1073742848 → mS q ≤ 1073742848 → jR (t * p + q) := fun p q hp hq => by
    have i1 := im_abs_mul (t := t) (x := p) (T := 1073742336) (X := 1073742848) (by have := im_S t; omega) (by have := im_S t; omega) (by have := im_S p; omega) (by have := im_S p; omega) (by decide)
    have := im_S q
    exact ⟨by omega, by omega⟩
  have s0 := mS_0 W.1
  have s1 := mS_0 W.2.1
  have s2 := mS_0 W.2.2.1
  have s3 := mS_0 W.2.2.2
  have g1 := k_great (n := n) (rw1 W.1 W.2.2.1 (by have := hW.1; omega) (by have := hW.2; omega))
  have g2 := k_great (n := n) (rw1 W.2.1 W.2.2.2 (by have := hW.1; omega) (by have := hW.2; omega))
  obtain ⟨y0, y1, y2, y3, g, a1, a2, a3, a4⟩ := k_mulW (n := n) hn h1 h2 h hW.1 hW.2 hb
  have mul : ∃ y0 y1 y2 y3 g V K, (f_X1_multiplyWaiting n (nI len) (jL W.1) (jL W.2.1) (jL W.2.2.1) (jL W.2.2.2) z0 z1 z2 z3).bind (fun r_15 => f_X1_undoStep_38 n (jL t) r_15.1 r_15.2.1 r_15.2.2.1 r_15.2.2.2.1 r_15.2.2.2.2.1 r_15.2.2.2.2.2.1 r_15.2.2.2.2.2.2.1 r_15.2.2.2.2.2.2.2.1 r_15.2.2.2.2.2.2.2.2) = some (y0, y1, y2, y3, nI g, jL V.1, jL V.2.1, jL V.2.2.1, jL V.2.2.2) ∧ cls y0 y1 y2 y3 g K ∧ 1 ≤ g ∧ g ≤ 256 ∧ wok V ∧ mm V K = nxt t (mm W N) := by
    refine ⟨y0, y1, y2, y3, g, nxt t (1, 0, 0, 1), mm W N, ?_, a2, a3, a4, ?_, ?_⟩
    · rw [a1, Option.bind_some]
      unfold f_X1_undoStep_38
      dsimp only
      rw [jL_1, jL_0, jL_mul, jL_mul, jL_add, jL_add, jL_neg, jL_neg]
      rfl
    · refine ⟨?_, ?_⟩
      · show mS (t * 1 + 0) + mS (t * 0 + 1) ≤ _
        rw [Int.mul_one, Int.mul_zero, Int.add_zero, Int.zero_add]
        have : mS 1 = 1 := by decide
        omega
      · show mS (-1) + mS (-0) ≤ _
        decide
    · rw [mm_nxt, mm_one]
  unfold f_X1_undoStep
  rw [jL_mul, jL_add, jL_mul, jL_add, g1, Option.bind_some]
  by_cases q1 : 536870912 < t * W.1 + W.2.2.1 ∨ t * W.1 + W.2.2.1 < -536870912
  · rw [if_pos q1, if_neg o10]
    exact mul
  · rw [if_neg q1, if_pos rfl, g2, Option.bind_some]
    by_cases q2 : 536870912 < t * W.2.1 + W.2.2.2 ∨ t * W.2.1 + W.2.2.2 < -536870912
    · rw [if_pos q2, if_neg o10]
      exact mul
    · rw [if_neg q2, if_pos rfl]
      refine ⟨z0, z1, z2, z3, len, nxt t W, N, ?_, h, h1, h2, ⟨?_, ?_⟩, mm_nxt t W N⟩
      · unfold f_X1_undoStep_38
        rw [jL_mul, jL_add, jL_mul, jL_add, jL_neg, jL_neg]
        rfl
      · show mS (t * W.1 + W.2.2.1) + mS (t * W.2.1 + W.2.2.2) ≤ _
        have i1 := im_S (t * W.1 + W.2.2.1)
        have i2 := im_S (t * W.2.1 + W.2.2.2)
        omega
      · show mS (-W.1) + mS (-W.2.1) ≤ _
        rw [mS_neg, mS_neg]
        exact hW.1
theorem mxs_s (D w : Int) (f : Fm) (i : Nat) : mxs D w f (i + 1) = nxt (mT D w (itn D w i f).2.1 (itn D w i f).2.2) (mxs D w f i) := by rw [mxs]; rfl
theorem mx_lt {D w : Int} {f : Fm} {k q : Nat} (h : wy D w f k q) {i : Nat} (hi : i ≤ k + wB D w f k q) : mlt (mxs D w f i) := mx_bound h i hi
theorem k_loop {n : Nat} (hn : 300 ≤ n) {D w : Int} {f : Fm} {k q : Nat} (h : wy D w f k q) (hL : k + wB D w f k q < 600000) (sg : Nat → Int32) (s8 : Int32) :
    ∀ (d i K len : Nat) (z0 z1 z2 z3 : Nat → Int32) (N W : M4), i + d = k + wB D w f k q → d < K → 1 ≤ len → len ≤ 256 → cls z0 z1 z2 z3 len N → wok W → mm W N = mxs D w f i →
      ∃ y0 y1 y2 y3 g V Kk, cls y0 y1 y2 y3 g Kk ∧ 1 ≤ g ∧ g ≤ 256 ∧ wok V ∧ mm V Kk = mxs D w f (k + wB D w f k q) ∧
        f_X2_makeMatrix_28 n K (nI (k + wB D w f k q)) (nI i) z0 z1 z2 z3 sg s8 (jL (itn D w i f).1) (jL (itn D w i f).2.1) (jL (itn D w i f).2.2) (jL D) (jL w) (nI len) (jL W.1) (jL W.2.1) (jL W.2.2.1) (jL W.2.2.2)
        = (f_X1_finish n (nI g) (jL V.1) (jL V.2.1) (jL V.2.2.1) (jL V.2.2.2) y0 y1 y2 y3 sg).bind (fun r_3 => some (r_3.1, r_3.2.1, r_3.2.2.1, r_3.2.2.2.1, r_3.2.2.2.2.1, 1, jL (wN D w f k q).1, jL (wN D w f k q).2.1, jL (wN D w f k q).2.2, jL D, jL w, r_3.2.2.2.2.2.1, r_3.2.2.2.2.2.2.1, r_3.2.2.2.2.2.2.2.1, r_3.2.2.2.2.2.2.2.2.1, r_3.2.2.2.2.2.2.2.2.2))
  | d, i, 0, len, z0, z1, z2, z3, N, W, hi, hK, _, _, _, _, _ => by omega
  | 0, i, K + 1, len, z0, z1, z2, z3, N, W, hi, hK, h1, h2, hc, hW, hm => by
    have e : i = k + wB D w f k q := by omega
    have eN : itn D w i f = wN D w f k q := ((way_at h (i := i) (by omega)).1 e).2
    refine ⟨z0, z1, z2, z3, len, W, N, hc, h1, h2, hW, by rw [hm, e], ?_⟩
    rw [f_X2_makeMatrix_28, if_neg (fun y => by have := (nI_ltI (by omega) (by omega)).mp y; omega), eN]
  | d + 1, i, K + 1, len, z0, z1, z2, z3, N, W, hi, hK, h1, h2, hc, hW, hm => by
    have hF := fF_itn i f h.1
    have hb := mx_lt h (i := i) (by omega)
    rw [← hm] at hb
    obtain ⟨y0, y1, y2, y3, g, V, Kk, a1, a2, a3, a4, a5, a6⟩ := k_undo (n := n) hn (t_small hF) h1 h2 hc hW hb
    obtain ⟨x0, x1, x2, x3, g', V', K', b1, b2, b3, b4, b5, b6⟩ := k_loop hn h hL sg s8 d (i + 1) K g y0 y1 y2 y3 Kk V (by omega) (by omega) a3 a4 a2 a5 (by rw [a6, hm, mxs_s])
    refine ⟨x0, x1, x2, x3, g', V', K', b1, b2, b3, b4, b5, ?_⟩
    rw [f_X2_makeMatrix_28, if_pos (nI_lt (by omega) (by omega)), fF_goOn hF, Option.bind_some]
    dsimp only
    rw [a1, Option.bind_some, ← nI_succ]
    rw [itn_s] at b6
    exact b6
