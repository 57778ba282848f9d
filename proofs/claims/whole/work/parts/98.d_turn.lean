/-- turnBack once there is room -/
theorem g_turn36 {n m : Nat} {t : Int} {w : Nat → Int32} {M : Int × Int × Int × Int} (hn : 1200 ≤ n) (hg : m + 3 ≤ 1100) (t1 : -4294967296 ≤ t) (t2 : t ≤ 4294967296) (h : rows w (m + 3) M) (hr : ∀ i, i < 4 → -(65536 ^ m) ≤ m4 M i ∧ m4 M i ≤ 65536 ^ m) :
    ∃ w', f_X3_turnBack_36 n (jL t) w (nI (m + 3)) = some (w', nI (m + 3)) ∧ rows w' (m + 3) (t * M.1 + M.2.2.1, t * M.2.1 + M.2.2.2, -M.1, -M.2.1) := by
  have hP : (0 : Int) < 65536 ^ m := Int.pow_pos (by decide)
  have eP : (65536 : Int) ^ (m + 3) = 281474976710656 * 65536 ^ m := by
    rw [show m + 3 = m + 1 + 1 + 1 from rfl, Int.pow_succ, Int.pow_succ, Int.pow_succ]
    generalize (65536 : Int) ^ m = P
    grind
  have d0 := h 0 (by decide)
  have d1 := h 1 (by decide)
  have d2 := h 2 (by decide)
  have d3 := h 3 (by decide)
  have b0 : -(65536 ^ m) ≤ M.1 ∧ M.1 ≤ 65536 ^ m := hr 0 (by decide)
  have b1 : -(65536 ^ m) ≤ M.2.1 ∧ M.2.1 ≤ 65536 ^ m := hr 1 (by decide)
  have b2 : -(65536 ^ m) ≤ M.2.2.1 ∧ M.2.2.1 ≤ 65536 ^ m := hr 2 (by decide)
  have b3 : -(65536 ^ m) ≤ M.2.2.2 ∧ M.2.2.2 ≤ 65536 ^ m := hr 3 (by decide)
  have c0 : rp 65536 (dg w 0) (m + 3) M.1 := d0
  have c1 : rp 65536 (dg w 1) (m + 3) M.2.1 := d1
  have c2 : rp 65536 (dg w 2) (m + 3) M.2.2.1 := d2
  have c3 : rp 65536 (dg w 3) (m + 3) M.2.2.2 := d3
  have mod0 : ∀ {r : Nat → Int} {z : Int}, rp 65536 r (m + 3) z → ∃ e, pl 65536 r (m + 3) = z + e * 65536 ^ (m + 3) := fun {r z} q => by
    rcases q.2.1 with q | q
    · exact ⟨0, by omega⟩
    · exact ⟨1, by omega⟩
  -- row 4
  obtain ⟨w1, k1, f1, r1, x1, v1⟩ := g_comb (n := n) (a1 := 4) (a2 := 0) (a4 := 2) (g := m + 3) (t := t) (by decide) (by decide) (by decide) (by decide) (by decide) hg t1 t2 (m + 3) 0 n 0 w (by omega) (by omega) (by decide) (by decide) c0.1 c2.1
  have z4 : rp 65536 (dg w1 4) (m + 3) (t * M.1 + M.2.2.1) := by
    have hl := m_lin (Int.le_of_lt hP) b0.1 b0.2 b2.1 b2.2 t1 t2
    refine rp_of (by decide) (fun j hj => r1 j (by omega) hj) ?_ (by rw [eP]; omega) (by rw [eP]; omega)
    obtain ⟨e0, q0⟩ := mod0 c0
    obtain ⟨e2, q2⟩ := mod0 c2
    simp only [Nat.zero_add] at v1
    refine ⟨t * e0 + e2 - x1, ?_⟩
    have w0 : t * pl 65536 (fun x => dg w 0 x) (m + 3) + pl 65536 (fun x => dg w 2 x) (m + 3) + 0 = pl 65536 (fun x => dg w1 4 x) (m + 3) + x1 * 65536 ^ (m + 3) := v1
    rw [show (pl 65536 (fun x => dg w 0 x) (m + 3)) = _ from q0, show (pl 65536 (fun x => dg w 2 x) (m + 3)) = _ from q2] at w0
    show pl 65536 (fun x => dg w1 4 x) (m + 3) = _
    generalize (65536 : Int) ^ (m + 3) = PP at *
    generalize pl 65536 (fun x => dg w1 4 x) (m + 3) = L at *
    grind
  have s1 : ∀ i j, i ≠ 4 → j < 1100 → dg w1 i j = dg w i j := fun i j q1 q2 => by
    show (w1 (1100 * i + j)).toInt = _
    rw [f1 _ (by omega)]
  -- row 5
  have c1' : rp 65536 (dg w1 1) (m + 3) M.2.1 := rp_congr (fun j hj => (s1 1 j (by decide) (by omega)).symm) c1
  have c3' : rp 65536 (dg w1 3) (m + 3) M.2.2.2 := rp_congr (fun j hj => (s1 3 j (by decide) (by omega)).symm) c3
  obtain ⟨w2, k2, f2, r2, x2, v2⟩ := g_comb (n := n) (a1 := 5) (a2 := 1) (a4 := 3) (g := m + 3) (t := t) (by decide) (by decide) (by decide) (by decide) (by decide) hg t1 t2 (m + 3) 0 n 0 w1 (by omega) (by omega) (by decide) (by decide) c1'.1 c3'.1
  have z5 : rp 65536 (dg w2 5) (m + 3) (t * M.2.1 + M.2.2.2) := by
    have hl := m_lin (Int.le_of_lt hP) b1.1 b1.2 b3.1 b3.2 t1 t2
    refine rp_of (by decide) (fun j hj => r2 j (by omega) hj) ?_ (by rw [eP]; omega) (by rw [eP]; omega)
    obtain ⟨e0, q0⟩ := mod0 c1'
    obtain ⟨e2, q2⟩ := mod0 c3'
    simp only [Nat.zero_add] at v2
    refine ⟨t * e0 + e2 - x2, ?_⟩
    have w0 : t * pl 65536 (fun x => dg w1 1 x) (m + 3) + pl 65536 (fun x => dg w1 3 x) (m + 3) + 0 = pl 65536 (fun x => dg w2 5 x) (m + 3) + x2 * 65536 ^ (m + 3) := v2
    rw [show (pl 65536 (fun x => dg w1 1 x) (m + 3)) = _ from q0, show (pl 65536 (fun x => dg w1 3 x) (m + 3)) = _ from q2] at w0
    show pl 65536 (fun x => dg w2 5 x) (m + 3) = _
    generalize (65536 : Int) ^ (m + 3) = PP at *
    generalize pl 65536 (fun x => dg w2 5 x) (m + 3) = L at *
    grind
  have s2 : ∀ i j, i ≠ 5 → j < 1100 → dg w2 i j = dg w1 i j := fun i j q1 q2 => by
    show (w2 (1100 * i + j)).toInt = _
    rw [f2 _ (by omega)]
  -- row 2
  have c0' : rp 65536 (dg w2 0) (m + 3) M.1 := rp_congr (fun j hj => by rw [s2 0 j (by decide) (by omega), s1 0 j (by decide) (by omega)]) c0
  obtain ⟨w3, k3, f3, r3, x3, v3⟩ := g_neg (n := n) (a1 := 2) (a2 := 0) (g := m + 3) (by decide) (by decide) (by decide) hg (m + 3) 0 n 1 w2 (by omega) (by omega) (by decide) (by decide) c0'.1
  have z2 : rp 65536 (dg w3 2) (m + 3) (-M.1) := by
    refine rp_of (by decide) (fun j hj => r3 j (by omega) hj) ?_ (by rw [eP]; omega) (by rw [eP]; omega)
    obtain ⟨e0, q0⟩ := mod0 c0'
    simp only [Nat.zero_add] at v3
    refine ⟨1 - e0 - x3, ?_⟩
    have w0 : 65536 ^ (m + 3) - 1 - pl 65536 (fun x => dg w2 0 x) (m + 3) + 1 = pl 65536 (fun x => dg w3 2 x) (m + 3) + x3 * 65536 ^ (m + 3) := v3
    rw [show (pl 65536 (fun x => dg w2 0 x) (m + 3)) = _ from q0] at w0
    show pl 65536 (fun x => dg w3 2 x) (m + 3) = _
    generalize (65536 : Int) ^ (m + 3) = PP at *
    generalize pl 65536 (fun x => dg w3 2 x) (m + 3) = L at *
    grind
  have s3 : ∀ i j, i ≠ 2 → j < 1100 → dg w3 i j = dg w2 i j := fun i j q1 q2 => by
    show (w3 (1100 * i + j)).toInt = _
    rw [f3 _ (by omega)]
  -- row 3
  have c1'' : rp 65536 (dg w3 1) (m + 3) M.2.1 := rp_congr (fun j hj => by rw [s3 1 j (by decide) (by omega), s2 1 j (by decide) (by omega)]) c1'
  obtain ⟨w4, k4, f4, r4, x4, v4⟩ := g_neg (n := n) (a1 := 3) (a2 := 1) (g := m + 3) (by decide) (by decide) (by decide) hg (m + 3) 0 n 1 w3 (by omega) (by omega) (by decide) (by decide) c1''.1
  have z3 : rp 65536 (dg w4 3) (m + 3) (-M.2.1) := by
    refine rp_of (by decide) (fun j hj => r4 j (by omega) hj) ?_ (by rw [eP]; omega) (by rw [eP]; omega)
    obtain ⟨e0, q0⟩ := mod0 c1''
    simp only [Nat.zero_add] at v4
    refine ⟨1 - e0 - x4, ?_⟩
    have w0 : 65536 ^ (m + 3) - 1 - pl 65536 (fun x => dg w3 1 x) (m + 3) + 1 = pl 65536 (fun x => dg w4 3 x) (m + 3) + x4 * 65536 ^ (m + 3) := v4
    rw [show (pl 65536 (fun x => dg w3 1 x) (m + 3)) = _ from q0] at w0
    show pl 65536 (fun x => dg w4 3 x) (m + 3) = _
    generalize (65536 : Int) ^ (m + 3) = PP at *
    generalize pl 65536 (fun x => dg w4 3 x) (m + 3) = L at *
    grind
  have s4 : ∀ i j, i ≠ 3 → j < 1100 → dg w4 i j = dg w3 i j := fun i j q1 q2 => by
    show (w4 (1100 * i + j)).toInt = _
    rw [f4 _ (by omega)]
  obtain ⟨w5, k5, f5, f6⟩ := g_copy (n := n) hg (m + 3) 0 n w4 (by omega) (by omega)
  refine ⟨w5, ?_, ?_⟩
  · unfold f_X3_turnBack_36 f_X3_combine f_X3_negative
    have l4 : (4 : Int32) = nI 4 := rfl
    have l0 : (0 : Int32) = nI 0 := rfl
    have l2 : (2 : Int32) = nI 2 := rfl
    have l5 : (5 : Int32) = nI 5 := rfl
    have l1 : (1 : Int32) = nI 1 := rfl
    have l3 : (3 : Int32) = nI 3 := rfl
    have k1' : f_X3_combine_6 n n (nI (m + 3)) 4 0 (jL t) 2 0 0 w = some w1 := k1
    have k2' : f_X3_combine_6 n n (nI (m + 3)) 5 1 (jL t) 3 0 0 w1 = some w2 := k2
    have k3' : f_X3_negative_5 n n (nI (m + 3)) 2 0 1 0 w2 = some w3 := k3
    have k4' : f_X3_negative_5 n n (nI (m + 3)) 3 1 1 0 w3 = some w4 := k4
    rw [k1', Option.bind_some, k2', Option.bind_some, k3', Option.bind_some, k4', Option.bind_some]
    exact k5
  · intro i hi
    rcases (show i = 0 ∨ i = 1 ∨ i = 2 ∨ i = 3 by omega) with rfl | rfl | rfl | rfl
    · refine rp_congr (fun j hj => ?_) z4
      show dg w1 4 j = (w5 (1100 * 0 + j)).toInt
      rw [(f5 j (by omega) hj).1]
      show _ = dg w4 4 j
      rw [s4 4 j (by decide) (by omega), s3 4 j (by decide) (by omega), s2 4 j (by decide) (by omega)]
    · refine rp_congr (fun j hj => ?_) z5
      show dg w2 5 j = (w5 (1100 * 1 + j)).toInt
      rw [(f5 j (by omega) hj).2]
      show _ = dg w4 5 j
      rw [s4 5 j (by decide) (by omega), s3 5 j (by decide) (by omega)]
    · refine rp_congr (fun j hj => ?_) z2
      show dg w3 2 j = (w5 (1100 * 2 + j)).toInt
      rw [f6 _ (by omega)]
      show _ = dg w4 2 j
      rw [s4 2 j (by decide) (by omega)]
    · refine rp_congr (fun j hj => ?_) z3
      show dg w4 3 j = (w5 (1100 * 3 + j)).toInt
      rw [f6 _ (by omega)]
theorem pow16 {m : Nat} (h : (65536 : Int) ^ m < 2 ^ 8191) : m ≤ 511 := by
  rcases (show m ≤ 511 ∨ 512 ≤ m by omega) with z | z
  · exact z
  · exfalso
    have e : (65536 : Int) ^ m = 2 ^ (16 * m) := by
      rw [Int.pow_mul]
      rfl
    rw [e] at h
    have := pow_lt2 (show 8191 < 16 * m by omega)
    generalize (2 : Int) ^ (16 * m) = X at *
    generalize (2 : Int) ^ 8191 = Y at *
    omega
/-- turnBack, whole -/
theorem g_turn {n m : Nat} {t : Int} {w : Nat → Int32} {M : Int × Int × Int × Int} (hn : 1200 ≤ n) (hg : m ≤ 514) (t1 : -4294967296 ≤ t) (t2 : t ≤ 4294967296) (h : rows w (m + 3) M) (hb : ∀ i, i < 4 → mS (m4 M i) < 2 ^ 8191) :
    ∃ w' m', m' ≤ 514 ∧ f_X3_turnBack n (nI (m + 3)) w (jL t) = some (w', nI (m' + 3)) ∧ rows w' (m' + 3) (t * M.1 + M.2.2.1, t * M.2.1 + M.2.2.2, -M.1, -M.2.1) := by
  have hR : ∀ i, i < 4 → f_X3_hasRoom n (nI (m + 3)) w (nI i) = some (if -(65536 ^ m) ≤ m4 M i ∧ m4 M i < 65536 ^ m then 1 else 0) := fun i hi => g_room (by omega) (by omega) (h i hi)
  have h0 : f_X3_hasRoom n (nI (m + 3)) w 0 = _ := hR 0 (by decide)
  have h1 : f_X3_hasRoom n (nI (m + 3)) w 1 = _ := hR 1 (by decide)
  have h2 : f_X3_hasRoom n (nI (m + 3)) w 2 = _ := hR 2 (by decide)
  have h3 : f_X3_hasRoom n (nI (m + 3)) w 3 = _ := hR 3 (by decide)
  by_cases hall : ∀ i, i < 4 → -(65536 ^ m) ≤ m4 M i ∧ m4 M i < 65536 ^ m
  · obtain ⟨w', k1, k2⟩ := g_turn36 hn (by omega) t1 t2 h (fun i hi => ⟨(hall i hi).1, Int.le_of_lt (hall i hi).2⟩)
    refine ⟨w', m, hg, ?_, k2⟩
    unfold f_X3_turnBack
    rw [h0, Option.bind_some, if_pos (hall 0 (by decide)), if_neg (show ¬ (1 : Int32) = 0 by decide), h1, Option.bind_some, if_pos (hall 1 (by decide)), if_neg (show ¬ (1 : Int32) = 0 by decide), h2, Option.bind_some, if_pos (hall 2 (by decide)), if_neg (show ¬ (1 : Int32) = 0 by decide), h3, Option.bind_some, if_pos (hall 3 (by decide)), if_neg (show ¬ (1 : Int32) = 0 by decide)]
    exact k1
  · have hm : m ≤ 511 := by
      apply pow16
      obtain ⟨i, hi⟩ := Classical.not_forall.mp hall
      have hi2 : i < 4 := by
        rcases (show i < 4 ∨ 4 ≤ i by omega) with z | z
        · exact z
        · exact absurd (fun q => by omega) hi
      have hi3 : ¬ (-(65536 ^ m) ≤ m4 M i ∧ m4 M i < 65536 ^ m) := fun q => hi (fun _ => q)
      have hb2 := hb i hi2
      have hS := im_S (m4 M i)
      generalize (65536 : Int) ^ m = X at *
      generalize (2 : Int) ^ 8191 = Y at *
      generalize m4 M i = z at *
      omega
    obtain ⟨w1, k1, k2⟩ := g_wid2 (n := n) (g := m + 3) (by omega) (by omega) (by omega) (z := m4 M) 4 0 n w (by omega) (by omega) (fun r q1 _ => h r q1) (fun r q => by omega)
    have hb3 : ∀ i, i < 4 → -(65536 ^ (m + 3)) ≤ m4 M i ∧ m4 M i ≤ 65536 ^ (m + 3) := fun i hi => by
      obtain ⟨-, -, q3, q4⟩ := h i hi
      omega
    obtain ⟨w', k3, k4⟩ := g_turn36 (m := m + 3) hn (by omega) t1 t2 k2 hb3
    refine ⟨w', m + 3, by omega, ?_, k4⟩
    have kw : f_X3_widen n (nI (m + 3)) w = some (w1, nI (m + 3 + 3)) := k1
    unfold f_X3_turnBack
    rw [h0, Option.bind_some]
    by_cases q0 : -(65536 ^ m) ≤ m4 M 0 ∧ m4 M 0 < 65536 ^ m
    · rw [if_pos q0, if_neg (show ¬ (1 : Int32) = 0 by decide), h1, Option.bind_some]
      by_cases q1 : -(65536 ^ m) ≤ m4 M 1 ∧ m4 M 1 < 65536 ^ m
      · rw [if_pos q1, if_neg (show ¬ (1 : Int32) = 0 by decide), h2, Option.bind_some]
        by_cases q2 : -(65536 ^ m) ≤ m4 M 2 ∧ m4 M 2 < 65536 ^ m
        · rw [if_pos q2, if_neg (show ¬ (1 : Int32) = 0 by decide), h3, Option.bind_some]
          by_cases q3 : -(65536 ^ m) ≤ m4 M 3 ∧ m4 M 3 < 65536 ^ m
          · exfalso
            apply hall
            intro i hi
            rcases (show i = 0 ∨ i = 1 ∨ i = 2 ∨ i = 3 by omega) with rfl | rfl | rfl | rfl <;> assumption
          · rw [if_neg q3, if_pos rfl, kw, Option.bind_some]
            exact k3
        · rw [if_neg q2, if_pos rfl, kw, Option.bind_some]
          exact k3
      · rw [if_neg q1, if_pos rfl, kw, Option.bind_some]
        exact k3
    · rw [if_neg q0, if_pos rfl, kw, Option.bind_some]
      exact k3
