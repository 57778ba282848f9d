abbrev M4 := Int × Int × Int × Int
def cls (z0 z1 z2 z3 : Nat → Int32) (len : Nat) (N : M4) : Prop := rp 4294967296 (wz z0) len N.1 ∧ rp 4294967296 (wz z1) len N.2.1 ∧ rp 4294967296 (wz z2) len N.2.2.1 ∧ rp 4294967296 (wz z3) len N.2.2.2
theorem wd_m1 : wd (-1) = 4294967295 := by decide
theorem wd_z : wd 0 = 0 := by decide
theorem k_ext {z : Nat → Int32} {len : Nat} {v : Int} (h1 : 1 ≤ len) (h : rp 4294967296 (wz z) len v) : rp 4294967296 (wz (upd z len ((z (len - 1)) >>> ((31 : Int32) &&& 31)))) (len + 1) v := by
  obtain ⟨g, rfl⟩ : ∃ g, len = g + 1 := ⟨len - 1, by omega⟩
  have hs := rp_sign (H := 2147483648) (by decide) (by decide) h
  have hn := wd_neg (z g)
  refine rp_ext (H := 2147483648) (by decide) (by decide) h (fun j hj => ?_) ?_
  · show wd (upd z (g + 1) _ j) = _
    rw [upd_ne _ _ (by omega)]
  · show wd (upd z (g + 1) _ (g + 1)) = _
    rw [upd_at, i_shr31]
    show wd (if z g < 0 then (-1 : Int32) else 0) = _
    have hs' : 2147483648 ≤ wd (z g) ↔ v < 0 := hs
    by_cases q : v < 0
    · rw [if_pos q, if_pos (hn.mpr (hs'.mpr q)), wd_m1]; rfl
    · rw [if_neg q, if_neg (fun y => q (hs'.mp (hn.mp y))), wd_z]
theorem k_len {n len : Nat} {z0 z1 z2 z3 : Nat → Int32} {N : M4} (h1 : 1 ≤ len) (h2 : len ≤ 256) (h : cls z0 z1 z2 z3 len N) :
    ∃ y0 y1 y2 y3 g, f_X1_lengthen n (nI len) z0 z1 z2 z3 = some (y0, y1, y2, y3, nI g) ∧ cls y0 y1 y2 y3 g N ∧ 1 ≤ g ∧ g ≤ 256 ∧ (g = 256 ∨ (8589934592 * mS N.1 ≤ 4294967296 ^ g ∧ 8589934592 * mS N.2.1 ≤ 4294967296 ^ g ∧ 8589934592 * mS N.2.2.1 ≤ 4294967296 ^ g ∧ 8589934592 * mS N.2.2.2 ≤ 4294967296 ^ g)) := by
  unfold f_X1_lengthen
  rcases (show len < 256 ∨ len = 256 by omega) with q | q
  · have e1 : nI len - 1 = nI (len - 1) := by rw [show (1 : Int32) = nI 1 from rfl, nI_mi h1]
    rw [if_pos (show nI len < 256 from nI_lt (b := 256) q (by omega)), e1]
    simp only [if_neg (ix256 (show len - 1 < 256 by omega)), if_neg (ix256 q)]
    rw [nI_clamp (by omega), nI_clamp (by omega)]
    obtain ⟨a0, a1, a2, a3⟩ := h
    have b : ∀ {r : Nat → Int} {v : Int}, rp 4294967296 r len v → 8589934592 * mS v ≤ 4294967296 ^ (len + 1) := fun {r v} hr => by
      obtain ⟨-, -, q3, q4⟩ := hr
      have hS := im_S v
      rw [Int.pow_succ]
      omega
    exact ⟨_, _, _, _, len + 1, by rw [nI_succ], ⟨k_ext h1 a0, k_ext h1 a1, k_ext h1 a2, k_ext h1 a3⟩, by omega, by omega, Or.inr ⟨b a0, b a1, b a2, b a3⟩⟩
  · subst q
    rw [if_neg (show ¬ nI 256 < 256 by decide)]
    exact ⟨z0, z1, z2, z3, 256, rfl, h, by decide, by decide, Or.inl rfl⟩
theorem k_shr {z : Nat → Int32} {g : Nat} {v : Int} (h : rp 4294967296 (wz z) (g + 1 + 1) v) (hq : z (g + 1) = (z g) >>> ((31 : Int32) &&& 31)) : rp 4294967296 (wz z) (g + 1) v := by
  refine rp_shrink (H := 2147483648) (by decide) (by decide) h ?_
  show wd (z (g + 1)) = if 2147483648 ≤ wd (z g) then _ else _
  rw [hq, i_shr31]
  have hn := wd_neg (z g)
  by_cases q : z g < 0
  · rw [if_pos q, if_pos (hn.mp q), wd_m1]; rfl
  · rw [if_neg q, if_neg (fun y => q (hn.mpr y)), wd_z]
theorem k_short {n len : Nat} {z0 z1 z2 z3 : Nat → Int32} {N : M4} (h1 : 1 ≤ len) (h2 : len ≤ 256) (h : cls z0 z1 z2 z3 len N) : ∃ g, f_X1_shorten n (nI len) z0 z1 z2 z3 = some (nI g) ∧ cls z0 z1 z2 z3 g N ∧ 1 ≤ g ∧ g ≤ 256 := by
  unfold f_X1_shorten
  rcases (show len = 1 ∨ 2 ≤ len by omega) with q | q
  · subst q
    rw [if_pos (show nI 1 < 2 by decide)]
    exact ⟨1, rfl, h, by decide, by decide⟩
  · obtain ⟨g, rfl⟩ : ∃ g, len = g + 1 + 1 := ⟨len - 2, by omega⟩
    have e1 : nI (g + 1 + 1) - 1 = nI (g + 1) := by rw [show (1 : Int32) = nI 1 from rfl, nI_mi (by omega)]; rfl
    have e2 : nI (g + 1 + 1) - 2 = nI g := by rw [show (2 : Int32) = nI 2 from rfl, nI_mi (by omega)]; rfl
    rw [if_neg (show ¬ nI (g + 1 + 1) < 2 from fun y => by have := (nI_ltI (b := 2) (by omega) (by omega)).mp y; omega), e1, e2]
    simp only [if_neg (ix256 (show g + 1 < 256 by omega)), if_neg (ix256 (show g < 256 by omega))]
    rw [nI_clamp (by omega), nI_clamp (by omega)]
    by_cases c0 : z0 (g + 1) = (z0 g) >>> ((31 : Int32) &&& 31)
    · rw [if_pos c0]
      by_cases c1 : z1 (g + 1) = (z1 g) >>> ((31 : Int32) &&& 31)
      · rw [if_pos c1]
        by_cases c2 : z2 (g + 1) = (z2 g) >>> ((31 : Int32) &&& 31)
        · rw [if_pos c2]
          by_cases c3 : z3 (g + 1) = (z3 g) >>> ((31 : Int32) &&& 31)
          · rw [if_pos c3]
            obtain ⟨a0, a1, a2, a3⟩ := h
            exact ⟨g + 1, rfl, ⟨k_shr a0 c0, k_shr a1 c1, k_shr a2 c2, k_shr a3 c3⟩, by omega, by omega⟩
          · rw [if_neg c3]; exact ⟨g + 1 + 1, rfl, h, by omega, h2⟩
        · rw [if_neg c2]; exact ⟨g + 1 + 1, rfl, h, by omega, h2⟩
      · rw [if_neg c1]; exact ⟨g + 1 + 1, rfl, h, by omega, h2⟩
    · rw [if_neg c0]; exact ⟨g + 1 + 1, rfl, h, by omega, h2⟩
def mm (W N : M4) : M4 := (W.1 * N.1 + W.2.1 * N.2.2.1, W.1 * N.2.1 + W.2.1 * N.2.2.2, W.2.2.1 * N.1 + W.2.2.2 * N.2.2.1, W.2.2.1 * N.2.1 + W.2.2.2 * N.2.2.2)
def mlt (M : M4) : Prop := mS M.1 < 2 ^ 8191 ∧ mS M.2.1 < 2 ^ 8191 ∧ mS M.2.2.1 < 2 ^ 8191 ∧ mS M.2.2.2 < 2 ^ 8191
theorem p256 : (4294967296 : Int) ^ 256 = 2 * 2 ^ 8191 := by
  have : (4294967296 : Int) = 2 ^ 32 := by decide
  rw [this, ← Int.pow_mul, show 32 * 256 = 8191 + 1 from rfl, Int.pow_succ, Int.mul_comm]
theorem k_rng {g : Nat} {p q x y : Int} (hs : mS p + mS q ≤ 1073742848) (hg : g = 256 ∨ (8589934592 * mS x ≤ 4294967296 ^ g ∧ 8589934592 * mS y ≤ 4294967296 ^ g)) (hb : mS (p * x + q * y) < 2 ^ 8191) : -(4294967296 ^ g) ≤ 2 * (p * x + q * y) ∧ 2 * (p * x + q * y) < 4294967296 ^ g := by
  rcases hg with rfl | ⟨g1, g2⟩
  · have hS := im_S (p * x + q * y)
    rw [p256]
    generalize (2 : Int) ^ 8191 = Y at *
    omega
  · have hP : (0 : Int) < 4294967296 ^ g := Int.pow_pos (by decide)
    have i1 := im_abs_mul (t := p) (x := x) (T := mS p) (X := mS x) (by have := im_S p; omega) (by have := im_S p; omega) (by have := im_S x; omega) (by have := im_S x; omega) (mS_0 _)
    have i2 := im_abs_mul (t := q) (x := y) (T := mS q) (X := mS y) (by have := im_S q; omega) (by have := im_S q; omega) (by have := im_S y; omega) (by have := im_S y; omega) (mS_0 _)
    have p0 := mS_0 p
    have q0 := mS_0 q
    have m1 : mS p * (8589934592 * mS x) ≤ mS p * 4294967296 ^ g := Int.mul_le_mul_of_nonneg_left g1 p0
    have m2 : mS q * (8589934592 * mS y) ≤ mS q * 4294967296 ^ g := Int.mul_le_mul_of_nonneg_left g2 q0
    have m3 : (mS p + mS q) * 4294967296 ^ g ≤ 1073742848 * 4294967296 ^ g := Int.mul_le_mul_of_nonneg_right hs (by omega)
    have e1 : mS p * (8589934592 * mS x) = 8589934592 * (mS p * mS x) := by grind
    have e2 : mS q * (8589934592 * mS y) = 8589934592 * (mS q * mS y) := by grind
    have e3 : (mS p + mS q) * 4294967296 ^ g = mS p * 4294967296 ^ g + mS q * 4294967296 ^ g := by rw [Int.add_mul]
    generalize (4294967296 : Int) ^ g = P at *
    generalize mS p * mS x = X1 at *
    generalize mS q * mS y = X2 at *
    generalize mS p * P = X3 at *
    generalize mS q * P = X4 at *
    generalize p * x = X5 at *
    generalize q * y = X6 at *
    omega
theorem k_mod {r : Nat → Int} {g : Nat} {z : Int} (q : rp 4294967296 r g z) : ∃ e, pl 4294967296 r g = z + e * 4294967296 ^ g := by
  rcases q.2.1 with q | q
  · exact ⟨0, by omega⟩
  · exact ⟨1, by omega⟩
theorem k_prod {g : Nat} {p q x y c : Int} {u l o : Nat → Int32} (hx : rp 4294967296 (wz u) g x) (hy : rp 4294967296 (wz l) g y) (h : p * pl 4294967296 (wz u) g + q * pl 4294967296 (wz l) g + 0 = pl 4294967296 (wz o) g + c * 4294967296 ^ g) (hr : -(4294967296 ^ g) ≤ 2 * (p * x + q * y) ∧ 2 * (p * x + q * y) < 4294967296 ^ g) : rp 4294967296 (wz o) g (p * x + q * y) := by
  refine rp_of (by decide) (fun j _ => wd_range _) ?_ hr.1 hr.2
  obtain ⟨e0, q0⟩ := k_mod hx
  obtain ⟨e1, q1⟩ := k_mod hy
  rw [q0, q1] at h
  refine ⟨p * e0 + q * e1 - c, ?_⟩
  generalize (4294967296 : Int) ^ g = P at *
  generalize pl 4294967296 (wz o) g = L at *
  clear hx hy q0 q1 hr
  grind
theorem k_mulW {n len : Nat} (hn : 300 ≤ n) {z0 z1 z2 z3 : Nat → Int32} {N W : M4} (h1 : 1 ≤ len) (h2 : len ≤ 256) (h : cls z0 z1 z2 z3 len N) (hu : mS W.1 + mS W.2.1 ≤ 1073742848) (hl : mS W.2.2.1 + mS W.2.2.2 ≤ 1073742848) (hb : mlt (mm W N)) :
    ∃ y0 y1 y2 y3 g, f_X1_multiplyWaiting n (nI len) (jL W.1) (jL W.2.1) (jL W.2.2.1) (jL W.2.2.2) z0 z1 z2 z3 = some (y0, y1, y2, y3, nI g, 1, 0, 0, 1) ∧ cls y0 y1 y2 y3 g (mm W N) ∧ 1 ≤ g ∧ g ≤ 256 := by
  obtain ⟨y0, y1, y2, y3, g, a1, ⟨b0, b1, b2, b3⟩, a3, a4, a5⟩ := k_len (n := n) h1 h2 h
  obtain ⟨u0, l0, c1, c2, ⟨x1, c3⟩, ⟨x2, c4⟩⟩ := k_col (n := n) a4 hu hl g 0 n 0 0 y0 y2 (by omega) (by omega) (by decide) (by decide) (by decide) (by decide)
  obtain ⟨u1, l1, d1, d2, ⟨x3, d3⟩, ⟨x4, d4⟩⟩ := k_col (n := n) a4 hu hl g 0 n 0 0 y1 y3 (by omega) (by omega) (by decide) (by decide) (by decide) (by decide)
  simp only [Nat.zero_add] at c3 c4 d3 d4
  obtain ⟨hb0, hb1, hb2, hb3⟩ := hb
  have e0 : rp 4294967296 (wz u0) g (mm W N).1 := k_prod b0 b2 c3 (k_rng hu (a5.imp id (fun q => ⟨q.1, q.2.2.1⟩)) hb0)
  have e1 : rp 4294967296 (wz u1) g (mm W N).2.1 := k_prod b1 b3 d3 (k_rng hu (a5.imp id (fun q => ⟨q.2.1, q.2.2.2⟩)) hb1)
  have e2 : rp 4294967296 (wz l0) g (mm W N).2.2.1 := k_prod b0 b2 c4 (k_rng hl (a5.imp id (fun q => ⟨q.1, q.2.2.1⟩)) hb2)
  have e3 : rp 4294967296 (wz l1) g (mm W N).2.2.2 := k_prod b1 b3 d4 (k_rng hl (a5.imp id (fun q => ⟨q.2.1, q.2.2.2⟩)) hb3)
  obtain ⟨g', s1, s2, s3, s4⟩ := k_short (n := n) (z0 := u0) (z1 := u1) (z2 := l0) (z3 := l1) a3 a4 ⟨e0, e1, e2, e3⟩
  refine ⟨u0, u1, l0, l1, g', ?_, s2, s3, s4⟩
  unfold f_X1_multiplyWaiting f_X1_multiplyColumn f_X1_forgetWaiting
  rw [a1, Option.bind_some]
  dsimp only
  have c1' : f_X1_multiplyColumn_8 n n (nI g) (jL W.1) (jL W.2.1) (jL W.2.2.1) (jL W.2.2.2) 0 0 0 y0 y2 = some (u0, l0) := c1
  have d1' : f_X1_multiplyColumn_8 n n (nI g) (jL W.1) (jL W.2.1) (jL W.2.2.1) (jL W.2.2.2) 0 0 0 y1 y3 = some (u1, l1) := d1
  rw [c1', Option.bind_some, d1', Option.bind_some, s1, Option.bind_some, Option.bind_some]
