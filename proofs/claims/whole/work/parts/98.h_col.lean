/-! THE CLASS's rows: words of 32 bits -/
theorem ix256 {j : Nat} (h : j < 256) : ¬ (nI j < 0 ∨ 256 ≤ (nI j).toNatClampNeg) := by
  rw [nI_clamp (by omega)]
  rintro (q | q)
  · exact nI_not_neg (by omega) q
  · omega
abbrev wz (z : Nat → Int32) (j : Nat) : Int := wd (z j)
theorem rp_shrink {B H : Int} {r : Nat → Int} {g : Nat} {z : Int} (hB : B = 2 * H) (hH : 1 ≤ H) (h : rp B r (g + 1 + 1) z) (ht : r (g + 1) = if H ≤ r g then B - 1 else 0) : rp B r (g + 1) z := by
  have hv := rp_val (show 1 ≤ B by omega) h
  have hs := rp_sign hB hH h
  obtain ⟨h1, h2, h3, h4⟩ := h
  obtain ⟨q1, q2⟩ := pl_range (r := r) (show 1 ≤ B by omega) g (fun j hj => h1 j (by omega))
  obtain ⟨q3, q4⟩ := h1 g (by omega)
  have e1 : pl B r (g + 1) = pl B r g + r g * B ^ g := by rw [pl]
  have e2 : pl B r (g + 1 + 1) = pl B r (g + 1) + r (g + 1) * B ^ (g + 1) := by rw [pl]
  have e3 : B ^ (g + 1) = 2 * (H * B ^ g) := by rw [Int.pow_succ, hB]; grind
  have e4 : B ^ (g + 1 + 1) = B * B ^ (g + 1) := by rw [Int.pow_succ (n := g + 1), Int.mul_comm]
  have hP : 0 < B ^ g := by omega
  by_cases q : H ≤ r g
  · rw [if_pos q] at ht
    have hz : z < 0 := hs.mp (by omega)
    have v := hv.2 hz
    rw [e2, ht, e4] at v
    have e5 : (B - 1) * B ^ (g + 1) = B * B ^ (g + 1) - B ^ (g + 1) := by grind
    have m1 : H * B ^ g ≤ r g * B ^ g := Int.mul_le_mul_of_nonneg_right q (by omega)
    refine ⟨fun j hj => h1 j (by omega), Or.inr ?_, ?_, ?_⟩
    · omega
    · omega
    · omega
  · rw [if_neg q] at ht
    have hz : ¬ z < 0 := fun y => by have := hs.mpr y; omega
    have v := hv.1 (by omega)
    rw [e2, ht, Int.zero_mul] at v
    have m1 : (r g + 1) * B ^ g ≤ H * B ^ g := Int.mul_le_mul_of_nonneg_right (by omega) (by omega)
    have m2 : (r g + 1) * B ^ g = r g * B ^ g + B ^ g := by grind
    refine ⟨fun j hj => h1 j (by omega), Or.inl ?_, ?_, ?_⟩
    · omega
    · omega
    · omega
theorem k_col {n len : Nat} (hlen : len ≤ 256) {w0 w1 w2 w3 : Int} (hu : mS w0 + mS w1 ≤ 1073742848) (hl : mS w2 + mS w3 ≤ 1073742848) :
    ∀ (d j K : Nat) (cu cl : Int) (u l : Nat → Int32), j + d = len → d < K → -4294967296 ≤ cu → cu ≤ 4294967296 → -4294967296 ≤ cl → cl ≤ 4294967296 →
      ∃ u' l', f_X1_multiplyColumn_8 n K (nI len) (jL w0) (jL w1) (jL w2) (jL w3) (jL cu) (jL cl) (nI j) u l = some (u', l') ∧ (∀ p, (p < j ∨ len ≤ p) → u' p = u p ∧ l' p = l p) ∧
        (∃ c, w0 * pl 4294967296 (fun x => wz u (j + x)) d + w1 * pl 4294967296 (fun x => wz l (j + x)) d + cu = pl 4294967296 (fun x => wz u' (j + x)) d + c * 4294967296 ^ d) ∧
        (∃ c, w2 * pl 4294967296 (fun x => wz u (j + x)) d + w3 * pl 4294967296 (fun x => wz l (j + x)) d + cl = pl 4294967296 (fun x => wz l' (j + x)) d + c * 4294967296 ^ d)
  | d, j, 0, cu, cl, u, l, hj, hK, _, _, _, _ => by omega
  | 0, j, K + 1, cu, cl, u, l, hj, hK, _, _, _, _ => by
    have : j = len := by omega
    subst this
    refine ⟨u, l, ?_, fun p _ => ⟨rfl, rfl⟩, ⟨cu, ?_⟩, ⟨cl, ?_⟩⟩
    · rw [f_X1_multiplyColumn_8, if_neg (fun q => by have := (nI_ltI (by omega) (by omega)).mp q; omega)]
    · simp only [pl, Int.mul_zero, Int.pow_zero]; omega
    · simp only [pl, Int.mul_zero, Int.pow_zero]; omega
  | d + 1, j, K + 1, cu, cl, u, l, hj, hK, hu1, hu2, hl1, hl2 => by
    obtain ⟨x1, x2⟩ : 0 ≤ wz u j ∧ wz u j < 4294967296 := wd_range (u j)
    obtain ⟨y1, y2⟩ : 0 ≤ wz l j ∧ wz l j < 4294967296 := wd_range (l j)
    obtain ⟨s, hs⟩ : ∃ s, s = cu + (w0 * wz u j + w1 * wz l j) := ⟨_, rfl⟩
    obtain ⟨r, hr⟩ : ∃ r, r = cl + (w2 * wz u j + w3 * wz l j) := ⟨_, rfl⟩
    have bnd : ∀ p q : Int, mS p + mS q ≤ 1073742848 → -(1073742848 * 4294967295) ≤ p * wz u j + q * wz l j ∧ p * wz u j + q * wz l j ≤ 1073742848 * 4294967295 := fun p q hpq => by
      have i1 := im_abs_mul (t := p) (x := wz u j) (T := mS p) (X := 4294967295) (by have := im_S p; omega) (by have := im_S p; omega) (by omega) (by omega) (mS_0 _)
      have i2 := im_abs_mul (t := q) (x := wz l j) (T := mS q) (X := 4294967295) (by have := im_S q; omega) (by have := im_S q; omega) (by omega) (by omega) (mS_0 _)
      omega
    have b1 := bnd w0 w1 hu
    have b2 := bnd w2 w3 hl
    have hsR : jR s := ⟨by omega, by omega⟩
    have hrR : jR r := ⟨by omega, by omega⟩
    have es : jL cu + (jL w0 * ((u j).toInt64 &&& 4294967295) + jL w1 * ((l j).toInt64 &&& 4294967295)) = jL s := by
      rw [wd_mask, wd_mask, jL_mul, jL_mul, jL_add, jL_add, hs]
    have er : jL cl + (jL w2 * ((u j).toInt64 &&& 4294967295) + jL w3 * ((l j).toInt64 &&& 4294967295)) = jL r := by
      rw [wd_mask, wd_mask, jL_mul, jL_mul, jL_add, jL_add, hr]
    obtain ⟨u', l', i1, i2, ⟨c1, i3⟩, ⟨c2, i4⟩⟩ := k_col (n := n) hlen hu hl d (j + 1) K (s / 4294967296) (r / 4294967296) (upd u j (Int32.ofInt s)) (upd l j (Int32.ofInt r)) (by omega) (by omega) (by omega) (by omega) (by omega) (by omega)
    refine ⟨u', l', ?_, ?_, ⟨c1, ?_⟩, ⟨c2, ?_⟩⟩
    · rw [f_X1_multiplyColumn_8, if_pos (nI_lt (by omega) (by omega)), if_neg (ix256 (by omega)), if_neg (ix256 (by omega)), if_neg (ix256 (by omega)), if_neg (ix256 (by omega)), nI_clamp (by omega), es, er, l_shr32 hsR, l_shr32 hrR, jL_i, jL_i, ← nI_succ]
      exact i1
    · intro p hp
      obtain ⟨a, b⟩ := i2 p (by omega)
      rw [a, b, upd_ne _ _ (by omega), upd_ne _ _ (by omega)]
      exact ⟨rfl, rfl⟩
    all_goals
      rw [pl_head, pl_head, pl_head]
      have e2 : pl 4294967296 (fun x => wz u (j + (x + 1))) d = pl 4294967296 (fun x => wz (upd u j (Int32.ofInt s)) (j + 1 + x)) d := pl_congr d (fun x hx => by
        show wd (u (j + (x + 1))) = wd (upd u j (Int32.ofInt s) (j + 1 + x))
        rw [upd_ne _ _ (by omega), show j + (x + 1) = j + 1 + x by omega])
      have e4 : pl 4294967296 (fun x => wz l (j + (x + 1))) d = pl 4294967296 (fun x => wz (upd l j (Int32.ofInt r)) (j + 1 + x)) d := pl_congr d (fun x hx => by
        show wd (l (j + (x + 1))) = wd (upd l j (Int32.ofInt r) (j + 1 + x))
        rw [upd_ne _ _ (by omega), show j + (x + 1) = j + 1 + x by omega])
      have e1 : pl 4294967296 (fun x => wz u' (j + (x + 1))) d = pl 4294967296 (fun x => wz u' (j + 1 + x)) d := pl_congr d (fun x hx => by rw [show j + (x + 1) = j + 1 + x by omega])
      have e1' : pl 4294967296 (fun x => wz l' (j + (x + 1))) d = pl 4294967296 (fun x => wz l' (j + 1 + x)) d := pl_congr d (fun x hx => by rw [show j + (x + 1) = j + 1 + x by omega])
      have hat : wz u' j = s % 4294967296 := by
        show wd (u' j) = _
        rw [(i2 j (Or.inl (by omega))).1, upd_at, wd_i]
      have hat' : wz l' j = r % 4294967296 := by
        show wd (l' j) = _
        rw [(i2 j (Or.inl (by omega))).2, upd_at, wd_i]
      rw [e2, e4, Int.pow_succ]
      have hdm : s = 4294967296 * (s / 4294967296) + s % 4294967296 := (Int.mul_ediv_add_emod s 4294967296).symm
      have hdm' : r = 4294967296 * (r / 4294967296) + r % 4294967296 := (Int.mul_ediv_add_emod r 4294967296).symm
    · rw [e1]
      show w0 * (wz u j + _) + w1 * (wz l j + _) + cu = wz u' j + _ + _
      rw [hat]
      generalize pl 4294967296 (fun x => wz (upd u j (Int32.ofInt s)) (j + 1 + x)) d = A at *
      generalize pl 4294967296 (fun x => wz (upd l j (Int32.ofInt r)) (j + 1 + x)) d = Bq at *
      generalize pl 4294967296 (fun x => wz u' (j + 1 + x)) d = Cq at *
      generalize (4294967296 : Int) ^ d = P at *
      generalize wz u j = xx at *
      generalize wz l j = yy at *
      generalize s / 4294967296 = vd at *
      generalize s % 4294967296 = vm at *
      clear i1 i2 bnd b1 b2 i4 hdm' hat hat' es er
      grind
    · rw [e1']
      show w2 * (wz u j + _) + w3 * (wz l j + _) + cl = wz l' j + _ + _
      rw [hat']
      generalize pl 4294967296 (fun x => wz (upd u j (Int32.ofInt s)) (j + 1 + x)) d = A at *
      generalize pl 4294967296 (fun x => wz (upd l j (Int32.ofInt r)) (j + 1 + x)) d = Bq at *
      generalize pl 4294967296 (fun x => wz l' (j + 1 + x)) d = Cq at *
      generalize (4294967296 : Int) ^ d = P at *
      generalize wz u j = xx at *
      generalize wz l j = yy at *
      generalize r / 4294967296 = vd at *
      generalize r % 4294967296 = vm at *
      clear i1 i2 bnd b1 b2 i3 hdm hat hat' es er
      grind
