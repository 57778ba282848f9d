/-! longs and ints out of whole numbers -/
abbrev jL (z : Int) : Int64 := Int64.ofInt z
def jR (z : Int) : Prop := -9000000000000000000 ≤ z ∧ z ≤ 9000000000000000000
theorem jL_toInt {z : Int} (h : jR z) : (jL z).toInt = z := Int64.toInt_ofInt_of_le (by have := h.1; omega) (by have := h.2; omega)
theorem jL_lt {a b : Int} (ha : jR a) (hb : jR b) : jL a < jL b ↔ a < b := by rw [Int64.lt_iff_toInt_lt, jL_toInt ha, jL_toInt hb]
theorem jL_eq {a b : Int} (ha : jR a) (hb : jR b) : jL a = jL b ↔ a = b := by rw [← Int64.toInt_inj, jL_toInt ha, jL_toInt hb]
theorem jL_add (a b : Int) : jL a + jL b = jL (a + b) := (Int64.ofInt_add a b).symm
theorem jL_sub (a b : Int) : jL a - jL b = jL (a - b) := (Int64.ofInt_sub a b).symm
theorem jL_mul (a b : Int) : jL a * jL b = jL (a * b) := (Int64.ofInt_mul a b).symm
theorem jL_neg (a : Int) : -jL a = jL (-a) := (Int64.ofInt_neg a).symm
theorem jL_div {a b : Int} (ha : jR a) (hb : jR b) : jL a / jL b = jL (a.tdiv b) := by
  have e1 : Int64.minValue.toInt = -9223372036854775808 := rfl
  have e2 : Int64.maxValue.toInt = 9223372036854775807 := rfl
  exact (Int64.ofInt_tdiv (by rw [e1]; have := ha.1; omega) (by rw [e2]; have := ha.2; omega) (by rw [e1]; have := hb.1; omega) (by rw [e2]; have := hb.2; omega)).symm
theorem jL_0 : (0 : Int64) = jL 0 := rfl
theorem jL_1 : (1 : Int64) = jL 1 := rfl
theorem jL_2 : (2 : Int64) = jL 2 := rfl
theorem jL_4 : (4 : Int64) = jL 4 := rfl
theorem jR_0 : jR 0 := by unfold jR; omega
theorem jR_of {z : Int} (h1 : -9000000000000000000 ≤ z) (h2 : z ≤ 9000000000000000000) : jR z := ⟨h1, h2⟩
/-- Java's remainder of longs -/
theorem jL_rem {a b : Int} (ha : jR a) (hb : jR b) : jL a - jL a / jL b * jL b = jL (a.tmod b) := by
  rw [jL_div ha hb, jL_mul, jL_sub, Int.tmod_def, Int.mul_comm]
/-- the remainder 0 .. y - 1 out of Java's -/
theorem im_emod {x y : Int} (hy : 0 < y) : x % y = if x.tmod y < 0 then x.tmod y + y else x.tmod y := by
  have h1 : x = y * x.tdiv y + x.tmod y := (Int.mul_tdiv_add_tmod x y).symm
  have h2 : (x.tmod y) % y = x % y := by
    conv => rhs; rw [h1]
    rw [Int.add_comm, Int.add_mul_emod_self_left]
  have h3 : x.tmod y < y := Int.tmod_lt_of_pos x hy
  have h4 : -y < x.tmod y := by
    have := Int.lt_tmod_of_pos x hy
    omega
  by_cases h : x.tmod y < 0
  · rw [if_pos h, ← h2, ← Int.add_emod_right]
    exact Int.emod_eq_of_lt (by omega) (by omega)
  · rw [if_neg h, ← h2]
    exact Int.emod_eq_of_lt (by omega) h3
/-! a step from a form to the next, on whole numbers: D the discriminant, w the whole part of its root, (.., b, c) the form -/
def mS (c : Int) : Int := if c < 0 then -c else c
def mM (D w c : Int) : Int := if D < 0 ∨ w < mS c then mS c else w
def mE (D w b c : Int) : Int := mM D w c - (mM D w c + b) % (2 * mS c)
def mC (D w b c : Int) : Int := (mE D w b c * mE D w b c - D) / (4 * c)
def mT (D w b c : Int) : Int := (b + mE D w b c) / (2 * c)
theorem mS_pos {c : Int} (h : c ≠ 0) : 0 < mS c := by unfold mS; split <;> omega
theorem mS_le {c : Int} {k : Int} (h1 : -k ≤ c) (h2 : c ≤ k) : mS c ≤ k := by unfold mS; split <;> omega
theorem mS_dvd (c : Int) : c ∣ mS c := by
  unfold mS
  split
  · exact Int.dvd_neg.mpr (Int.dvd_refl c)
  · exact Int.dvd_refl c
theorem mE_lo {D w b c : Int} (h : c ≠ 0) : mM D w c - 2 * mS c < mE D w b c := by
  have h1 := mS_pos h
  have h2 := Int.emod_lt_of_pos (mM D w c + b) (show 0 < 2 * mS c by omega)
  unfold mE
  omega
theorem mE_hi {D w b c : Int} (h : c ≠ 0) : mE D w b c ≤ mM D w c := by
  have h1 := mS_pos h
  have h2 := Int.emod_nonneg (mM D w c + b) (show 2 * mS c ≠ 0 by omega)
  unfold mE
  omega
/-- 2 c goes into b + e -/
theorem mE_dvd (D w b c : Int) : 2 * c ∣ b + mE D w b c := by
  have h1 : 2 * mS c ∣ (mM D w c + b) - (mM D w c + b) % (2 * mS c) := Int.dvd_self_sub_emod
  have h2 : 2 * c ∣ 2 * mS c := Int.mul_dvd_mul (Int.dvd_refl 2) (mS_dvd c)
  have h3 : b + mE D w b c = (mM D w c + b) - (mM D w c + b) % (2 * mS c) := by unfold mE; omega
  rw [h3]
  exact Int.dvd_trans h2 h1
theorem mT_eq (D w b c : Int) (h : c ≠ 0) : mE D w b c = 2 * c * mT D w b c - b := by
  obtain ⟨k, hk⟩ := mE_dvd D w b c
  have : mT D w b c = k := by
    unfold mT
    rw [hk]
    exact Int.mul_ediv_cancel_left k (by omega)
  rw [this]
  omega
/-- 4 c goes into e e - D -/
theorem mC_dvd {D w a b c : Int} (hD : b * b - 4 * a * c = D) (h : c ≠ 0) : mE D w b c * mE D w b c - D = 4 * c * (a - b * mT D w b c + c * mT D w b c * mT D w b c) := by
  have h1 := mT_eq D w b c h
  generalize mE D w b c = e at h1 ⊢
  generalize mT D w b c = t at h1 ⊢
  subst h1 hD
  grind
theorem mC_eq {D w a b c : Int} (hD : b * b - 4 * a * c = D) (h : c ≠ 0) : mC D w b c = a - b * mT D w b c + c * mT D w b c * mT D w b c := by
  unfold mC
  rw [mC_dvd (w := w) hD h]
  exact Int.mul_ediv_cancel_left _ (by omega)
/-- the next form has the same discriminant -/
theorem m_disc {D w a b c : Int} (hD : b * b - 4 * a * c = D) (h : c ≠ 0) : mE D w b c * mE D w b c - 4 * c * mC D w b c = D := by
  have h1 := mC_dvd (w := w) hD h
  rw [mC_eq (w := w) hD h]
  omega
