/-- a form on its way: a discriminant that is no square, its root, coefficients in range; with a discriminant below 0 its ends are above 0 -/
def mF (D w a b c : Int) : Prop := b * b - 4 * a * c = D ∧ mB a ∧ mB b ∧ mB c ∧ -1048576 ≤ D ∧ D ≤ 1048576 ∧ ((D < 0 ∧ w = -1 ∧ 0 < a ∧ 0 < c) ∨ (0 < D ∧ mRt w D ∧ w * w ≠ D))
theorem mF_w {D w a b c : Int} (h : mF D w a b c) : -1 ≤ w ∧ w ≤ 1024 := by
  obtain ⟨-, -, -, -, -, h5, h6⟩ := h
  rcases h6 with ⟨-, rfl, -⟩ | ⟨-, h7, -⟩
  · omega
  · have h8 := mRt_le h7 h5
    have h9 := h7.1
    omega
theorem mS_sq (b : Int) : mS b * mS b = b * b := by
  unfold mS
  split
  · grind
  · rfl
theorem mS_0 (b : Int) : 0 ≤ mS b := by unfold mS; split <;> omega
theorem mF_c {D w a b c : Int} (h : mF D w a b c) : c ≠ 0 := by
  obtain ⟨h1, -, -, -, -, -, h6⟩ := h
  rcases h6 with ⟨-, -, -, h7⟩ | ⟨-, h7, h8⟩
  · omega
  · intro hc
    subst hc
    have e : b * b = D := by rw [← h1]; omega
    have hs := mS_sq b
    have h0 := mS_0 b
    have hr : mRt (mS b) D := ⟨h0, by omega, by
      have : (mS b + 1) * (mS b + 1) = mS b * mS b + 2 * mS b + 1 := by grind
      omega⟩
    have := mRt_un h7 hr
    rw [this] at h8
    omega
theorem mF_G {D w a b c : Int} (h : mF D w a b c) : mG D w a b c := by
  have hc := mF_c h
  have hw := mF_w h
  obtain ⟨h1, -, h2, h3, h4, h5, -⟩ := h
  exact ⟨h1, hc, h2, h3, hw.1, hw.2, h4, h5⟩
theorem mS_mul (a b : Int) : mS (a * b) = mS a * mS b := by
  rcases im_S a with ⟨h1, e1⟩ | ⟨h1, e1⟩ <;> rcases im_S b with ⟨h2, e2⟩ | ⟨h2, e2⟩
  · have : 0 ≤ a * b := Int.mul_nonneg_of_nonpos_of_nonpos (by omega) (by omega)
    rw [e1, e2]
    rcases im_S (a * b) with ⟨h3, e3⟩ | ⟨h3, e3⟩
    · omega
    · rw [e3]; grind
  · have : a * b ≤ 0 := Int.mul_nonpos_of_nonpos_of_nonneg (by omega) (by omega)
    rw [e1, e2]
    rcases im_S (a * b) with ⟨h3, e3⟩ | ⟨h3, e3⟩
    · rw [e3]; grind
    · rw [e3]
      have : a * b = 0 := by omega
      grind
  · have : a * b ≤ 0 := Int.mul_nonpos_of_nonneg_of_nonpos (by omega) (by omega)
    rw [e1, e2]
    rcases im_S (a * b) with ⟨h3, e3⟩ | ⟨h3, e3⟩
    · rw [e3]; grind
    · rw [e3]
      have : a * b = 0 := by omega
      grind
  · have : 0 ≤ a * b := Int.mul_nonneg (by omega) (by omega)
    rw [e1, e2]
    rcases im_S (a * b) with ⟨h3, e3⟩ | ⟨h3, e3⟩
    · omega
    · rw [e3]
/-- the size of the next last coefficient -/
theorem mC_size {D w a b c : Int} (h : mF D w a b c) : 4 * (mS c * mS (mC D w b c)) = mS (mE D w b c * mE D w b c - D) := by
  have h1 := m_disc (w := w) h.1 (mF_c h)
  have e : mE D w b c * mE D w b c - D = 4 * (c * mC D w b c) := by grind
  rw [e, mS_mul, mS_mul]
  have : mS 4 = 4 := by decide
  rw [this]
/-- where the step looks about 0: e lies from 1 - |c| to |c| -/
theorem mE_near {D w b c : Int} (hc : c ≠ 0) (hm : mM D w c = mS c) : -mS c < mE D w b c ∧ mE D w b c ≤ mS c := by
  have h1 := mE_lo (D := D) (w := w) (b := b) hc
  have h2 := mE_hi (D := D) (w := w) (b := b) hc
  omega
theorem mM_cases (D w c : Int) : (mM D w c = mS c ∧ (D < 0 ∨ w < mS c)) ∨ (mM D w c = w ∧ 0 ≤ D ∧ mS c ≤ w) := by
  unfold mM
  split
  · exact Or.inl ⟨rfl, by assumption⟩
  · exact Or.inr ⟨rfl, by omega, by omega⟩
theorem mS_tri {x y X : Int} (h0 : 0 ≤ x) (h1 : x ≤ X) (h2 : -1048576 ≤ y) (h3 : y ≤ 1048576) : mS (x - y) ≤ X + 1048576 := by
  unfold mS
  split <;> omega
theorem mC_B {D w a b c : Int} (h : mF D w a b c) : mB (mC D w b c) := by
  have hz := mC_size h
  have hc := mF_c h
  have hw := mF_w h
  have hs := mS_pos hc
  have hS := mB_S h.2.2.2.1
  have hE : mE D w b c * mE D w b c ≤ mS c * mS c + 1048576 := by
    rcases mM_cases D w c with ⟨hm, -⟩ | ⟨hm, -, hm2⟩
    · have := mE_near (b := b) hc hm
      have := im_sq (show -mS c ≤ mE D w b c by omega) this.2
      omega
    · have h1 := mE_lo (D := D) (w := w) (b := b) hc
      have h2 := mE_hi (D := D) (w := w) (b := b) hc
      have := im_sq (show -1024 ≤ mE D w b c by omega) (show mE D w b c ≤ 1024 by omega)
      have := im_sq0 (mS c)
      omega
  have h0 := im_sq0 (mE D w b c)
  have ht := mS_tri h0 hE h.2.2.2.2.1 h.2.2.2.2.2.1
  rw [← hz] at ht
  have key : mS (mC D w b c) ≤ 1073741824 := by
    rcases (show mS (mC D w b c) ≤ 1073741824 ∨ 1073741825 ≤ mS (mC D w b c) by omega) with q | q
    · exact q
    · have h1 : mS c * 1073741825 ≤ mS c * mS (mC D w b c) := Int.mul_le_mul_of_nonneg_left q (by omega)
      have h2 : mS c * mS c ≤ 2147483648 * mS c := Int.mul_le_mul_of_nonneg_right hS (by omega)
      omega
  rcases im_S (mC D w b c) with ⟨q1, q2⟩ | ⟨q1, q2⟩
  · exact ⟨by omega, by omega⟩
  · exact ⟨by omega, by omega⟩
/-- the next of a form is a form again -/
theorem mF_next {D w a b c : Int} (h : mF D w a b c) : mF D w c (mE D w b c) (mC D w b c) := by
  have hc := mF_c h
  have hw := mF_w h
  have hB := mC_B h
  have hd := m_disc (w := w) h.1 hc
  obtain ⟨h1, h2, h3, h4, h5, h6, h7⟩ := h
  refine ⟨hd, h4, mE_B hc h4 hw.1 hw.2, hB, h5, h6, ?_⟩
  rcases h7 with ⟨q1, q2, q3, q4⟩ | q
  · refine Or.inl ⟨q1, q2, q4, ?_⟩
    have k0 := im_sq0 (mE D w b c)
    rcases (show 0 < mC D w b c ∨ mC D w b c ≤ 0 by omega) with z | z
    · exact z
    · have : c * mC D w b c ≤ 0 := Int.mul_nonpos_of_nonneg_of_nonpos (by omega) z
      have e : 4 * c * mC D w b c = 4 * (c * mC D w b c) := by grind
      omega
  · exact Or.inr q
