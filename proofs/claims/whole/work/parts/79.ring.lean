/-- more things than places -/
theorem php : ∀ (N : Nat) (g : Nat → Nat), (∀ i, i ≤ N → g i < N) → ∃ i j, i < j ∧ j ≤ N ∧ g i = g j := by
  intro N
  induction N with
  | zero => intro g h; exact absurd (h 0 (by omega)) (by omega)
  | succ N ih =>
    intro g h
    by_cases q : ∃ i, i ≤ N ∧ g i = g (N + 1)
    · obtain ⟨i, h1, h2⟩ := q
      exact ⟨i, N + 1, by omega, by omega, h2⟩
    · have hne : ∀ i, i ≤ N → g i ≠ g (N + 1) := fun i h1 h2 => q ⟨i, h1, h2⟩
      have hN := h (N + 1) (by omega)
      obtain ⟨i, j, h1, h2, h3⟩ := ih (fun i => if g (N + 1) < g i then g i - 1 else g i) (fun i hi => by
        have := h i (by omega)
        have := hne i hi
        show (if g (N + 1) < g i then g i - 1 else g i) < N
        split <;> omega)
      refine ⟨i, j, h1, by omega, ?_⟩
      have e1 := hne i (by omega)
      have e2 := hne j h2
      have h3 : (if g (N + 1) < g i then g i - 1 else g i) = (if g (N + 1) < g j then g j - 1 else g j) := h3
      split at h3 <;> split at h3 <;> omega
/-- D above 0: what a reduced form has of its last coefficient, and signs -/
theorem redP {D w a b c : Int} (h : mF D w a b c) (hD : 0 < D) (hr : mRed D w a b c) : 1 ≤ b ∧ b ≤ w ∧ w < 2 * mS a + b ∧ 2 * mS a - b ≤ w ∧ w < 2 * mS c + b ∧ 2 * mS c - b ≤ w ∧ 4 * (mS a * mS c) = D - b * b ∧ a * c < 0 ∧ w * w < D ∧ D < (w + 1) * (w + 1) := by
  rcases hr with ⟨q, -⟩ | ⟨-, h1, h2, h3, h4⟩
  · omega
  have hd := h.1
  rcases h.2.2.2.2.2.2 with ⟨q, -⟩ | ⟨-, ⟨r0, r1, r2⟩, r3⟩
  · omega
  have k1 := im_mono (show 0 ≤ b by omega) h2
  have e0 : 4 * a * c = 4 * (a * c) := by grind
  have hac : a * c < 0 := by omega
  have hs : mS a * mS c = -(a * c) := by
    rw [← mS_mul]
    unfold mS
    rw [if_pos hac]
  have hz : 4 * (mS a * mS c) = D - b * b := by omega
  have sa := mS_0 a
  have sc := mS_0 c
  refine ⟨h1, h2, h3, h4, ?_, ?_, hz, hac, by omega, r2⟩
  · rcases (show w < 2 * mS c + b ∨ 2 * mS c ≤ w - b by omega) with z | z
    · exact z
    · have := Int.mul_le_mul (show 2 * mS a ≤ w + b by omega) z (by omega) (by omega)
      have e1 : 2 * mS a * (2 * mS c) = 4 * (mS a * mS c) := by grind
      have e2 : (w + b) * (w - b) = w * w - b * b := by grind
      omega
  · rcases (show 2 * mS c - b ≤ w ∨ w + 1 + b ≤ 2 * mS c by omega) with z | z
    · exact z
    · have := Int.mul_le_mul (show w + 1 - b ≤ 2 * mS a by omega) z (by omega) (by omega)
      have e1 : 2 * mS a * (2 * mS c) = 4 * (mS a * mS c) := by grind
      have e2 : (w + 1 - b) * (w + 1 + b) = (w + 1) * (w + 1) - b * b := by grind
      omega
/-- the next of a reduced form is reduced -/
theorem red_next {D w a b c : Int} (h : mF D w a b c) (hD : 0 < D) (hr : mRed D w a b c) : mRed D w c (mE D w b c) (mC D w b c) := by
  obtain ⟨h1, h2, h3, h4, h5, h6, h7, h8, h9, h10⟩ := redP h hD hr
  have hc := mF_c h
  have hs := mS_pos hc
  have hm : mM D w c = w := by unfold mM; rw [if_neg (by omega)]
  have e1 := mE_lo (D := D) (w := w) (b := b) hc
  have e2 := mE_hi (D := D) (w := w) (b := b) hc
  rw [hm] at e1 e2
  have hq : 2 * mS c ∣ b + mE D w b c := by
    obtain ⟨t, ht⟩ := mE_dvd D w b c
    rcases im_S c with ⟨-, q⟩ | ⟨-, q⟩
    · exact ⟨-t, by rw [ht, q]; grind⟩
    · exact ⟨t, by rw [ht, q]⟩
  obtain ⟨t, ht⟩ := hq
  have he : 2 * mS c - b ≤ mE D w b c := by
    rcases (show 1 ≤ t ∨ t ≤ 0 by omega) with z | z
    · have := Int.mul_le_mul_of_nonneg_left z (show 0 ≤ 2 * mS c by omega)
      omega
    · have := Int.mul_le_mul_of_nonneg_left z (show 0 ≤ 2 * mS c by omega)
      omega
  exact Or.inr ⟨by omega, by omega, by omega, by omega, by omega⟩
/-- no two reduced forms have the same next -/
theorem red_inj {D w a b c a' b' c' : Int} (h : mF D w a b c) (h' : mF D w a' b' c') (hD : 0 < D) (hr : mRed D w a b c) (hr' : mRed D w a' b' c') (hc : c = c') (he : mE D w b c = mE D w b' c') : a = a' ∧ b = b' := by
  subst hc
  obtain ⟨h1, h2, h3, h4, h5, h6, h7, h8, h9, h10⟩ := redP h hD hr
  obtain ⟨g1, g2, g3, g4, g5, g6, g7, g8, g9, g10⟩ := redP h' hD hr'
  have hc := mF_c h
  have hs := mS_pos hc
  have k1 := mT_eq D w b c hc
  have k2 := mT_eq D w b' c hc
  have kd : b - b' = 2 * c * (mT D w b c - mT D w b' c) := by grind
  have hb : b = b' := by
    have hz : mT D w b c - mT D w b' c = 0 := by
      generalize mT D w b c - mT D w b' c = t at kd
      rcases (show t ≤ -1 ∨ t = 0 ∨ 1 ≤ t by omega) with z | z | z
      · rcases im_S c with ⟨p, q⟩ | ⟨p, q⟩
        · have := Int.mul_le_mul_of_nonneg_left z (show 0 ≤ -(2 * c) by omega)
          have e : -(2 * c) * t = -(2 * c * t) := by grind
          omega
        · have := Int.mul_le_mul_of_nonneg_left z (show 0 ≤ 2 * c by omega)
          omega
      · exact z
      · rcases im_S c with ⟨p, q⟩ | ⟨p, q⟩
        · have := Int.mul_le_mul_of_nonneg_left z (show 0 ≤ -(2 * c) by omega)
          have e : -(2 * c) * t = -(2 * c * t) := by grind
          omega
        · have := Int.mul_le_mul_of_nonneg_left z (show 0 ≤ 2 * c by omega)
          omega
    rw [hz] at kd
    omega
  refine ⟨?_, hb⟩
  have d1 := h.1
  have d2 := h'.1
  subst hb
  have : c * a = c * a' := by grind
  exact Int.eq_of_mul_eq_mul_left hc this
