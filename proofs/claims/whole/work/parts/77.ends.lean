abbrev Fm := Int × Int × Int
abbrev nx (D w : Int) (f : Fm) : Fm := (f.2.2, mE D w f.2.1 f.2.2, mC D w f.2.1 f.2.2)
abbrev fF (D w : Int) (f : Fm) : Prop := mF D w f.1 f.2.1 f.2.2
abbrev fR (D w : Int) (f : Fm) : Prop := mRed D w f.1 f.2.1 f.2.2
def itn (D w : Int) : Nat → Fm → Fm
  | 0, f => f
  | k + 1, f => itn D w k (nx D w f)
theorem itn_s (D w : Int) : ∀ (k : Nat) (f : Fm), itn D w (k + 1) f = nx D w (itn D w k f)
  | 0, _ => rfl
  | k + 1, f => by
    show itn D w (k + 1) (nx D w f) = nx D w (itn D w k (nx D w f))
    exact itn_s D w k (nx D w f)
theorem itn_add (D w : Int) (j : Nat) : ∀ (k : Nat) (f : Fm), itn D w (k + j) f = itn D w j (itn D w k f)
  | 0, f => by rw [Nat.zero_add]; rfl
  | k + 1, f => by
    rw [show k + 1 + j = (k + j) + 1 by omega]
    show itn D w (k + j) (nx D w f) = itn D w j (itn D w k (nx D w f))
    exact itn_add D w j k (nx D w f)
theorem fF_itn {D w : Int} : ∀ (k : Nat) (f : Fm), fF D w f → fF D w (itn D w k f)
  | 0, _, h => h
  | k + 1, f, h => fF_itn k (nx D w f) (mF_next h)
/-- |c| at most half the root: the next is reduced -/
theorem red_A {D w a b c : Int} (h : mF D w a b c) (hD : 0 < D) (h2 : 2 * mS c ≤ w) : mRed D w c (mE D w b c) (mC D w b c) := by
  have hc := mF_c h
  have hs := mS_pos hc
  have hm : mM D w c = w := by unfold mM; rw [if_neg (by omega)]
  have h1 := mE_lo (D := D) (w := w) (b := b) hc
  have h3 := mE_hi (D := D) (w := w) (b := b) hc
  rw [hm] at h1 h3
  exact Or.inr ⟨by omega, by omega, by omega, by omega, by omega⟩
theorem red_B {D w a b c : Int} (h : mF D w a b c) (hD : 0 < D) (h1 : mS c ≤ w) (h2 : w < 2 * mS c) : 2 * mS (mC D w b c) ≤ w := by
  have hc := mF_c h
  have hs := mS_pos hc
  have hz := mC_size h
  have hm : mM D w c = w := by unfold mM; rw [if_neg (by omega)]
  have e1 := mE_lo (D := D) (w := w) (b := b) hc
  have e2 := mE_hi (D := D) (w := w) (b := b) hc
  rw [hm] at e1 e2
  obtain ⟨-, -, -, -, -, -, h7⟩ := h
  rcases h7 with ⟨q, -⟩ | ⟨-, ⟨r0, r1, r2⟩, r3⟩
  · omega
  · have k1 := im_sq (show -w ≤ mE D w b c by omega) e2
    have k0 := im_sq0 (mE D w b c)
    have e3 : mS (mE D w b c * mE D w b c - D) = D - mE D w b c * mE D w b c := by
      unfold mS
      split
      · omega
      · omega
    rw [e3] at hz
    rcases (show 2 * mS (mC D w b c) ≤ w ∨ w + 1 ≤ 2 * mS (mC D w b c) by omega) with z | z
    · exact z
    · have := Int.mul_le_mul (show w + 1 ≤ 2 * mS c by omega) z (by omega) (by omega)
      have e4 : 2 * mS c * (2 * mS (mC D w b c)) = 4 * (mS c * mS (mC D w b c)) := by grind
      omega
theorem red_C {D w a b c : Int} (h : mF D w a b c) (hD : 0 < D) (h1 : w < mS c) : 4 * mS (mC D w b c) ≤ mS c := by
  have hc := mF_c h
  have hs := mS_pos hc
  have hz := mC_size h
  have hm : mM D w c = mS c := by unfold mM; rw [if_pos (Or.inr h1)]
  obtain ⟨e1, e2⟩ := mE_near (b := b) hc hm
  obtain ⟨-, -, -, -, -, -, h7⟩ := h
  rcases h7 with ⟨q, -⟩ | ⟨-, ⟨r0, r1, r2⟩, r3⟩
  · omega
  · have k1 := im_sq (show -mS c ≤ mE D w b c by omega) e2
    have k0 := im_sq0 (mE D w b c)
    have k2 := im_mono (show 0 ≤ w + 1 by omega) (show w + 1 ≤ mS c by omega)
    have e3 : mS (mE D w b c * mE D w b c - D) ≤ mS c * mS c := by
      unfold mS
      split <;> (unfold mS at k1 k2; omega)
    rw [← hz] at e3
    rcases (show 4 * mS (mC D w b c) ≤ mS c ∨ mS c + 1 ≤ 4 * mS (mC D w b c) by omega) with z | z
    · exact z
    · have := Int.mul_le_mul_of_nonneg_left z (show 0 ≤ mS c by omega)
      have e4 : mS c * (4 * mS (mC D w b c)) = 4 * (mS c * mS (mC D w b c)) := by grind
      have e5 : mS c * (mS c + 1) = mS c * mS c + mS c := by grind
      omega
/-- D below 0: reduced, or reduced at the next, or the last coefficient falls; a large one to half -/
theorem red_N {D w a b c : Int} (h : mF D w a b c) (hD : D < 0) : mRed D w c (mE D w b c) (mC D w b c) ∨ (mE D w b c < 0 ∧ mC D w b c = c) ∨ (mC D w b c < c ∧ (1024 < c → 2 * mC D w b c ≤ c)) := by
  have hc := mF_c h
  have hd := m_disc (w := w) h.1 hc
  have hn := mF_next h
  have hm : mM D w c = mS c := by unfold mM; rw [if_pos (Or.inl hD)]
  obtain ⟨e1, e2⟩ := mE_near (b := b) hc hm
  obtain ⟨-, -, -, -, h5, h6, h7⟩ := h
  obtain ⟨-, -, -, -, -, -, h8⟩ := hn
  have hc0 : 0 < c := by rcases h7 with ⟨-, -, -, q⟩ | ⟨q, -⟩ <;> omega
  have hC0 : 0 < mC D w b c := by rcases h8 with ⟨-, -, -, q⟩ | ⟨q, -⟩ <;> omega
  have hS : mS c = c := by rcases im_S c with ⟨q, -⟩ | ⟨-, q⟩ <;> omega
  rw [hS] at e1 e2
  have k1 := im_sq (show -c ≤ mE D w b c by omega) e2
  have e4 : 4 * c * mC D w b c = 4 * (c * mC D w b c) := by grind
  rcases (show mC D w b c < c ∨ c ≤ mC D w b c by omega) with z | z
  · refine Or.inr (Or.inr ⟨z, fun q => ?_⟩)
    rcases (show 2 * mC D w b c ≤ c ∨ c + 1 ≤ 2 * mC D w b c by omega) with y | y
    · exact y
    · have := Int.mul_le_mul_of_nonneg_left y (show 0 ≤ c by omega)
      have e5 : c * (2 * mC D w b c) = 2 * (c * mC D w b c) := by grind
      have e6 : c * (c + 1) = c * c + c := by grind
      have e7 := im_mono (show (0 : Int) ≤ 1025 by omega) (show 1025 ≤ c by omega)
      omega
  · rcases (show (mE D w b c < 0 ∧ mC D w b c = c) ∨ 0 ≤ mE D w b c ∨ c < mC D w b c by omega) with y | y
    · exact Or.inr (Or.inl y)
    · left
      left
      refine ⟨hD, ?_, z, ?_⟩
      · unfold mS
        split <;> omega
      · rcases y with y | y
        · exact Or.inl y
        · exact Or.inr ⟨by omega, y⟩
