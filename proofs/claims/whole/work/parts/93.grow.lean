/-! how the numbers of the matrix grow -/
/-- a column of the matrix, by its sizes: x is the upper, y the lower -/
def gro (D w : Int) (f : Fm) (x y : Nat → Int) : Prop := ∀ i, 0 ≤ x i ∧ 0 ≤ y i ∧ x (i + 1) ≤ mS (mT D w (itn D w i f).2.1 (itn D w i f).2.2) * x i + y i ∧ y (i + 1) = x i
theorem mS_add (a b : Int) : mS (a + b) ≤ mS a + mS b := by
  rcases im_S a with ⟨h1, e1⟩ | ⟨h1, e1⟩ <;> rcases im_S b with ⟨h2, e2⟩ | ⟨h2, e2⟩ <;> rcases im_S (a + b) with ⟨h3, e3⟩ | ⟨h3, e3⟩ <;> omega
theorem mS_neg (a : Int) : mS (-a) = mS a := by
  rcases im_S a with ⟨h1, e1⟩ | ⟨h1, e1⟩ <;> rcases im_S (-a) with ⟨h3, e3⟩ | ⟨h3, e3⟩ <;> omega
theorem gro_0 (D w : Int) (f : Fm) : gro D w f (fun i => mS (mxs D w f i).1) (fun i => mS (mxs D w f i).2.2.1) := by
  intro i
  refine ⟨mS_0 _, mS_0 _, ?_, ?_⟩
  · show mS (mxs D w f (i + 1)).1 ≤ _
    rw [mxs]
    dsimp only
    have := mS_add (mT D w (itn D w i f).2.1 (itn D w i f).2.2 * (mxs D w f i).1) (mxs D w f i).2.2.1
    rw [mS_mul] at this
    exact this
  · show mS (mxs D w f (i + 1)).2.2.1 = _
    rw [mxs]
    exact mS_neg _
theorem gro_1 (D w : Int) (f : Fm) : gro D w f (fun i => mS (mxs D w f i).2.1) (fun i => mS (mxs D w f i).2.2.2) := by
  intro i
  refine ⟨mS_0 _, mS_0 _, ?_, ?_⟩
  · show mS (mxs D w f (i + 1)).2.1 ≤ _
    rw [mxs]
    dsimp only
    have := mS_add (mT D w (itn D w i f).2.1 (itn D w i f).2.2 * (mxs D w f i).2.1) (mxs D w f i).2.2.2
    rw [mS_mul] at this
    exact this
  · show mS (mxs D w f (i + 1)).2.2.2 = _
    rw [mxs]
    exact mS_neg _
/-- the size of a turn -/
theorem t_size {D w b c : Int} (hc : c ≠ 0) : 2 * (mS c * mS (mT D w b c)) ≤ mS b + mS (mE D w b c) := by
  have h := mT_eq D w b c hc
  have e : 2 * (c * mT D w b c) = b + mE D w b c := by rw [h]; grind
  have h2 := mS_add b (mE D w b c)
  rw [← e, mS_mul, mS_mul] at h2
  have : mS 2 = 2 := by decide
  rw [this] at h2
  exact h2
theorem e_near {D w b c : Int} (hc : c ≠ 0) (hm : D < 0 ∨ w < mS c) : mS (mE D w b c) ≤ mS c := by
  rcases mM_cases D w c with ⟨h1, h2⟩ | ⟨h1, h2, h3⟩
  · have := mE_near (b := b) hc h1
    exact mS_le (by omega) this.2
  · omega
theorem e_far {D w b c : Int} (hc : c ≠ 0) (hD : 0 < D) (hm : mS c ≤ w) : mS (mE D w b c) ≤ w := by
  have h1 := mE_lo (D := D) (w := w) (b := b) hc
  have h2 := mE_hi (D := D) (w := w) (b := b) hc
  rcases mM_cases D w c with ⟨q1, q2⟩ | ⟨q1, q2, q3⟩
  · omega
  · exact mS_le (by omega) (by omega)
theorem mx2 {t x y c a K : Int} (ht : 0 ≤ t) (hx : 0 ≤ x) (hy : 0 ≤ y) (hc : 0 ≤ c) (h : (t + 1) * c ≤ a) (h1 : x * a ≤ K) (h2 : y * a ≤ K) : (t * x + y) * c ≤ K := by
  rcases (show x ≤ y ∨ y ≤ x by omega) with q | q
  · have k1 : t * x ≤ t * y := Int.mul_le_mul_of_nonneg_left q ht
    have k2 : (t * x + y) * c ≤ (t * y + y) * c := Int.mul_le_mul_of_nonneg_right (by omega) hc
    have k3 : y * ((t + 1) * c) ≤ y * a := Int.mul_le_mul_of_nonneg_left h hy
    have e : (t * y + y) * c = y * ((t + 1) * c) := by grind
    omega
  · have k2 : (t * x + y) * c ≤ (t * x + x) * c := Int.mul_le_mul_of_nonneg_right (by omega) hc
    have k3 : x * ((t + 1) * c) ≤ x * a := Int.mul_le_mul_of_nonneg_left h hx
    have e : (t * x + x) * c = x * ((t + 1) * c) := by grind
    omega
theorem mx1 {t x y a K : Int} (ht : 0 ≤ t) (hx : 0 ≤ x) (hy : 0 ≤ y) (h : t + 1 ≤ a) (h1 : x * a ≤ K) (h2 : y * a ≤ K) : t * x + y ≤ K := by
  have := mx2 (c := 1) ht hx hy (by omega) (by omega) h1 h2
  omega
theorem im_pos_mul {a b : Int} (ha : 1 ≤ a) (hb : 0 ≤ b) : b ≤ a * b := by
  have := Int.mul_le_mul_of_nonneg_right ha hb
  omega
theorem im_pos_mul' {a b : Int} (ha : 1 ≤ a) (hb : 0 ≤ b) : b ≤ b * a := by rw [Int.mul_comm]; exact im_pos_mul ha hb
/-- the last of the way to the reduced form: from a last coefficient that is at most w -/
theorem gro_end {D w : Int} {f : Fm} (hF : fF D w f) (hD : 0 < D) {x y : Nat → Int} (hg : gro D w f x y) {i : Nat} {H : Int} (hc : mS (itn D w i f).2.2 ≤ w)
    (h1 : x (i + 1) ≤ H) (h2 : y (i + 1) ≤ H) {m : Nat} (hm : ∀ j, j < m → ¬ fR D w (itn D w j f)) (him : i + 1 ≤ m) : x m ≤ 1025 * H ∧ y m ≤ 1025 * H := by
  have hi := fF_itn i f hF
  have hi1 := fF_itn (i + 1) f hF
  obtain ⟨a1, a2, -, -⟩ := hg (i + 1)
  have w1 := mF_w hF
  rcases (show m = i + 1 ∨ i + 1 < m by omega) with rfl | q1
  · omega
  have n1 : ¬ fR D w (itn D w (i + 1) f) := hm _ q1
  rw [itn_s] at n1
  have hB : w < 2 * mS (itn D w i f).2.2 := by
    rcases (show 2 * mS (itn D w i f).2.2 ≤ w ∨ w < 2 * mS (itn D w i f).2.2 by omega) with z | z
    · exact absurd (red_A hi hD z) n1
    · exact z
  have hB2 := red_B hi hD hc hB
  have hr : fR D w (itn D w (i + 2) f) := by
    have e : itn D w (i + 2) f = nx D w (nx D w (itn D w i f)) := by rw [itn_s, itn_s]
    rw [e]
    have e2 : nx D w (itn D w i f) = itn D w (i + 1) f := (itn_s D w i f).symm
    have := red_A hi1 hD (by rw [itn_s]; exact hB2)
    rw [itn_s] at this
    exact this
  have hmi : m = i + 2 := by
    rcases (show m = i + 2 ∨ i + 2 < m by omega) with z | z
    · exact z
    · exact absurd hr (hm _ z)
  subst hmi
  obtain ⟨b1, b2, b3, b4⟩ := hg (i + 1)
  have hc1 := mF_c hi1
  have ts := t_size (D := D) (w := w) (b := (itn D w (i + 1) f).2.1) hc1
  have hb1 : mS (itn D w (i + 1) f).2.1 ≤ w := by
    rw [itn_s]
    exact e_far (mF_c hi) hD hc
  have hc2 : mS (itn D w (i + 1) f).2.2 ≤ w := by
    rw [itn_s]
    have := mS_0 (mC D w (itn D w i f).2.1 (itn D w i f).2.2)
    show mS (mC D w (itn D w i f).2.1 (itn D w i f).2.2) ≤ w
    omega
  have he1 := e_far (b := (itn D w (i + 1) f).2.1) hc1 hD hc2
  have ht0 := mS_0 (mT D w (itn D w (i + 1) f).2.1 (itn D w (i + 1) f).2.2)
  have hp := im_pos_mul (show 1 ≤ mS (itn D w (i + 1) f).2.2 by have := mS_pos hc1; omega) ht0
  have key := mx1 (a := 1025) (K := 1025 * H) ht0 b1 b2 (by omega) (by omega) (by omega)
  have b3' : x (i + 2) ≤ _ := b3
  have b4' : y (i + 2) = _ := b4
  refine ⟨by omega, ?_⟩
  rw [b4']
  omega
/-- steps with a last coefficient beyond w -/
theorem gro_far {D w : Int} {f : Fm} (hF : fF D w f) (hD : 0 < D) {x y : Nat → Int} (hg : gro D w f x y) {K : Int} {m : Nat} (hm : ∀ j, j < m → ¬ fR D w (itn D w j f)) :
    ∀ (d i : Nat), i + d = m → w < mS (itn D w i f).1 → mS (itn D w i f).2.1 ≤ mS (itn D w i f).1 → 4 * mS (itn D w i f).2.2 ≤ mS (itn D w i f).1 → x i * mS (itn D w i f).1 ≤ K → y i * mS (itn D w i f).1 ≤ K → x m ≤ 2050 * K ∧ y m ≤ 2050 * K
  | 0, i, him, h1, h2, h3, h4, h5 => by
    have : i = m := by omega
    subst this
    obtain ⟨a1, a2, -, -⟩ := hg i
    have w1 := mF_w hF
    have hi := fF_itn i f hF
    have ha := mS_pos (mF_a hi)
    have k1 := im_pos_mul' (show 1 ≤ mS (itn D w i f).1 by omega) a1
    have k2 := im_pos_mul' (show 1 ≤ mS (itn D w i f).1 by omega) a2
    omega
  | d + 1, i, him, h1, h2, h3, h4, h5 => by
    obtain ⟨a1, a2, a3, a4⟩ := hg i
    have w1 := mF_w hF
    have hi := fF_itn i f hF
    have hc := mF_c hi
    have hc0 := mS_pos hc
    have ts := t_size (D := D) (w := w) (b := (itn D w i f).2.1) hc
    have ht0 := mS_0 (mT D w (itn D w i f).2.1 (itn D w i f).2.2)
    rcases (show w < mS (itn D w i f).2.2 ∨ mS (itn D w i f).2.2 ≤ w by omega) with q | q
    · have he := e_near (D := D) (b := (itn D w i f).2.1) hc (Or.inr q)
      have hC := red_C hi hD q
      have hk : (mS (mT D w (itn D w i f).2.1 (itn D w i f).2.2) + 1) * mS (itn D w i f).2.2 ≤ mS (itn D w i f).1 := by
        have e : (mS (mT D w (itn D w i f).2.1 (itn D w i f).2.2) + 1) * mS (itn D w i f).2.2 = mS (itn D w i f).2.2 * mS (mT D w (itn D w i f).2.1 (itn D w i f).2.2) + mS (itn D w i f).2.2 := by grind
        omega
      have k1 := mx2 ht0 a1 a2 (show 0 ≤ mS (itn D w i f).2.2 by omega) hk h4 h5
      have k2 : x (i + 1) * mS (itn D w i f).2.2 ≤ (mS (mT D w (itn D w i f).2.1 (itn D w i f).2.2) * x i + y i) * mS (itn D w i f).2.2 := Int.mul_le_mul_of_nonneg_right a3 (by omega)
      have k3 : y (i + 1) * mS (itn D w i f).2.2 ≤ x i * mS (itn D w i f).1 := by
        rw [a4]
        exact Int.mul_le_mul_of_nonneg_left (by omega) a1
      have e1 : (itn D w (i + 1) f).1 = (itn D w i f).2.2 := by rw [itn_s]
      have e2 : (itn D w (i + 1) f).2.1 = mE D w (itn D w i f).2.1 (itn D w i f).2.2 := by rw [itn_s]
      have e3 : (itn D w (i + 1) f).2.2 = mC D w (itn D w i f).2.1 (itn D w i f).2.2 := by rw [itn_s]
      exact gro_far hF hD hg hm d (i + 1) (by omega) (by rw [e1]; exact q) (by rw [e1, e2]; exact he) (by rw [e1, e3]; exact hC) (by rw [e1]; omega) (by rw [e1]; omega)
    · have he := e_far (b := (itn D w i f).2.1) hc hD q
      have hp := im_pos_mul (show 1 ≤ mS (itn D w i f).2.2 by omega) ht0
      have key := mx1 (a := 2 * mS (itn D w i f).1) (K := 2 * K) ht0 a1 a2 (by omega) (by
        have e : x i * (2 * mS (itn D w i f).1) = 2 * (x i * mS (itn D w i f).1) := by grind
        omega) (by
        have e : y i * (2 * mS (itn D w i f).1) = 2 * (y i * mS (itn D w i f).1) := by grind
        omega)
      have k1 := im_pos_mul' (show 1 ≤ mS (itn D w i f).1 by omega) a1
      have := gro_end hF hD hg (i := i) (H := 2 * K) q (by omega) (by rw [a4]; omega) hm (by omega)
      omega
theorem x0_B {b : Int} (h : mB b) : mS b ≤ 2147483648 := mB_S h
/-- to the first reduced form, a discriminant above 0 -/
theorem gro_pos {D w : Int} {f : Fm} (hF : fF D w f) (hD : 0 < D) {x y : Nat → Int} (hg : gro D w f x y) (hx : x 0 ≤ 1) (hy : y 0 ≤ 1) {m : Nat} (hm : ∀ j, j < m → ¬ fR D w (itn D w j f)) : x m ≤ 2 ^ 44 ∧ y m ≤ 2 ^ 44 := by
  rcases (show m = 0 ∨ 1 ≤ m by omega) with rfl | hm1
  · exact ⟨by omega, by omega⟩
  obtain ⟨a1, a2, a3, a4⟩ := hg 0
  have w1 := mF_w hF
  have hc : f.2.2 ≠ 0 := mF_c hF
  have hc0 := mS_pos hc
  have ts := t_size (D := D) (w := w) (b := f.2.1) hc
  have ht0 := mS_0 (mT D w f.2.1 f.2.2)
  have hb := mB_S hF.2.2.1
  have hcB := mB_S hF.2.2.2.1
  have e0 : itn D w 0 f = f := rfl
  rw [e0] at a3
  rcases (show w < mS f.2.2 ∨ mS f.2.2 ≤ w by omega) with q | q
  · have he := e_near (D := D) (b := f.2.1) hc (Or.inr q)
    have hC := red_C hF hD q
    have hk : (mS (mT D w f.2.1 f.2.2) + 1) * mS f.2.2 ≤ 4294967296 := by
      have e : (mS (mT D w f.2.1 f.2.2) + 1) * mS f.2.2 = mS f.2.2 * mS (mT D w f.2.1 f.2.2) + mS f.2.2 := by grind
      omega
    have k1 := mx2 (K := 4294967296) ht0 a1 a2 (show 0 ≤ mS f.2.2 by omega) hk (by omega) (by omega)
    have k2 : x (0 + 1) * mS f.2.2 ≤ (mS (mT D w f.2.1 f.2.2) * x 0 + y 0) * mS f.2.2 := Int.mul_le_mul_of_nonneg_right a3 (by omega)
    have k3 : y (0 + 1) * mS f.2.2 ≤ 1 * mS f.2.2 := by
      rw [a4]
      exact Int.mul_le_mul_of_nonneg_right hx (by omega)
    have := gro_far (K := 4294967296) hF hD hg hm (m - 1) (0 + 1) (by omega) q he hC (by exact Int.le_trans k2 k1) (by
      have : y (0 + 1) * mS f.2.2 ≤ 4294967296 := by omega
      exact this)
    omega
  · have he := e_far (b := f.2.1) hc hD q
    have hp := im_pos_mul (show 1 ≤ mS f.2.2 by omega) ht0
    have key := mx1 (a := 4294967296) (K := 4294967296) ht0 a1 a2 (by omega) (by omega) (by omega)
    have := gro_end hF hD hg (i := 0) (H := 4294967296) q (by omega) (by rw [a4]; omega) hm (by omega)
    omega
/-- the same, a discriminant below 0 -/
theorem gro_neg1 {D w : Int} {f : Fm} (hF : fF D w f) (hD : D < 0) {x y : Nat → Int} (hg : gro D w f x y) {m i : Nat} {K : Int} (hm : ∀ j, j < m → ¬ fR D w (itn D w j f))
    (him : i + 1 ≤ m) (h1 : x (i + 1) * mS (itn D w i f).2.2 ≤ K) (h2 : y (i + 1) * mS (itn D w i f).2.2 ≤ K)
    (hr : mRed D w (itn D w i f).2.2 (mE D w (itn D w i f).2.1 (itn D w i f).2.2) (mC D w (itn D w i f).2.1 (itn D w i f).2.2) ∨ (mE D w (itn D w i f).2.1 (itn D w i f).2.2 < 0 ∧ mC D w (itn D w i f).2.1 (itn D w i f).2.2 = (itn D w i f).2.2)) : x m ≤ 2 * K ∧ y m ≤ 2 * K := by
  have hi := fF_itn i f hF
  have hi1 := fF_itn (i + 1) f hF
  have hc := mF_c hi
  have hc0 := mS_pos hc
  obtain ⟨a1, a2, a3, a4⟩ := hg (i + 1)
  have k1 := im_pos_mul' (show 1 ≤ mS (itn D w i f).2.2 by omega) a1
  have k2 := im_pos_mul' (show 1 ≤ mS (itn D w i f).2.2 by omega) a2
  have e1 : itn D w (i + 1) f = nx D w (itn D w i f) := itn_s D w i f
  rcases (show m = i + 1 ∨ i + 1 < m by omega) with rfl | q1
  · omega
  have n1 := hm _ q1
  rcases hr with hr | ⟨r1, r2⟩
  · rw [e1] at n1
    exact absurd hr n1
  have he := e_near (w := w) (b := (itn D w i f).2.1) hc (Or.inl hD)
  have hcp : 0 < (itn D w i f).2.2 := by
    rcases hi.2.2.2.2.2.2 with ⟨-, -, -, z⟩ | ⟨z, -⟩
    · exact z
    · omega
  have hcs : mS (itn D w i f).2.2 = (itn D w i f).2.2 := by unfold mS; split <;> omega
  have hnear := mE_near (D := D) (w := w) (b := (itn D w i f).2.1) hc (by
    rcases mM_cases D w (itn D w i f).2.2 with ⟨z, -⟩ | ⟨-, z, -⟩
    · exact z
    · omega)
  have hr2 : fR D w (itn D w (i + 2) f) := by
    have hf1 : mF D w (itn D w i f).2.2 (mE D w (itn D w i f).2.1 (itn D w i f).2.2) (itn D w i f).2.2 := by
      have := hi1
      rw [e1] at this
      have z : mF D w (itn D w i f).2.2 (mE D w (itn D w i f).2.1 (itn D w i f).2.2) (mC D w (itn D w i f).2.1 (itn D w i f).2.2) := this
      rw [r2] at z
      exact z
    have := red_N2 hf1 hD r1 (by omega)
    have e2 : itn D w (i + 2) f = nx D w (nx D w (itn D w i f)) := by rw [itn_s, itn_s]
    rw [e2]
    show mRed D w (mC D w (itn D w i f).2.1 (itn D w i f).2.2) (mE D w (mE D w (itn D w i f).2.1 (itn D w i f).2.2) (mC D w (itn D w i f).2.1 (itn D w i f).2.2)) (mC D w (mE D w (itn D w i f).2.1 (itn D w i f).2.2) (mC D w (itn D w i f).2.1 (itn D w i f).2.2))
    rw [r2]
    exact this
  have hmi : m = i + 2 := by
    rcases (show m = i + 2 ∨ i + 2 < m by omega) with z | z
    · exact z
    · exact absurd hr2 (hm _ z)
  subst hmi
  have a3' : x (i + 2) ≤ _ := a3
  have a4' : y (i + 2) = _ := a4
  have hc1 := mF_c hi1
  have ts := t_size (D := D) (w := w) (b := (itn D w (i + 1) f).2.1) hc1
  have hb1 : mS (itn D w (i + 1) f).2.1 ≤ mS (itn D w i f).2.2 := by rw [e1]; exact he
  have hc2 : (itn D w (i + 1) f).2.2 = (itn D w i f).2.2 := by rw [e1]; exact r2
  have he1 := e_near (w := w) (b := (itn D w (i + 1) f).2.1) hc1 (Or.inl hD)
  have ht0 := mS_0 (mT D w (itn D w (i + 1) f).2.1 (itn D w (i + 1) f).2.2)
  have hle : mS (mT D w (itn D w (i + 1) f).2.1 (itn D w (i + 1) f).2.2) ≤ 1 := by
    rcases (show mS (mT D w (itn D w (i + 1) f).2.1 (itn D w (i + 1) f).2.2) ≤ 1 ∨ 2 ≤ mS (mT D w (itn D w (i + 1) f).2.1 (itn D w (i + 1) f).2.2) by omega) with z | z
    · exact z
    · have z2 : mS (itn D w (i + 1) f).2.2 * 2 ≤ mS (itn D w (i + 1) f).2.2 * mS (mT D w (itn D w (i + 1) f).2.1 (itn D w (i + 1) f).2.2) := Int.mul_le_mul_of_nonneg_left z (mS_0 _)
      rw [hc2] at z2 ts he1
      omega
  have key := mx1 (a := 2) (K := 2 * K) ht0 a1 a2 (by omega) (by omega) (by omega)
  refine ⟨by omega, ?_⟩
  rw [a4']
  omega
theorem gro_neg {D w : Int} {f : Fm} (hF : fF D w f) (hD : D < 0) {x y : Nat → Int} (hg : gro D w f x y) {m : Nat} (hm : ∀ j, j < m → ¬ fR D w (itn D w j f)) :
    ∀ (d i : Nat) (K : Int), i + 1 + d = m → 0 ≤ K → x (i + 1) * mS (itn D w i f).2.2 ≤ K → y (i + 1) * mS (itn D w i f).2.2 ≤ K → x m ≤ 2 ^ (d + 1) * K ∧ y m ≤ 2 ^ (d + 1) * K
  | 0, i, K, him, hK, h1, h2 => by
    have hc0 := mS_pos (mF_c (fF_itn i f hF))
    obtain ⟨a1, a2, -, -⟩ := hg (i + 1)
    have k1 := im_pos_mul' (show 1 ≤ mS (itn D w i f).2.2 by omega) a1
    have k2 := im_pos_mul' (show 1 ≤ mS (itn D w i f).2.2 by omega) a2
    have : m = i + 1 := by omega
    subst this
    rw [show (2 : Int) ^ (0 + 1) = 2 from rfl]
    omega
  | d + 1, i, K, him, hK, h1, h2 => by
    have hi := fF_itn i f hF
    have hi1 := fF_itn (i + 1) f hF
    have hp : (2 : Int) ≤ 2 ^ (d + 1 + 1) := by
      have : (1 : Int) ≤ 2 ^ (d + 1) := Int.pow_pos (by decide)
      rw [Int.pow_succ]
      omega
    have hpK : 2 * K ≤ 2 ^ (d + 1 + 1) * K := Int.mul_le_mul_of_nonneg_right hp hK
    rcases red_N hi hD with r | r | ⟨r1, -⟩
    · have := gro_neg1 hF hD hg hm (i := i) (by omega) h1 h2 (Or.inl r)
      omega
    · have := gro_neg1 hF hD hg hm (i := i) (by omega) h1 h2 (Or.inr r)
      omega
    · obtain ⟨a1, a2, a3, a4⟩ := hg (i + 1)
      have hc := mF_c hi
      have hc0 := mS_pos hc
      have hc1 := mF_c hi1
      have hc10 := mS_pos hc1
      have hcp : 0 < (itn D w i f).2.2 := by
        rcases hi.2.2.2.2.2.2 with ⟨-, -, -, z⟩ | ⟨z, -⟩
        · exact z
        · omega
      have hcs : mS (itn D w i f).2.2 = (itn D w i f).2.2 := by unfold mS; split <;> omega
      have e1 : itn D w (i + 1) f = nx D w (itn D w i f) := itn_s D w i f
      have hcp1 : 0 < (itn D w (i + 1) f).2.2 := by
        rcases hi1.2.2.2.2.2.2 with ⟨-, -, -, z⟩ | ⟨z, -⟩
        · exact z
        · omega
      have hcs1 : mS (itn D w (i + 1) f).2.2 = (itn D w (i + 1) f).2.2 := by unfold mS; split <;> omega
      have r1' : (itn D w (i + 1) f).2.2 < (itn D w i f).2.2 := by rw [e1]; exact r1
      have ts := t_size (D := D) (w := w) (b := (itn D w (i + 1) f).2.1) hc1
      have hb1 : mS (itn D w (i + 1) f).2.1 ≤ mS (itn D w i f).2.2 := by
        rw [e1]
        exact e_near (w := w) (b := (itn D w i f).2.1) hc (Or.inl hD)
      have he1 := e_near (w := w) (b := (itn D w (i + 1) f).2.1) hc1 (Or.inl hD)
      have ht0 := mS_0 (mT D w (itn D w (i + 1) f).2.1 (itn D w (i + 1) f).2.2)
      have hk : (mS (mT D w (itn D w (i + 1) f).2.1 (itn D w (i + 1) f).2.2) + 1) * mS (itn D w (i + 1) f).2.2 ≤ 2 * mS (itn D w i f).2.2 := by
        have e : (mS (mT D w (itn D w (i + 1) f).2.1 (itn D w (i + 1) f).2.2) + 1) * mS (itn D w (i + 1) f).2.2 = mS (itn D w (i + 1) f).2.2 * mS (mT D w (itn D w (i + 1) f).2.1 (itn D w (i + 1) f).2.2) + mS (itn D w (i + 1) f).2.2 := by grind
        omega
      have k1 := mx2 (K := 2 * K) ht0 a1 a2 (show 0 ≤ mS (itn D w (i + 1) f).2.2 by omega) hk (by
        have e : x (i + 1) * (2 * mS (itn D w i f).2.2) = 2 * (x (i + 1) * mS (itn D w i f).2.2) := by grind
        omega) (by
        have e : y (i + 1) * (2 * mS (itn D w i f).2.2) = 2 * (y (i + 1) * mS (itn D w i f).2.2) := by grind
        omega)
      have k2 : x (i + 1 + 1) * mS (itn D w (i + 1) f).2.2 ≤ (mS (mT D w (itn D w (i + 1) f).2.1 (itn D w (i + 1) f).2.2) * x (i + 1) + y (i + 1)) * mS (itn D w (i + 1) f).2.2 := Int.mul_le_mul_of_nonneg_right a3 (by omega)
      have k3 : y (i + 1 + 1) * mS (itn D w (i + 1) f).2.2 ≤ x (i + 1) * mS (itn D w i f).2.2 := by
        rw [a4]
        exact Int.mul_le_mul_of_nonneg_left (by omega) a1
      have := gro_neg hF hD hg hm d (i + 1) (2 * K) (by omega) (by omega) (by omega) (by omega)
      have e : (2 : Int) ^ (d + 1 + 1) * K = 2 ^ (d + 1) * (2 * K) := by rw [Int.pow_succ (2 : Int) (d + 1)]; grind
      rw [e]
      exact this
theorem gro_neg0 {D w : Int} {f : Fm} (hF : fF D w f) (hD : D < 0) {x y : Nat → Int} (hg : gro D w f x y) (hx : x 0 ≤ 1) (hy : y 0 ≤ 1) {m : Nat} (hm : ∀ j, j < m → ¬ fR D w (itn D w j f)) (hm2 : m ≤ 1047) : x m ≤ 2 ^ 1081 ∧ y m ≤ 2 ^ 1081 := by
  have hbig : (1 : Int) ≤ 2 ^ 1081 := Int.pow_pos (by decide)
  rcases (show m = 0 ∨ 1 ≤ m by omega) with rfl | hm1
  · exact ⟨by omega, by omega⟩
  obtain ⟨a1, a2, a3, a4⟩ := hg 0
  have hc : f.2.2 ≠ 0 := mF_c hF
  have hc0 := mS_pos hc
  have ts := t_size (D := D) (w := w) (b := f.2.1) hc
  have ht0 := mS_0 (mT D w f.2.1 f.2.2)
  have hb := mB_S hF.2.2.1
  have hcB := mB_S hF.2.2.2.1
  have e0 : itn D w 0 f = f := rfl
  rw [e0] at a3
  have he := e_near (w := w) (b := f.2.1) hc (Or.inl hD)
  have hk : (mS (mT D w f.2.1 f.2.2) + 1) * mS f.2.2 ≤ 4294967296 := by
    have e : (mS (mT D w f.2.1 f.2.2) + 1) * mS f.2.2 = mS f.2.2 * mS (mT D w f.2.1 f.2.2) + mS f.2.2 := by grind
    omega
  have k1 := mx2 (K := 4294967296) ht0 a1 a2 (show 0 ≤ mS f.2.2 by omega) hk (by omega) (by omega)
  have k2 : x (0 + 1) * mS f.2.2 ≤ (mS (mT D w f.2.1 f.2.2) * x 0 + y 0) * mS f.2.2 := Int.mul_le_mul_of_nonneg_right a3 (by omega)
  have k3 : y (0 + 1) * mS f.2.2 ≤ 1 * mS f.2.2 := by
    rw [a4]
    exact Int.mul_le_mul_of_nonneg_right hx (by omega)
  have := gro_neg hF hD hg hm (m - 1) 0 4294967296 (by omega) (by omega) (by rw [e0]; omega) (by rw [e0]; omega)
  have hle : (2 : Int) ^ (m - 1 + 1) * 4294967296 ≤ 2 ^ 1081 := by
    have h1 : (2 : Int) ^ (m - 1 + 1) ≤ 2 ^ 1049 := by
      have := Nat.pow_le_pow_right (show 0 < 2 by decide) (show m - 1 + 1 ≤ 1049 by omega)
      exact_mod_cast this
    have h2 : (2 : Int) ^ 1081 = 2 ^ 1049 * 4294967296 := by rw [show (1081 : Nat) = 1049 + 32 from rfl, Int.pow_add]; rfl
    rw [h2]
    generalize (2 : Int) ^ 1049 = P at h1
    generalize (2 : Int) ^ (m - 1 + 1) = P' at h1
    omega
  exact ⟨Int.le_trans this.1 hle, Int.le_trans this.2 hle⟩
