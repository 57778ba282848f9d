theorem red_N2 {D w c e : Int} (h : mF D w c e c) (hD : D < 0) (he : e < 0) (he2 : -c < e) : mRed D w c (mE D w e c) (mC D w e c) := by
  have hc := mF_c h
  have hd := m_disc (w := w) h.1 hc
  have hm : mM D w c = mS c := by unfold mM; rw [if_pos (Or.inl hD)]
  obtain ⟨e1, e2⟩ := mE_near (b := e) hc hm
  obtain ⟨t, ht⟩ := mE_dvd D w e c
  have h1 := h.1
  obtain ⟨-, -, -, -, h5, h6, h7⟩ := h
  have hc0 : 0 < c := by rcases h7 with ⟨-, -, -, q⟩ | ⟨q, -⟩ <;> omega
  have hS : mS c = c := by rcases im_S c with ⟨q, -⟩ | ⟨-, q⟩ <;> omega
  rw [hS] at e1 e2
  have t0 : t = 0 := by
    rcases (show t ≤ -1 ∨ t = 0 ∨ 1 ≤ t by omega) with z | z | z
    · have := Int.mul_le_mul_of_nonneg_left z (show 0 ≤ 2 * c by omega)
      omega
    · exact z
    · have := Int.mul_le_mul_of_nonneg_left z (show 0 ≤ 2 * c by omega)
      omega
  have ee : mE D w e c = -e := by
    rw [t0] at ht
    omega
  rw [ee] at hd ⊢
  have k : c * mC D w e c = c * c := by grind
  have k2 : mC D w e c = c := Int.eq_of_mul_eq_mul_left (by omega) k
  rw [k2]
  left
  refine ⟨hD, ?_, by omega, Or.inl (by omega)⟩
  unfold mS
  split <;> omega
theorem mF_D {D w a b c : Int} (h : mF D w a b c) : D < 0 ∨ 0 < D := by
  rcases h.2.2.2.2.2.2 with ⟨q, -⟩ | ⟨q, -⟩
  · exact Or.inl q
  · exact Or.inr q
theorem red_step {D w : Int} {f : Fm} (h : fF D w f) : fR D w (nx D w f) ∨ fR D w (nx D w (nx D w f)) ∨ (mS (nx D w f).2.2 < mS f.2.2 ∧ (1024 < mS f.2.2 → 2 * mS (nx D w f).2.2 ≤ mS f.2.2)) := by
  have hc := mF_c h
  have hs := mS_pos hc
  rcases mF_D h with hD | hD
  · have hn := mF_next h
    have hc0 : 0 < f.2.2 := by rcases h.2.2.2.2.2.2 with ⟨-, -, -, q⟩ | ⟨q, -⟩ <;> omega
    have hC0 : 0 < mC D w f.2.1 f.2.2 := by rcases hn.2.2.2.2.2.2 with ⟨-, -, -, q⟩ | ⟨q, -⟩ <;> omega
    have hS : mS f.2.2 = f.2.2 := by rcases im_S f.2.2 with ⟨q, -⟩ | ⟨-, q⟩ <;> omega
    have hS2 : mS (mC D w f.2.1 f.2.2) = mC D w f.2.1 f.2.2 := by rcases im_S (mC D w f.2.1 f.2.2) with ⟨q, -⟩ | ⟨-, q⟩ <;> omega
    rcases red_N h hD with q | ⟨q1, q2⟩ | ⟨q1, q2⟩
    · exact Or.inl q
    · refine Or.inr (Or.inl ?_)
      have hm : mM D w f.2.2 = mS f.2.2 := by unfold mM; rw [if_pos (Or.inl hD)]
      have e1 := (mE_near (b := f.2.1) hc hm).1
      show mRed D w (mC D w f.2.1 f.2.2) (mE D w (mE D w f.2.1 f.2.2) (mC D w f.2.1 f.2.2)) (mC D w (mE D w f.2.1 f.2.2) (mC D w f.2.1 f.2.2))
      rw [q2] at hn ⊢
      exact red_N2 hn hD q1 (by omega)
    · refine Or.inr (Or.inr ⟨?_, fun z => ?_⟩)
      · show mS (mC D w f.2.1 f.2.2) < mS f.2.2
        omega
      · show 2 * mS (mC D w f.2.1 f.2.2) ≤ mS f.2.2
        have := q2 (by omega)
        omega
  · rcases (show 2 * mS f.2.2 ≤ w ∨ (mS f.2.2 ≤ w ∧ w < 2 * mS f.2.2) ∨ w < mS f.2.2 by omega) with q | ⟨q1, q2⟩ | q
    · exact Or.inl (red_A h hD q)
    · exact Or.inr (Or.inl (red_A (mF_next h) hD (red_B h hD q1 q2)))
    · have := red_C h hD q
      have h0 := mS_0 (mC D w f.2.1 f.2.2)
      refine Or.inr (Or.inr ⟨?_, fun z => ?_⟩)
      · show mS (mC D w f.2.1 f.2.2) < mS f.2.2
        omega
      · show 2 * mS (mC D w f.2.1 f.2.2) ≤ mS f.2.2
        omega
theorem red_small {D w : Int} : ∀ (m : Nat) (f : Fm), fF D w f → mS f.2.2 ≤ m → ∃ k, k ≤ m + 2 ∧ fR D w (itn D w k f) := by
  intro m
  induction m with
  | zero =>
    intro f h hm
    have := mS_pos (mF_c h)
    omega
  | succ m ih =>
    intro f h hm
    rcases red_step h with q | q | ⟨q, -⟩
    · exact ⟨1, by omega, q⟩
    · exact ⟨2, by omega, q⟩
    · obtain ⟨k, k1, k2⟩ := ih (nx D w f) (mF_next h) (by omega)
      exact ⟨k + 1, by omega, k2⟩
theorem red_large {D w : Int} : ∀ (j : Nat) (f : Fm), fF D w f → mS f.2.2 ≤ ((1024 * 2 ^ j : Nat) : Int) → ∃ k, k ≤ 1026 + j ∧ fR D w (itn D w k f) := by
  intro j
  induction j with
  | zero =>
    intro f h hm
    obtain ⟨k, k1, k2⟩ := red_small 1024 f h (by omega)
    exact ⟨k, by omega, k2⟩
  | succ j ih =>
    intro f h hm
    have hp : (1024 * 2 ^ (j + 1) : Nat) = 2 * (1024 * 2 ^ j) := by rw [Nat.pow_succ]; omega
    by_cases hl : mS f.2.2 ≤ ((1024 * 2 ^ j : Nat) : Int)
    · obtain ⟨k, k1, k2⟩ := ih f h hl
      exact ⟨k, by omega, k2⟩
    · have h1 : (1024 : Nat) ≤ 1024 * 2 ^ j := Nat.le_mul_of_pos_right 1024 (Nat.pow_pos (by omega))
      rcases red_step h with q | q | ⟨-, q⟩
      · exact ⟨1, by omega, q⟩
      · exact ⟨2, by omega, q⟩
      · have := q (by omega)
        obtain ⟨k, k1, k2⟩ := ih (nx D w f) (mF_next h) (by omega)
        exact ⟨k + 1, by omega, k2⟩
/-- from every form one comes to a reduced one, soon -/
theorem red_ex {D w : Int} {f : Fm} (h : fF D w f) : ∃ k, k ≤ 1047 ∧ fR D w (itn D w k f) ∧ ∀ i, i < k → ¬ fR D w (itn D w i f) := by
  have hS := mB_S h.2.2.2.1
  obtain ⟨k, k1, k2⟩ := red_large 21 f h (by omega)
  obtain ⟨j, j1, j2⟩ := pk_least (fun k => fR D w (itn D w k f)) ⟨k, k2⟩
  refine ⟨j, ?_, j1, j2⟩
  rcases (show j ≤ k ∨ k < j by omega) with z | z
  · omega
  · exact absurd k2 (j2 k z)
