theorem p_size {n : Nat} {c : Int} (h : jR c) : f_X3_size n (jL c) = some (jL (mS c)) := by
  unfold f_X3_size mS
  rw [jL_0]
  by_cases hc : c < 0
  · rw [if_pos ((jL_lt h jR_0).mpr hc), if_pos hc, jL_neg]
  · rw [if_neg (fun q => hc ((jL_lt h jR_0).mp q)), if_neg hc]
theorem p_abs {c : Int} (h : jR c) : (if 0 < jL c then jL c else -jL c) = jL (mS c) := by
  unfold mS
  rw [jL_0]
  by_cases h1 : 0 < c
  · rw [if_pos ((jL_lt jR_0 h).mpr h1), if_neg (by omega)]
  · rw [if_neg (fun q => h1 ((jL_lt jR_0 h).mp q)), jL_neg]
    by_cases h2 : c < 0
    · rw [if_pos h2]
    · rw [if_neg h2]
      have : c = 0 := by omega
      subst this
      rfl
/-- numbers that no coefficient passes -/
def mB (z : Int) : Prop := -2147483648 ≤ z ∧ z ≤ 2147483648
theorem im_sq {e k : Int} (h1 : -k ≤ e) (h2 : e ≤ k) : e * e ≤ k * k := by
  have hk : 0 ≤ k := by omega
  have h3 : 0 ≤ (k - e) * (k + e) := Int.mul_nonneg (by omega) (by omega)
  have h4 : (k - e) * (k + e) = k * k - e * e := by grind
  omega
theorem im_sq0 (e : Int) : 0 ≤ e * e := by
  rcases Int.le_total 0 e with h | h
  · exact Int.mul_nonneg h h
  · exact Int.mul_nonneg_of_nonpos_of_nonpos h h
theorem mB_R {z : Int} (h : mB z) : jR z := by unfold jR; have h1 := h.1; have h2 := h.2; omega
theorem mB_S {c : Int} (h : mB c) : mS c ≤ 2147483648 := mS_le h.1 h.2
/-- the end of a step, both ways, out of the most that e may be -/
theorem p_tail {D b c M : Int} (hc0 : c ≠ 0) (hb : mB b) (hc : mB c) (hM : mB M) (hD1 : -1048576 ≤ D) (hD2 : D ≤ 1048576) (he : mB (M - (M + b) % (2 * mS c))) (h2 : 2 * c ∣ b + (M - (M + b) % (2 * mS c))) (h4 : 4 * c ∣ (M - (M + b) % (2 * mS c)) * (M - (M + b) % (2 * mS c)) - D) :
    (if (2 * (jL (mS c))) = 0 then none else (if (((jL M) + (jL b)) - ((jL M) + (jL b)) / (2 * (jL (mS c))) * (2 * (jL (mS c)))) < 0 then (if (2 * (jL c)) = 0 then none else (if (4 * (jL c)) = 0 then none else (some ((jL c), (jL M) - ((((jL M) + (jL b)) - ((jL M) + (jL b)) / (2 * (jL (mS c))) * (2 * (jL (mS c)))) + (2 * (jL (mS c)))), ((((jL M) - ((((jL M) + (jL b)) - ((jL M) + (jL b)) / (2 * (jL (mS c))) * (2 * (jL (mS c)))) + (2 * (jL (mS c))))) * ((jL M) - ((((jL M) + (jL b)) - ((jL M) + (jL b)) / (2 * (jL (mS c))) * (2 * (jL (mS c)))) + (2 * (jL (mS c)))))) - (jL D)) / (4 * (jL c)), ((jL b) + ((jL M) - ((((jL M) + (jL b)) - ((jL M) + (jL b)) / (2 * (jL (mS c))) * (2 * (jL (mS c)))) + (2 * (jL (mS c)))))) / (2 * (jL c)))))) else (if (2 * (jL c)) = 0 then none else (if (4 * (jL c)) = 0 then none else (some ((jL c), (jL M) - (((jL M) + (jL b)) - ((jL M) + (jL b)) / (2 * (jL (mS c))) * (2 * (jL (mS c)))), ((((jL M) - (((jL M) + (jL b)) - ((jL M) + (jL b)) / (2 * (jL (mS c))) * (2 * (jL (mS c))))) * ((jL M) - (((jL M) + (jL b)) - ((jL M) + (jL b)) / (2 * (jL (mS c))) * (2 * (jL (mS c)))))) - (jL D)) / (4 * (jL c)), ((jL b) + ((jL M) - (((jL M) + (jL b)) - ((jL M) + (jL b)) / (2 * (jL (mS c))) * (2 * (jL (mS c)))))) / (2 * (jL c))))))))
    = some (jL c, jL (M - (M + b) % (2 * mS c)), jL (((M - (M + b) % (2 * mS c)) * (M - (M + b) % (2 * mS c)) - D) / (4 * c)), jL ((b + (M - (M + b) % (2 * mS c))) / (2 * c))) := by
  have hs := mS_pos hc0
  have hs2 := mB_S hc
  obtain ⟨b1, b2⟩ := hb
  obtain ⟨c1, c2⟩ := hc
  obtain ⟨m1, m2⟩ := hM
  obtain ⟨e1, e2⟩ := he
  have r1 : jR (M + b) := ⟨by omega, by omega⟩
  have r2 : jR (2 * mS c) := ⟨by omega, by omega⟩
  have r3 : jR (2 * c) := ⟨by omega, by omega⟩
  have r4 : jR (4 * c) := ⟨by omega, by omega⟩
  have n2 : ¬ jL (2 * mS c) = jL 0 := fun q => by have := (jL_eq r2 jR_0).mp q; omega
  have n3 : ¬ jL (2 * c) = jL 0 := fun q => by have := (jL_eq r3 jR_0).mp q; omega
  have n4 : ¬ jL (4 * c) = jL 0 := fun q => by have := (jL_eq r4 jR_0).mp q; omega
  have hq1 := Int.tmod_lt_of_pos (M + b) (show 0 < 2 * mS c by omega)
  have hq2 := Int.lt_tmod_of_pos (M + b) (show 0 < 2 * mS c by omega)
  have r5 : jR ((M + b).tmod (2 * mS c)) := ⟨by omega, by omega⟩
  have hem := im_emod (x := M + b) (show 0 < 2 * mS c by omega)
  have k1 := im_sq e1 e2
  have k0 := im_sq0 (M - (M + b) % (2 * mS c))
  simp only [jL_0, jL_2, jL_4, jL_mul, jL_add]
  rw [jL_rem r1 r2, if_neg n2]
  by_cases h : (M + b).tmod (2 * mS c) < 0
  · rw [if_pos ((jL_lt r5 jR_0).mpr h), if_neg n3, if_neg n4]
    rw [if_pos h] at hem
    rw [jL_add, jL_sub, ← hem, jL_mul, jL_sub, jL_add]
    generalize M - (M + b) % (2 * mS c) = e at *
    rw [jL_div ⟨by omega, by omega⟩ r4, jL_div ⟨by omega, by omega⟩ r3, Int.tdiv_eq_ediv_of_dvd h4, Int.tdiv_eq_ediv_of_dvd h2]
  · rw [if_neg (fun q => h ((jL_lt r5 jR_0).mp q)), if_neg n3, if_neg n4]
    rw [if_neg h] at hem
    rw [jL_sub, ← hem, jL_mul, jL_sub, jL_add]
    generalize M - (M + b) % (2 * mS c) = e at *
    rw [jL_div ⟨by omega, by omega⟩ r4, jL_div ⟨by omega, by omega⟩ r3, Int.tdiv_eq_ediv_of_dvd h4, Int.tdiv_eq_ediv_of_dvd h2]

/-- what a form has on its way: its discriminant and its root in range, coefficients below 2^31 -/
def mG (D w a b c : Int) : Prop := b * b - 4 * a * c = D ∧ c ≠ 0 ∧ mB b ∧ mB c ∧ -1 ≤ w ∧ w ≤ 1024 ∧ -1048576 ≤ D ∧ D ≤ 1048576
theorem mM_lo {D w c : Int} (hc : c ≠ 0) (hw : -1 ≤ w) : -1 ≤ mM D w c := by
  have := mS_pos hc
  unfold mM
  split <;> omega
theorem mM_hi {D w c : Int} (hw : w ≤ 1024) (hc : mS c ≤ 2147483648) : mM D w c ≤ 2147483648 := by
  unfold mM
  split <;> omega
theorem mM_S {D w c : Int} (hc : c ≠ 0) (hw : -1 ≤ w) (hS : 0 ≤ D → 0 ≤ w) : mS c ≤ mM D w c := by
  unfold mM
  split <;> omega
theorem mE_B {D w b c : Int} (hc0 : c ≠ 0) (hc : mB c) (hw1 : -1 ≤ w) (hw2 : w ≤ 1024) : mB (mE D w b c) := by
  have h1 := mE_lo (D := D) (w := w) (b := b) hc0
  have h2 := mE_hi (D := D) (w := w) (b := b) hc0
  have h3 := mB_S hc
  have h4 := mM_hi (D := D) hw2 h3
  have h5 : mS c ≤ mM D w c := by
    unfold mM
    split <;> omega
  exact ⟨by omega, by omega⟩
set_option maxRecDepth 20000 in
/-- THE REFERENCE'S STEP -/
theorem p_step {n : Nat} {D w a b c : Int} (h : mG D w a b c) : f_X3_step n (jL b) (jL c) (jL D) (jL w) = some (jL c, jL (mE D w b c), jL (mC D w b c), jL (mT D w b c)) := by
  obtain ⟨hD, hc0, hb, hc, hw1, hw2, hD1, hD2⟩ := h
  have hS := mB_S hc
  have hs := mS_pos hc0
  have rD : jR D := ⟨by omega, by omega⟩
  have rw_ : jR w := ⟨by omega, by omega⟩
  have rs : jR (mS c) := ⟨by omega, by omega⟩
  have he := mE_B (D := D) (b := b) hc0 hc hw1 hw2
  have h2 := mE_dvd D w b c
  have h4 : 4 * c ∣ mE D w b c * mE D w b c - D := ⟨_, mC_dvd (w := w) hD hc0⟩
  unfold f_X3_step
  simp only [p_size (mB_R hc), Option.bind_some]
  by_cases d0 : D < 0
  · have hm : mM D w c = mS c := by unfold mM; rw [if_pos (Or.inl d0)]
    rw [jL_0, if_pos ((jL_lt rD jR_0).mpr d0), ← jL_0]
    unfold mC mT
    unfold mE at he h2 h4 ⊢
    rw [hm] at he h2 h4 ⊢
    exact p_tail hc0 hb hc ⟨by omega, by omega⟩ hD1 hD2 he h2 h4
  · rw [jL_0, if_neg (fun q => d0 ((jL_lt rD jR_0).mp q)), ← jL_0]
    by_cases w0 : w < mS c
    · have hm : mM D w c = mS c := by unfold mM; rw [if_pos (Or.inr w0)]
      rw [if_pos ((jL_lt rw_ rs).mpr w0)]
      unfold mC mT
      unfold mE at he h2 h4 ⊢
      rw [hm] at he h2 h4 ⊢
      exact p_tail hc0 hb hc ⟨by omega, by omega⟩ hD1 hD2 he h2 h4
    · have hm : mM D w c = w := by unfold mM; rw [if_neg (by omega)]
      rw [if_neg (fun q => w0 ((jL_lt rw_ rs).mp q))]
      unfold mC mT
      unfold mE at he h2 h4 ⊢
      rw [hm] at he h2 h4 ⊢
      exact p_tail hc0 hb hc ⟨by omega, by omega⟩ hD1 hD2 he h2 h4
