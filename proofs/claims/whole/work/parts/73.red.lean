/-- which forms are reduced, as both sides ask -/
def mRed (D w a b c : Int) : Prop := (D < 0 ∧ mS b ≤ a ∧ a ≤ c ∧ (0 ≤ b ∨ (-b < a ∧ a < c))) ∨ (¬ D < 0 ∧ 1 ≤ b ∧ b ≤ w ∧ w < 2 * mS a + b ∧ 2 * mS a - b ≤ w)
theorem im_S (c : Int) : (c < 0 ∧ mS c = -c) ∨ (0 ≤ c ∧ mS c = c) := by
  unfold mS
  split
  · exact Or.inl ⟨by assumption, rfl⟩
  · exact Or.inr ⟨by omega, rfl⟩
theorem mRed_dec (D w a b c : Int) : mRed D w a b c ∨ ¬ mRed D w a b c := Classical.em _
set_option maxRecDepth 20000 in
theorem p_red3 {n : Nat} {D w a b c : Int} (ha : mB a) (hb : mB b) (hc : mB c) (hw1 : -1 ≤ w) (hw2 : w ≤ 1024) (hD1 : -1048576 ≤ D) (hD2 : D ≤ 1048576) :
    (mRed D w a b c → f_X3_isReduced n (jL a) (jL b) (jL c) (jL D) (jL w) = some 1) ∧ (¬ mRed D w a b c → f_X3_isReduced n (jL a) (jL b) (jL c) (jL D) (jL w) = some 0) := by
  have ra := mB_R ha
  have rb := mB_R hb
  have rc := mB_R hc
  have sa := mB_S ha
  have sb := mB_S hb
  have ea := im_S a
  have eb := im_S b
  obtain ⟨a1, a2⟩ := ha
  obtain ⟨b1, b2⟩ := hb
  obtain ⟨c1, c2⟩ := hc
  have rD : jR D := ⟨by omega, by omega⟩
  have rw_ : jR w := ⟨by omega, by omega⟩
  have rsb : jR (mS b) := ⟨by omega, by omega⟩
  have rnb : jR (-b) := ⟨by omega, by omega⟩
  have r1 : jR 1 := ⟨by omega, by omega⟩
  have rp : jR (2 * mS a + b) := ⟨by omega, by omega⟩
  have rm : jR (2 * mS a - b) := ⟨by omega, by omega⟩
  unfold f_X3_isReduced
  simp only [p_size ra, p_size rb, Option.bind_some, jL_0, jL_1, jL_2, jL_mul, jL_add, jL_sub, jL_neg, jL_lt rD jR_0, jL_lt ra rsb, jL_lt rc ra, jL_lt rb jR_0, jL_lt rnb ra, jL_lt ra rc, jL_lt rb r1, jL_lt rw_ rb, jL_lt rw_ rp, jL_lt rw_ rm]
  unfold mRed
  constructor
  · intro h
    repeat' split
    all_goals first | rfl | (exfalso; omega)
  · intro h
    repeat' split
    all_goals first | rfl | (exfalso; omega)
set_option maxRecDepth 20000 in
theorem p_red0 {n : Nat} {D w a b c : Int} (ha : mB a) (hb : mB b) (hc : mB c) (hw1 : -1 ≤ w) (hw2 : w ≤ 1024) (hD1 : -1048576 ≤ D) (hD2 : D ≤ 1048576) :
    (mRed D w a b c → f_X0_isReduced n (jL a) (jL b) (jL c) (jL D) (jL w) = some 1) ∧ (¬ mRed D w a b c → f_X0_isReduced n (jL a) (jL b) (jL c) (jL D) (jL w) = some 0) := by
  have ra := mB_R ha
  have rb := mB_R hb
  have rc := mB_R hc
  have sa := mB_S ha
  have sb := mB_S hb
  have ea := im_S a
  have eb := im_S b
  obtain ⟨a1, a2⟩ := ha
  obtain ⟨b1, b2⟩ := hb
  obtain ⟨c1, c2⟩ := hc
  have rD : jR D := ⟨by omega, by omega⟩
  have rw_ : jR w := ⟨by omega, by omega⟩
  have rsb : jR (mS b) := ⟨by omega, by omega⟩
  have rp : jR (2 * mS a + b) := ⟨by omega, by omega⟩
  have rm : jR (2 * mS a - b) := ⟨by omega, by omega⟩
  unfold f_X0_isReduced
  rw [p_abs ra, p_abs rb]
  simp only [jL_0, jL_1, jL_2, jL_mul, jL_add, jL_sub, jL_neg, jL_lt rD jR_0, jL_lt ra rsb, jL_lt rc ra, jL_lt rb jR_0, jL_eq rsb ra, jL_eq ra rc, jL_lt jR_0 rb, jL_lt rw_ rb, jL_lt rw_ rp, jL_lt rw_ rm]
  unfold mRed
  constructor
  · intro h
    repeat' split
    all_goals first | rfl | (exfalso; omega)
  · intro h
    repeat' split
    all_goals first | rfl | (exfalso; omega)
theorem p_disc3 {n : Nat} {a b c : Int} : f_X3_discriminant n (jL a) (jL b) (jL c) = some (jL (b * b - 4 * a * c)) := by
  unfold f_X3_discriminant
  simp only [jL_4, jL_mul, jL_sub]
theorem p_disc2 {n : Nat} {a b c : Int} : f_X2_discriminantOf n (jL a) (jL b) (jL c) = some (jL (b * b - 4 * a * c)) := by
  unfold f_X2_discriminantOf
  simp only [jL_4, jL_mul, jL_sub]
theorem p_in {n : Nat} {v l h : Int} (rv : jR v) (rl : jR l) (rh : jR h) : (l ≤ v ∧ v ≤ h → f_X3_in n (jL v) (jL l) (jL h) = some 1) ∧ (¬ (l ≤ v ∧ v ≤ h) → f_X3_in n (jL v) (jL l) (jL h) = some 0) := by
  unfold f_X3_in
  simp only [jL_lt rv rl, jL_lt rh rv]
  constructor
  · intro q
    repeat' split
    all_goals first | rfl | (exfalso; omega)
  · intro q
    repeat' split
    all_goals first | rfl | (exfalso; omega)
