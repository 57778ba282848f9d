theorem p_isCoef {n : Nat} (x : Int32) : (0 ≤ x.toInt ∧ x.toInt ≤ 2 → f_X2_isCoefficient n x = some 1) ∧ (¬ (0 ≤ x.toInt ∧ x.toInt ≤ 2) → f_X2_isCoefficient n x = some 0) := by
  have e0 : (0 : Int32).toInt = 0 := rfl
  have e3 : (3 : Int32).toInt = 3 := rfl
  unfold f_X2_isCoefficient
  simp only [Int32.lt_iff_toInt_lt, e0, e3]
  constructor
  · intro q
    repeat' split
    all_goals first | rfl | (exfalso; omega)
  · intro q
    repeat' split
    all_goals first | rfl | (exfalso; omega)
theorem p_in02 {n : Nat} (x : Int32) : (0 ≤ x.toInt ∧ x.toInt ≤ 2 → f_X3_in n x.toInt64 0 2 = some 1) ∧ (¬ (0 ≤ x.toInt ∧ x.toInt ≤ 2) → f_X3_in n x.toInt64 0 2 = some 0) := by
  rw [i32_jL, jL_0, jL_2]
  exact p_in (mB_R (i32_B x)) jR_0 ⟨by omega, by omega⟩
theorem p_part_ex {n : Nat} (a : Int32) (x y z : Int64) : ∃ r, f_X3_part n a x y z = some r := by
  unfold f_X3_part
  repeat' split
  all_goals exact ⟨_, rfl⟩
theorem i32_eq {x y : Int32} : x = y ↔ x.toInt = y.toInt := Int32.toInt_inj.symm
/-- FORM, both sides -/
theorem p_form {n : Nat} (hn : 600000 ≤ n) {D w : Int} {f : Fm} {k q : Nat} (h : wy D w f k q) (x1 x2 : Int32) (v6 v7 v8 v9 : Int64) :
    ∃ (o : Sum Int32 Int32) (r cd : Int32) (s6 s7 s8 s9 : Int64), f_X2_form n (jL f.1) (jL f.2.1) (jL f.2.2) (jL (wR D w f k).1) (jL (wR D w f k).2.1) (jL (wR D w f k).2.2) (jL (wN D w f k q).1) (jL (wN D w f k q).2.1) (jL (wN D w f k q).2.2) x1 x2 = some o ∧ f_X3_form n (jL f.1) (jL f.2.1) (jL f.2.2) (jL D) (jL w) v6 v7 v8 v9 (jL (wN D w f k q).1) (jL (wN D w f k q).2.1) (jL (wN D w f k q).2.2) x1 x2 = some (r, cd, s6, s7, s8, s9) ∧ ((o = .inr 1 ∧ cd = 1) ∨ (o = .inl r ∧ cd = 0)) := by
  have e0 : (0 : Int32).toInt = 0 := rfl
  have e2 : (2 : Int32).toInt = 2 := rfl
  have e1 : (1 : Int32).toInt = 1 := rfl
  have fail : f_X3_form_33 n (jL f.1) (jL f.2.1) (jL f.2.2) (jL D) (jL w) (jL (wN D w f k q).1) (jL (wN D w f k q).2.1) (jL (wN D w f k q).2.2) x1 x2 1 v6 v7 v8 v9 = some (0, 1, v6, v7, v8, v9) := by
    unfold f_X3_form_33
    rw [if_pos (show (0 : Int32) < 1 by decide)]
  unfold f_X2_form f_X3_form
  by_cases h1 : 0 ≤ x1.toInt ∧ x1.toInt ≤ 2
  case neg =>
    rw [(p_in02 x1).2 h1, Option.bind_some, if_pos rfl, fail]
    refine ⟨.inr 1, 0, 1, v6, v7, v8, v9, ?_, rfl, Or.inl ⟨rfl, rfl⟩⟩
    by_cases z : x1 < 0
    · rw [if_pos z]
    · rw [if_neg z, if_pos (by rw [Int32.lt_iff_toInt_lt] at z ⊢; rw [e0] at z; rw [e2]; omega)]
  have z1 : ¬ x1 < 0 := fun z => by rw [Int32.lt_iff_toInt_lt, e0] at z; omega
  have z2 : ¬ 2 < x1 := fun z => by rw [Int32.lt_iff_toInt_lt, e2] at z; omega
  rw [(p_in02 x1).1 h1, Option.bind_some, if_neg o10, if_neg z1, if_neg z2]
  by_cases h2 : 0 ≤ x2.toInt ∧ x2.toInt ≤ 2
  case neg =>
    rw [(p_in02 x2).2 h2, (p_isCoef x2).2 h2, Option.bind_some, Option.bind_some, if_pos rfl, if_pos rfl, fail]
    exact ⟨.inr 1, 0, 1, v6, v7, v8, v9, rfl, rfl, Or.inl ⟨rfl, rfl⟩⟩
  rw [(p_in02 x2).1 h2, (p_isCoef x2).1 h2, Option.bind_some, Option.bind_some, if_neg o10, if_neg o10]
  unfold f_X3_form_33 f_X3_begin
  rw [if_neg (show ¬ (0 : Int32) < 0 by decide), Option.bind_some]
  dsimp only
  rw [p_coef, p_coef, p_coef]
  rcases (show x1.toInt = 0 ∨ x1.toInt = 1 ∨ x1.toInt = 2 by omega) with z | z | z
  · have a0 : x1 = 0 := i32_eq.mpr z
    subst a0
    obtain ⟨r, hr⟩ := p_part_ex (n := n) x2 (jL f.1) (jL f.2.1) (jL f.2.2)
    rw [if_pos rfl, if_neg (by decide), if_neg (by decide), hr]
    exact ⟨.inl r, r, 0, _, _, _, _, rfl, rfl, Or.inr ⟨rfl, rfl⟩⟩
  · have a0 : x1 = 1 := i32_eq.mpr z
    subst a0
    obtain ⟨t', ht⟩ := p_toRed (n := n) hn h v9
    obtain ⟨r, hr⟩ := p_part_ex (n := n) x2 (jL (wR D w f k).1) (jL (wR D w f k).2.1) (jL (wR D w f k).2.2)
    rw [if_neg (by decide), if_pos rfl, if_neg (by decide), if_pos rfl, ht, Option.bind_some, hr]
    exact ⟨.inl r, r, 0, _, _, _, _, rfl, rfl, Or.inr ⟨rfl, rfl⟩⟩
  · have a0 : x1 = 2 := i32_eq.mpr z
    subst a0
    obtain ⟨r, hr⟩ := p_part_ex (n := n) x2 (jL (wN D w f k q).1) (jL (wN D w f k q).2.1) (jL (wN D w f k q).2.2)
    rw [if_neg (by decide), if_neg (by decide), if_pos rfl, hr]
    exact ⟨.inl r, r, 0, _, _, _, _, rfl, rfl, Or.inr ⟨rfl, rfl⟩⟩
