theorem im_prod {a c k : Int} (ha1 : -k ≤ a) (ha2 : a ≤ k) (hc1 : -k ≤ c) (hc2 : c ≤ k) : -(k * k) ≤ a * c ∧ a * c ≤ k * k := by
  have h1 : 0 ≤ (k - a) * (k - c) := Int.mul_nonneg (by omega) (by omega)
  have h2 : 0 ≤ (k + a) * (k + c) := Int.mul_nonneg (by omega) (by omega)
  have h3 : 0 ≤ (k - a) * (k + c) := Int.mul_nonneg (by omega) (by omega)
  have h4 : 0 ≤ (k + a) * (k - c) := Int.mul_nonneg (by omega) (by omega)
  have e1 : (k - a) * (k - c) + (k + a) * (k + c) = 2 * (k * k) + 2 * (a * c) := by grind
  have e2 : (k - a) * (k + c) + (k + a) * (k - c) = 2 * (k * k) - 2 * (a * c) := by grind
  omega
/-- a coefficient that a form may have when it is taken -/
def mK (z : Int) : Prop := -1073741824 ≤ z ∧ z ≤ 1073741824
/-- a form that can be taken -/
def mTk (a b c : Int) : Prop := mK a ∧ mK b ∧ mK c ∧ -1048576 ≤ b * b - 4 * a * c ∧ b * b - 4 * a * c ≤ 1048576 ∧ (b * b - 4 * a * c < 0 → 0 < a) ∧ (0 ≤ b * b - 4 * a * c → ∀ r, mRt r (b * b - 4 * a * c) → r * r ≠ b * b - 4 * a * c)
theorem mK_D {a b c : Int} (ha : mK a) (hb : mK b) (hc : mK c) : jR (b * b - 4 * a * c) := by
  have h1 := im_prod ha.1 ha.2 hc.1 hc.2
  have h2 := im_sq hb.1 hb.2
  have h3 := im_sq0 b
  have e : 4 * a * c = 4 * (a * c) := by grind
  rw [e]
  exact ⟨by omega, by omega⟩
theorem i32_jL (x : Int32) : x.toInt64 = jL x.toInt := by
  apply Int64.toInt_inj.mp
  have h1 := x.le_toInt
  have h2 := x.toInt_lt
  rw [Int32.toInt_toInt64, jL_toInt ⟨by omega, by omega⟩]
theorem i32_B (x : Int32) : mB x.toInt := by
  have h1 := x.le_toInt
  have h2 := x.toInt_lt
  exact ⟨by omega, by omega⟩
theorem p_can3 {n : Nat} (hn : 1025 ≤ n) {a b c : Int} (ha : mB a) (hb : mB b) (hc : mB c) :
    (mTk a b c → f_X3_canBeTaken n (jL a) (jL b) (jL c) = some 1) ∧ (¬ mTk a b c → f_X3_canBeTaken n (jL a) (jL b) (jL c) = some 0) := by
  have l1 : (-1073741824 : Int64) = jL (-1073741824) := by decide
  have l2 : (1073741824 : Int64) = jL 1073741824 := by decide
  have l3 : (-1048576 : Int64) = jL (-1048576) := by decide
  have l4 : (1048576 : Int64) = jL 1048576 := by decide
  have r1 : jR (-1073741824) := ⟨by omega, by omega⟩
  have r2 : jR 1073741824 := ⟨by omega, by omega⟩
  have r3 : jR (-1048576) := ⟨by omega, by omega⟩
  have r4 : jR 1048576 := ⟨by omega, by omega⟩
  have o1 : ¬ (1 : Int32) = 0 := by decide
  unfold f_X3_canBeTaken
  rw [l1, l2, l3, l4]
  by_cases h1 : mK a
  case neg =>
    rw [(p_in (mB_R ha) r1 r2).2 h1, Option.bind_some, if_pos rfl]
    exact ⟨fun h => absurd h.1 h1, fun _ => rfl⟩
  rw [(p_in (mB_R ha) r1 r2).1 h1, Option.bind_some, if_neg o1]
  by_cases h2 : mK b
  case neg =>
    rw [(p_in (mB_R hb) r1 r2).2 h2, Option.bind_some, if_pos rfl]
    exact ⟨fun h => absurd h.2.1 h2, fun _ => rfl⟩
  rw [(p_in (mB_R hb) r1 r2).1 h2, Option.bind_some, if_neg o1]
  by_cases h3 : mK c
  case neg =>
    rw [(p_in (mB_R hc) r1 r2).2 h3, Option.bind_some, if_pos rfl]
    exact ⟨fun h => absurd h.2.2.1 h3, fun _ => rfl⟩
  rw [(p_in (mB_R hc) r1 r2).1 h3, Option.bind_some, if_neg o1, p_disc3, Option.bind_some]
  have rD := mK_D h1 h2 h3
  unfold mTk
  generalize b * b - 4 * a * c = D at *
  by_cases h4 : -1048576 ≤ D ∧ D ≤ 1048576
  case neg =>
    rw [(p_in rD r3 r4).2 h4, Option.bind_some, if_pos rfl]
    exact ⟨fun h => absurd ⟨h.2.2.2.1, h.2.2.2.2.1⟩ h4, fun _ => rfl⟩
  rw [(p_in rD r3 r4).1 h4, Option.bind_some, if_neg o1, jL_0]
  by_cases h5 : D < 0
  · rw [if_pos ((jL_lt rD jR_0).mpr h5)]
    by_cases h6 : 0 < a
    · rw [if_pos ((jL_lt jR_0 (mB_R ha)).mpr h6)]
      exact ⟨fun _ => rfl, fun h => absurd ⟨h1, h2, h3, h4.1, h4.2, fun _ => h6, fun q => by omega⟩ h⟩
    · rw [if_neg (fun z => h6 ((jL_lt jR_0 (mB_R ha)).mp z))]
      exact ⟨fun h => absurd (h.2.2.2.2.2.1 h5) h6, fun _ => rfl⟩
  · rw [if_neg (fun z => h5 ((jL_lt rD jR_0).mp z))]
    obtain ⟨r, hr⟩ := mRt_ex D (by omega)
    have hr2 := mRt_le hr h4.2
    have hr0 := hr.1
    have q1 := im_mono hr0 hr2
    have q0 := im_sq0 r
    rw [p_root3 hn hr h4.2, Option.bind_some, Option.bind_some, jL_mul]
    by_cases h6 : r * r = D
    · rw [if_pos (by rw [h6])]
      exact ⟨fun h => absurd h6 (h.2.2.2.2.2.2 (by omega) r hr), fun _ => rfl⟩
    · rw [if_neg (fun z => h6 ((jL_eq ⟨by omega, by omega⟩ rD).mp z))]
      exact ⟨fun _ => rfl, fun h => absurd ⟨h1, h2, h3, h4.1, h4.2, fun q => absurd q h5, fun _ s hs => by rw [mRt_un hs hr]; exact h6⟩ h⟩
theorem p_small {n : Nat} {a : Int} (ha : mB a) : (mK a → f_X2_isSmallEnough n (jL a) = some 1) ∧ (¬ mK a → f_X2_isSmallEnough n (jL a) = some 0) := by
  have l1 : (-1073741824 : Int64) = jL (-1073741824) := by decide
  have l2 : (1073741824 : Int64) = jL 1073741824 := by decide
  have r1 : jR (-1073741824) := ⟨by omega, by omega⟩
  have r2 : jR 1073741824 := ⟨by omega, by omega⟩
  unfold f_X2_isSmallEnough mK
  rw [l1, l2]
  simp only [jL_lt (mB_R ha) r1, jL_lt r2 (mB_R ha)]
  constructor
  · intro q
    repeat' split
    all_goals first | rfl | (exfalso; omega)
  · intro q
    repeat' split
    all_goals first | rfl | (exfalso; omega)
theorem p_can2 {n : Nat} (hn : 12 ≤ n) {a b c : Int} (ha : mB a) (hb : mB b) (hc : mB c) :
    (mTk a b c → f_X2_canBeTaken n (jL a) (jL b) (jL c) = some 1) ∧ (¬ mTk a b c → f_X2_canBeTaken n (jL a) (jL b) (jL c) = some 0) := by
  have l3 : (-1048576 : Int64) = jL (-1048576) := by decide
  have l4 : (1048576 : Int64) = jL 1048576 := by decide
  have r3 : jR (-1048576) := ⟨by omega, by omega⟩
  have r4 : jR 1048576 := ⟨by omega, by omega⟩
  have o1 : ¬ (1 : Int32) = 0 := by decide
  unfold f_X2_canBeTaken
  rw [l3, l4]
  by_cases h1 : mK a
  case neg =>
    rw [(p_small ha).2 h1, Option.bind_some, if_pos rfl]
    exact ⟨fun h => absurd h.1 h1, fun _ => rfl⟩
  rw [(p_small ha).1 h1, Option.bind_some, if_neg o1]
  by_cases h2 : mK b
  case neg =>
    rw [(p_small hb).2 h2, Option.bind_some, if_pos rfl]
    exact ⟨fun h => absurd h.2.1 h2, fun _ => rfl⟩
  rw [(p_small hb).1 h2, Option.bind_some, if_neg o1]
  by_cases h3 : mK c
  case neg =>
    rw [(p_small hc).2 h3, Option.bind_some, if_pos rfl]
    exact ⟨fun h => absurd h.2.2.1 h3, fun _ => rfl⟩
  rw [(p_small hc).1 h3, Option.bind_some, if_neg o1, p_disc2, Option.bind_some]
  have rD := mK_D h1 h2 h3
  unfold mTk
  generalize b * b - 4 * a * c = D at *
  by_cases h4 : D < -1048576
  · rw [if_pos ((jL_lt rD r3).mpr h4)]
    exact ⟨fun h => absurd h.2.2.2.1 (by omega), fun _ => rfl⟩
  rw [if_neg (fun z => h4 ((jL_lt rD r3).mp z))]
  by_cases h7 : 1048576 < D
  · rw [if_pos ((jL_lt r4 rD).mpr h7)]
    exact ⟨fun h => absurd h.2.2.2.2.1 (by omega), fun _ => rfl⟩
  rw [if_neg (fun z => h7 ((jL_lt r4 rD).mp z)), jL_0]
  by_cases h5 : D < 0
  · rw [if_pos ((jL_lt rD jR_0).mpr h5)]
    by_cases h6 : 0 < a
    · rw [if_pos ((jL_lt jR_0 (mB_R ha)).mpr h6)]
      exact ⟨fun _ => rfl, fun h => absurd ⟨h1, h2, h3, by omega, by omega, fun _ => h6, fun q => by omega⟩ h⟩
    · rw [if_neg (fun z => h6 ((jL_lt jR_0 (mB_R ha)).mp z))]
      exact ⟨fun h => absurd (h.2.2.2.2.2.1 h5) h6, fun _ => rfl⟩
  · rw [if_neg (fun z => h5 ((jL_lt rD jR_0).mp z))]
    obtain ⟨r, hr⟩ := mRt_ex D (by omega)
    have hr2 := mRt_le hr (by omega)
    have hr0 := hr.1
    have q1 := im_mono hr0 hr2
    have q0 := im_sq0 r
    rw [p_root2 hn hr (by omega), Option.bind_some, jL_mul]
    by_cases h6 : r * r = D
    · rw [if_pos (by rw [h6])]
      exact ⟨fun h => absurd h6 (h.2.2.2.2.2.2 (by omega) r hr), fun _ => rfl⟩
    · rw [if_neg (fun z => h6 ((jL_eq ⟨by omega, by omega⟩ rD).mp z))]
      exact ⟨fun _ => rfl, fun h => absurd ⟨h1, h2, h3, by omega, by omega, fun q => absurd q h5, fun _ s hs => by rw [mRt_un hs hr]; exact h6⟩ h⟩
