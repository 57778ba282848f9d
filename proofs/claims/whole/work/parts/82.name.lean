theorem fF_R {D w : Int} {f : Fm} (h : fF D w f) : jR f.1 ∧ jR f.2.1 ∧ jR f.2.2 := ⟨mB_R h.2.1, mB_R h.2.2.1, mB_R h.2.2.2.1⟩
theorem p_isSame {n : Nat} {D w D' w' : Int} {f g : Fm} (hf : fF D w f) (hg : fF D' w' g) : (f = g → f_X0_isSame n (jL f.1) (jL f.2.1) (jL f.2.2) (jL g.1) (jL g.2.1) (jL g.2.2) = some 1) ∧ (f ≠ g → f_X0_isSame n (jL f.1) (jL f.2.1) (jL f.2.2) (jL g.1) (jL g.2.1) (jL g.2.2) = some 0) := by
  obtain ⟨r1, r2, r3⟩ := fF_R hf
  obtain ⟨s1, s2, s3⟩ := fF_R hg
  obtain ⟨a, b, c⟩ := f
  obtain ⟨a', b', c'⟩ := g
  unfold f_X0_isSame
  simp only [jL_eq r1 s1, jL_eq r2 s2, jL_eq r3 s3]
  constructor
  · intro e
    cases e
    simp
  · intro e
    repeat' split
    all_goals first | rfl | (exfalso; apply e; simp_all)
theorem p_isBefore {n : Nat} {D w D' w' : Int} {f g : Fm} (hf : fF D w f) (hg : fF D' w' g) : (fB f g → f_X0_isBefore n (jL f.1) (jL f.2.1) (jL g.1) (jL g.2.1) = some 1) ∧ (¬ fB f g → f_X0_isBefore n (jL f.1) (jL f.2.1) (jL g.1) (jL g.2.1) = some 0) := by
  obtain ⟨r1, r2, r3⟩ := fF_R hf
  obtain ⟨s1, s2, s3⟩ := fF_R hg
  unfold f_X0_isBefore fB
  simp only [jL_eq r1 s1, jL_lt r1 s1, jL_lt r2 s2]
  constructor
  · intro e
    repeat' split
    all_goals first | rfl | (exfalso; omega)
  · intro e
    repeat' split
    all_goals first | rfl | (exfalso; omega)
theorem fBest_s (D w : Int) (f : Fm) (j : Nat) : (fB (itn D w (j + 1) f) (itn D w (fBest D w f j) f) → fBest D w f (j + 1) = j + 1) ∧ (¬ fB (itn D w (j + 1) f) (itn D w (fBest D w f j) f) → fBest D w f (j + 1) = fBest D w f j) := by
  constructor
  · intro h
    unfold fB at h
    rw [fBest, if_pos h]
  · intro h
    unfold fB at h
    rw [fBest, if_neg h]
/-- THE CLASS goes round the ring -/
theorem p_find {n : Nat} {D w : Int} {f : Fm} (h : fF D w f) {q : Nat} (hq : itn D w (q + 1) f = f) (hne : ∀ i, 1 ≤ i → i < q + 1 → itn D w i f ≠ f) (hb : q < 900000) (s : Nat) : ∀ (d j K : Nat), j + d = q → d < K →
    f_X2_findName_45 n K (nI s) (jL f.1) (jL f.2.1) (jL f.2.2) (jL D) (jL w) (nI (s + fBest D w f j)) (nI (j + 1)) (jL (itn D w (fBest D w f j) f).1) (jL (itn D w (fBest D w f j) f).2.1) (jL (itn D w (fBest D w f j) f).2.2) (jL D) (jL w) (jL (itn D w (j + 1) f).1) (jL (itn D w (j + 1) f).2.1) (jL (itn D w (j + 1) f).2.2)
    = some (nI (s + fBest D w f q), nI (q + 1), jL (itn D w (fBest D w f q) f).1, jL (itn D w (fBest D w f q) f).2.1, jL (itn D w (fBest D w f q) f).2.2, jL D, jL w, jL f.1, jL f.2.1, jL f.2.2) := by
  intro d
  induction d with
  | zero =>
    intro j K hj hK
    obtain ⟨K, rfl⟩ : ∃ K', K = K' + 1 := ⟨K - 1, by omega⟩
    have : j = q := by omega
    subst this
    rw [f_X2_findName_45, if_pos (show nI (j + 1) < 1000000 from nI_lt (b := 1000000) (by omega) (by omega)), hq, (p_isSame h h).1 rfl, Option.bind_some, if_neg o10]
  | succ d ih =>
    intro j K hj hK
    obtain ⟨K, rfl⟩ : ∃ K', K = K' + 1 := ⟨K - 1, by omega⟩
    have hi := fF_itn (j + 1) f h
    have hB := fF_itn (fBest D w f j) f h
    have hn := hne (j + 1) (by omega) (by omega)
    have := ih (j + 1) K (by omega) (by omega)
    rw [f_X2_findName_45, if_pos (show nI (j + 1) < 1000000 from nI_lt (b := 1000000) (by omega) (by omega)), (p_isSame hi h).2 hn, Option.bind_some, if_pos rfl]
    by_cases z : fB (itn D w (j + 1) f) (itn D w (fBest D w f j) f)
    · rw [(fBest_s D w f j).1 z] at this
      rw [(p_isBefore hi hB).1 z, Option.bind_some, if_neg o10]
      unfold f_X0_copy
      rw [Option.bind_some, fF_goOn hi, Option.bind_some, nI_add, nI_1]
      rw [itn_s D w (j + 1) f] at this
      exact this
    · rw [(fBest_s D w f j).2 z] at this
      rw [(p_isBefore hi hB).2 z, Option.bind_some, if_pos rfl, fF_goOn hi, Option.bind_some, nI_1]
      rw [itn_s D w (j + 1) f] at this
      exact this

set_option maxRecDepth 20000 in
/-- THE REFERENCE goes round the ring -/
theorem p_name3 {n : Nat} {D w : Int} {f : Fm} (h : fF D w f) {q : Nat} (hq : itn D w (q + 1) f = f) (hne : ∀ i, 1 ≤ i → i < q + 1 → itn D w i f ≠ f) : ∀ (d j K : Nat) (t : Int64), j + d = q → d < K →
    ∃ t', f_X3_toName_49 n K (jL D) (jL w) (jL f.1) (jL f.2.1) (jL f.2.2) (jL (itn D w (fBest D w f j) f).1) (jL (itn D w (fBest D w f j) f).2.1) (jL (itn D w (fBest D w f j) f).2.2) (jL (itn D w (j + 1) f).1) (jL (itn D w (j + 1) f).2.1) (jL (itn D w (j + 1) f).2.2) t
    = some (jL (itn D w (fBest D w f q) f).1, jL (itn D w (fBest D w f q) f).2.1, jL (itn D w (fBest D w f q) f).2.2, t') := by
  intro d
  induction d with
  | zero =>
    intro j K t hj hK
    obtain ⟨K, rfl⟩ : ∃ K', K = K' + 1 := ⟨K - 1, by omega⟩
    have : j = q := by omega
    subst this
    refine ⟨t, ?_⟩
    rw [f_X3_toName_49, hq, if_pos rfl, if_pos rfl, if_pos rfl]
    rfl
  | succ d ih =>
    intro j K t hj hK
    obtain ⟨K, rfl⟩ : ∃ K', K = K' + 1 := ⟨K - 1, by omega⟩
    have hi := fF_itn (j + 1) f h
    have hB := fF_itn (fBest D w f j) f h
    have hn := hne (j + 1) (by omega) (by omega)
    obtain ⟨t', ht⟩ := ih (j + 1) K (jL (mT D w (itn D w (j + 1) f).2.1 (itn D w (j + 1) f).2.2)) (by omega) (by omega)
    refine ⟨t', ?_⟩
    obtain ⟨r1, r2, r3⟩ := fF_R hi
    obtain ⟨s1, s2, s3⟩ := fF_R hB
    obtain ⟨v1, v2, v3⟩ := fF_R h
    have hst := fF_step (n := n) hi
    rw [itn_s D w (j + 1) f] at ht
    rw [f_X3_toName_49]
    simp only [hst, Option.bind_some, jL_eq r1 v1, jL_eq r2 v2, jL_eq r3 v3, jL_lt r1 s1, jL_eq r1 s1, jL_lt r2 s2]
    by_cases z : fB (itn D w (j + 1) f) (itn D w (fBest D w f j) f)
    · rw [(fBest_s D w f j).1 z] at ht
      unfold fB at z
      generalize itn D w (j + 1) f = g at *
      generalize itn D w (fBest D w f j) f = m at *
      obtain ⟨a, b, c⟩ := g
      obtain ⟨a', b', c'⟩ := f
      dsimp only at *
      repeat' split
      all_goals first | exact ht | (exfalso; omega) | (exfalso; apply hn; simp_all)
    · rw [(fBest_s D w f j).2 z] at ht
      unfold fB at z
      generalize itn D w (j + 1) f = g at *
      obtain ⟨a, b, c⟩ := g
      obtain ⟨a', b', c'⟩ := f
      dsimp only at *
      repeat' split
      all_goals first | exact ht | (exfalso; omega) | (exfalso; apply hn; simp_all)
