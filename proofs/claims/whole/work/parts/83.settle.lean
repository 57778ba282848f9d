/-- a form with its way: k steps to the reduced form, q + 1 forms in the ring -/
def wy (D w : Int) (f : Fm) (k q : Nat) : Prop := fF D w f ∧ k ≤ 1047 ∧ fR D w (itn D w k f) ∧ (∀ i, i < k → ¬ fR D w (itn D w i f)) ∧ q < 526338 ∧ (D < 0 → q = 0) ∧ (0 < D → itn D w (q + 1) (itn D w k f) = itn D w k f ∧ ∀ i, 1 ≤ i → i < q + 1 → itn D w i (itn D w k f) ≠ itn D w k f)
theorem wy_ex {D w : Int} {f : Fm} (h : fF D w f) : ∃ k q, wy D w f k q := by
  obtain ⟨k, k1, k2, k3⟩ := red_ex h
  rcases mF_D h with hD | hD
  · exact ⟨k, 0, h, k1, k2, k3, by omega, fun _ => rfl, fun q => by omega⟩
  · obtain ⟨p, p1, p2, p3, p4⟩ := ring_closes (fF_itn k f h) hD k2
    obtain ⟨q, rfl⟩ : ∃ q, p = q + 1 := ⟨p - 1, by omega⟩
    exact ⟨k, q, h, k1, k2, k3, by omega, fun q => by omega, fun _ => ⟨p3, p4⟩⟩
/-- the reduced form -/
abbrev wR (D w : Int) (f : Fm) (k : Nat) : Fm := itn D w k f
/-- the place of the name in the ring, and the name -/
abbrev wB (D w : Int) (f : Fm) (k q : Nat) : Nat := fBest D w (itn D w k f) q
abbrev wN (D w : Int) (f : Fm) (k q : Nat) : Fm := itn D w (wB D w f k q) (itn D w k f)
theorem nI_00 : (0 : Int32) = nI 0 := rfl
set_option maxRecDepth 20000 in
/-- THE CLASS settles -/
theorem p_settle {n : Nat} (hn : 600000 ≤ n) {D w : Int} {f : Fm} {k q : Nat} (h : wy D w f k q) :
    f_X2_settle n (jL f.1) (jL f.2.1) (jL f.2.2) (jL D) (jL w) = some (nI k, nI (k + wB D w f k q), nI (q + 1), 0, jL (wR D w f k).1, jL (wR D w f k).2.1, jL (wR D w f k).2.2, jL D, jL w, jL (wN D w f k q).1, jL (wN D w f k q).2.1, jL (wN D w f k q).2.2, jL D, jL w, jL (wR D w f k).1, jL (wR D w f k).2.1, jL (wR D w f k).2.2, jL D, jL w) := by
  obtain ⟨hF, k1, k2, k3, k4, k5, k6⟩ := h
  have h1 : f_X0_goToReduced n (jL f.1) (jL f.2.1) (jL f.2.2) (jL D) (jL w) = some (nI k, jL (wR D w f k).1, jL (wR D w f k).2.1, jL (wR D w f k).2.2) := by
    unfold f_X0_goToReduced
    have := p_toRed0 (n := n) k f n 0 hF k2 k3 (by omega) (by omega)
    rw [Nat.zero_add] at this
    exact this
  have hr := fF_itn k f hF
  have h2 : f_X2_findName n (nI k) (jL D) (jL (wR D w f k).1) (jL (wR D w f k).2.1) (jL (wR D w f k).2.2) (jL D) (jL w) (jL (wR D w f k).1) (jL (wR D w f k).2.1) (jL (wR D w f k).2.2) (jL D) (jL w) = some (nI (k + wB D w f k q), nI (q + 1), jL (wN D w f k q).1, jL (wN D w f k q).2.1, jL (wN D w f k q).2.2, jL D, jL w, jL (wR D w f k).1, jL (wR D w f k).2.1, jL (wR D w f k).2.2) := by
    unfold f_X2_findName f_X0_copy
    rw [Option.bind_some]
    have rD : jR D := by
      have a1 := hF.2.2.2.2.1
      have a2 := hF.2.2.2.2.2.1
      exact ⟨by omega, by omega⟩
    rcases mF_D hF with hD | hD
    · rw [jL_0, if_pos ((jL_lt rD jR_0).mpr hD)]
      have := k5 hD
      subst this
      rfl
    · rw [jL_0, if_neg (fun z => by have := (jL_lt rD jR_0).mp z; omega), fF_goOn hr, Option.bind_some]
      obtain ⟨q1, q2⟩ := k6 hD
      exact p_find hr q1 q2 (by omega) k q 0 n (by omega) (by omega)
  unfold f_X2_settle f_X0_copy
  simp only [Option.bind_some, h1, h2]
/-- THE REFERENCE comes to the reduced form, then to the name -/
theorem p_toRed {n : Nat} (hn : 600000 ≤ n) {D w : Int} {f : Fm} {k q : Nat} (h : wy D w f k q) (t : Int64) : ∃ t', f_X3_toReduced n (jL f.1) (jL f.2.1) (jL f.2.2) t (jL D) (jL w) = some (jL (wR D w f k).1, jL (wR D w f k).2.1, jL (wR D w f k).2.2, t') := by
  obtain ⟨hF, k1, k2, k3, -⟩ := h
  unfold f_X3_toReduced
  exact p_toRed3 k f n t hF k2 k3 (by omega)
theorem p_toName {n : Nat} (hn : 600000 ≤ n) {D w : Int} {f : Fm} {k q : Nat} (h : wy D w f k q) (t : Int64) : ∃ t', f_X3_toName n (jL (wR D w f k).1) (jL (wR D w f k).2.1) (jL (wR D w f k).2.2) t (jL D) (jL w) = some (jL (wN D w f k q).1, jL (wN D w f k q).2.1, jL (wN D w f k q).2.2, t') := by
  obtain ⟨hF, k1, k2, k3, k4, k5, k6⟩ := h
  have hr := fF_itn k f hF
  have rD : jR D := by
    have a1 := hF.2.2.2.2.1
    have a2 := hF.2.2.2.2.2.1
    exact ⟨by omega, by omega⟩
  unfold f_X3_toName
  rcases mF_D hF with hD | hD
  · have := k5 hD
    subst this
    refine ⟨t, ?_⟩
    rw [jL_0, if_pos ((jL_lt rD jR_0).mpr hD)]
    rfl
  · obtain ⟨q1, q2⟩ := k6 hD
    obtain ⟨t', ht⟩ := p_name3 (n := n) hr q1 q2 q 0 n (jL (mT D w (itn D w k f).2.1 (itn D w k f).2.2)) (by omega) (by omega)
    refine ⟨t', ?_⟩
    rw [jL_0, if_neg (fun z => by have := (jL_lt rD jR_0).mp z; omega), fF_step hr, Option.bind_some]
    exact ht
/-- a form that can be taken is a form -/
theorem mTk_F {a b c : Int} (h : mTk a b c) : ∃ w, fF (b * b - 4 * a * c) w (a, b, c) ∧ (b * b - 4 * a * c < 0 → w = -1) ∧ (0 ≤ b * b - 4 * a * c → mRt w (b * b - 4 * a * c)) := by
  obtain ⟨h1, h2, h3, h4, h5, h6, h7⟩ := h
  have b1 : mB a := ⟨by have := h1.1; omega, by have := h1.2; omega⟩
  have b2 : mB b := ⟨by have := h2.1; omega, by have := h2.2; omega⟩
  have b3 : mB c := ⟨by have := h3.1; omega, by have := h3.2; omega⟩
  rcases (show b * b - 4 * a * c < 0 ∨ 0 ≤ b * b - 4 * a * c by omega) with hD | hD
  · refine ⟨-1, ⟨rfl, b1, b2, b3, h4, h5, Or.inl ⟨hD, rfl, h6 hD, ?_⟩⟩, fun _ => rfl, fun q => by omega⟩
    have ha := h6 hD
    show 0 < c
    rcases (show 0 < c ∨ c ≤ 0 by omega) with z | z
    · exact z
    · have k0 := im_sq0 b
      have : a * c ≤ 0 := Int.mul_nonpos_of_nonneg_of_nonpos (by omega) z
      have e : 4 * a * c = 4 * (a * c) := by grind
      omega
  · obtain ⟨r, hr⟩ := mRt_ex _ hD
    have hne := h7 hD r hr
    refine ⟨r, ⟨rfl, b1, b2, b3, h4, h5, Or.inr ⟨?_, hr, hne⟩⟩, fun q => by omega, fun _ => hr⟩
    rcases (show b * b - 4 * a * c = 0 ∨ 0 < b * b - 4 * a * c by omega) with z | z
    · have h0 : mRt 0 (b * b - 4 * a * c) := by rw [z]; unfold mRt; omega
      have := h7 hD 0 h0
      omega
    · exact z
