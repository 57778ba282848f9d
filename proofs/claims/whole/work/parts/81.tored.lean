theorem fF_red3 {n : Nat} {D w : Int} {f : Fm} (h : fF D w f) : (fR D w f → f_X3_isReduced n (jL f.1) (jL f.2.1) (jL f.2.2) (jL D) (jL w) = some 1) ∧ (¬ fR D w f → f_X3_isReduced n (jL f.1) (jL f.2.1) (jL f.2.2) (jL D) (jL w) = some 0) := by
  have hw := mF_w h
  exact p_red3 h.2.1 h.2.2.1 h.2.2.2.1 hw.1 hw.2 h.2.2.2.2.1 h.2.2.2.2.2.1
theorem fF_red0 {n : Nat} {D w : Int} {f : Fm} (h : fF D w f) : (fR D w f → f_X0_isReduced n (jL f.1) (jL f.2.1) (jL f.2.2) (jL D) (jL w) = some 1) ∧ (¬ fR D w f → f_X0_isReduced n (jL f.1) (jL f.2.1) (jL f.2.2) (jL D) (jL w) = some 0) := by
  have hw := mF_w h
  exact p_red0 h.2.1 h.2.2.1 h.2.2.2.1 hw.1 hw.2 h.2.2.2.2.1 h.2.2.2.2.2.1
theorem fF_step {n : Nat} {D w : Int} {f : Fm} (h : fF D w f) : f_X3_step n (jL f.2.1) (jL f.2.2) (jL D) (jL w) = some (jL (nx D w f).1, jL (nx D w f).2.1, jL (nx D w f).2.2, jL (mT D w f.2.1 f.2.2)) := p_step (mF_G h)
theorem fF_goOn {n : Nat} {D w : Int} {f : Fm} (h : fF D w f) : f_X0_goOn n (jL f.1) (jL f.2.1) (jL f.2.2) (jL D) (jL w) = some (jL (mT D w f.2.1 f.2.2), jL (nx D w f).1, jL (nx D w f).2.1, jL (nx D w f).2.2) := p_goOn (mF_G h)
theorem o10 : ¬ (1 : Int32) = 0 := by decide
/-- THE REFERENCE on its way to the reduced form -/
theorem p_toRed3 {n : Nat} {D w : Int} : ∀ (k : Nat) (f : Fm) (K : Nat) (t : Int64), fF D w f → fR D w (itn D w k f) → (∀ i, i < k → ¬ fR D w (itn D w i f)) → k < K → ∃ t', f_X3_toReduced_0 n K (jL D) (jL w) (jL f.1) (jL f.2.1) (jL f.2.2) t = some (jL (itn D w k f).1, jL (itn D w k f).2.1, jL (itn D w k f).2.2, t') := by
  intro k
  induction k with
  | zero =>
    intro f K t h hr _ hK
    obtain ⟨K, rfl⟩ : ∃ K', K = K' + 1 := ⟨K - 1, by omega⟩
    refine ⟨t, ?_⟩
    rw [f_X3_toReduced_0, (fF_red3 h).1 hr, Option.bind_some, if_neg o10]
    rfl
  | succ k ih =>
    intro f K t h hr hm hK
    obtain ⟨K, rfl⟩ : ∃ K', K = K' + 1 := ⟨K - 1, by omega⟩
    obtain ⟨t', ht⟩ := ih (nx D w f) K (jL (mT D w f.2.1 f.2.2)) (mF_next h) hr (fun i hi => hm (i + 1) (by omega)) (by omega)
    refine ⟨t', ?_⟩
    rw [f_X3_toReduced_0, (fF_red3 h).2 (hm 0 (by omega)), Option.bind_some, if_pos rfl, fF_step h, Option.bind_some]
    exact ht
/-- THE CLASS on its way to the reduced form, counting -/
theorem p_toRed0 {n : Nat} {D w : Int} : ∀ (k : Nat) (f : Fm) (K i : Nat), fF D w f → fR D w (itn D w k f) → (∀ i, i < k → ¬ fR D w (itn D w i f)) → k < K → i + k < 1000000 → f_X0_goToReduced_2 n K (jL D) (jL w) (nI i) (jL f.1) (jL f.2.1) (jL f.2.2) = some (nI (i + k), jL (itn D w k f).1, jL (itn D w k f).2.1, jL (itn D w k f).2.2) := by
  intro k
  induction k with
  | zero =>
    intro f K i h hr _ hK hi
    obtain ⟨K, rfl⟩ : ∃ K', K = K' + 1 := ⟨K - 1, by omega⟩
    rw [f_X0_goToReduced_2, if_pos (show nI i < 1000000 from nI_lt (b := 1000000) (by omega) (by omega)), (fF_red0 h).1 hr, Option.bind_some, if_neg o10]
    rfl
  | succ k ih =>
    intro f K i h hr hm hK hi
    obtain ⟨K, rfl⟩ : ∃ K', K = K' + 1 := ⟨K - 1, by omega⟩
    have := ih (nx D w f) K (i + 1) (mF_next h) hr (fun i hi => hm (i + 1) (by omega)) (by omega) (by omega)
    rw [f_X0_goToReduced_2, if_pos (show nI i < 1000000 from nI_lt (b := 1000000) (by omega) (by omega)), (fF_red0 h).2 (hm 0 (by omega)), Option.bind_some, if_pos rfl, fF_goOn h, Option.bind_some, nI_1, show i + (k + 1) = i + 1 + k by omega]
    exact this
/-! the name: the least of the ring, as both sides find it: go round, keep the first that is before all met -/
/-- before: a smaller a, or the same a and a smaller b -/
def fB (f g : Fm) : Prop := f.1 < g.1 ∨ (f.1 = g.1 ∧ f.2.1 < g.2.1)
/-- the best of f itself and its next k forms, and its place -/
def fBest (D w : Int) (f : Fm) : Nat → Nat
  | 0 => 0
  | k + 1 => if (itn D w (k + 1) f).1 < (itn D w (fBest D w f k) f).1 ∨ ((itn D w (k + 1) f).1 = (itn D w (fBest D w f k) f).1 ∧ (itn D w (k + 1) f).2.1 < (itn D w (fBest D w f k) f).2.1) then k + 1 else fBest D w f k
theorem fBest_le (D w : Int) (f : Fm) : ∀ k, fBest D w f k ≤ k
  | 0 => Nat.le_refl 0
  | k + 1 => by
    have := fBest_le D w f k
    unfold fBest
    split <;> omega
/-- nothing up to k is before the best -/
theorem fBest_min (D w : Int) (f : Fm) : ∀ k i, i ≤ k → ¬ fB (itn D w i f) (itn D w (fBest D w f k) f) := by
  intro k
  induction k with
  | zero =>
    intro i hi
    have : i = 0 := by omega
    subst this
    unfold fB fBest
    omega
  | succ k ih =>
    intro i hi
    rw [fBest]
    by_cases q : (itn D w (k + 1) f).1 < (itn D w (fBest D w f k) f).1 ∨ ((itn D w (k + 1) f).1 = (itn D w (fBest D w f k) f).1 ∧ (itn D w (k + 1) f).2.1 < (itn D w (fBest D w f k) f).2.1)
    · rw [if_pos q]
      rcases (show i ≤ k ∨ i = k + 1 by omega) with z | z
      · have := ih i z
        unfold fB at this ⊢
        omega
      · subst z
        unfold fB
        omega
    · rw [if_neg q]
      rcases (show i ≤ k ∨ i = k + 1 by omega) with z | z
      · exact ih i z
      · subst z
        exact q
/-- .. and all ahead of it are behind it -/
theorem fBest_first (D w : Int) (f : Fm) : ∀ k i, i < fBest D w f k → fB (itn D w (fBest D w f k) f) (itn D w i f) := by
  intro k
  induction k with
  | zero => intro i hi; unfold fBest at hi; omega
  | succ k ih =>
    intro i hi
    rw [fBest] at hi ⊢
    by_cases q : (itn D w (k + 1) f).1 < (itn D w (fBest D w f k) f).1 ∨ ((itn D w (k + 1) f).1 = (itn D w (fBest D w f k) f).1 ∧ (itn D w (k + 1) f).2.1 < (itn D w (fBest D w f k) f).2.1)
    · rw [if_pos q] at hi ⊢
      have h1 := fBest_min D w f k i (by omega)
      unfold fB at h1 ⊢
      omega
    · rw [if_neg q] at hi ⊢
      exact ih i hi
