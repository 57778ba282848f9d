theorem mF_a {D w a b c : Int} (h : mF D w a b c) : a ≠ 0 := by
  obtain ⟨h1, h2, h3, h4, h5, h6, h7⟩ := h
  have e : b * b - 4 * c * a = D := by grind
  refine mF_c (D := D) (w := w) (a := c) (b := b) (c := a) ⟨e, h4, h3, h2, h5, h6, ?_⟩
  rcases h7 with ⟨q1, q2, q3, q4⟩ | q
  · exact Or.inl ⟨q1, q2, q4, q3⟩
  · exact Or.inr q
theorem fF_ab {D w : Int} {f g : Fm} (hf : fF D w f) (hg : fF D w g) (h1 : f.1 = g.1) (h2 : f.2.1 = g.2.1) : f = g := by
  obtain ⟨a, b, c⟩ := f
  obtain ⟨a', b', c'⟩ := g
  dsimp only at h1 h2
  subst h1 h2
  have h0 := mF_a hf
  have d1 := hf.1
  have d2 := hg.1
  dsimp only at h0 d1 d2
  have : a * c = a * c' := by grind
  rw [Int.eq_of_mul_eq_mul_left h0 this]
theorem p_isName {n : Nat} {D w : Int} {f g : Fm} (hf : fF D w f) (hg : fF D w g) : (f = g → f_X3_isName n (jL f.1) (jL f.2.1) (jL g.1) (jL g.2.1) = some 1) ∧ (f ≠ g → f_X3_isName n (jL f.1) (jL f.2.1) (jL g.1) (jL g.2.1) = some 0) := by
  obtain ⟨r1, r2, r3⟩ := fF_R hf
  obtain ⟨s1, s2, s3⟩ := fF_R hg
  unfold f_X3_isName
  simp only [jL_eq r1 s1, jL_eq r2 s2]
  constructor
  · intro e
    rw [if_pos (by rw [e]), if_pos (by rw [e])]
  · intro e
    by_cases z : f.1 = g.1
    · rw [if_pos z]
      by_cases y : f.2.1 = g.2.1
      · exact absurd (fF_ab hf hg z y) e
      · rw [if_neg y]
    · rw [if_neg z]
theorem p_steps3 {n : Nat} {D w : Int} : ∀ (k : Nat) (f : Fm) (K i : Nat) (t : Int64), fF D w f → fR D w (itn D w k f) → (∀ i, i < k → ¬ fR D w (itn D w i f)) → k < K → ∃ t', f_X3_stepsToReduced_18 n K (jL D) (jL w) (nI i) (jL f.1) (jL f.2.1) (jL f.2.2) t = some (nI (i + k), jL (itn D w k f).1, jL (itn D w k f).2.1, jL (itn D w k f).2.2, t') := by
  intro k
  induction k with
  | zero =>
    intro f K i t h hr _ hK
    obtain ⟨K, rfl⟩ : ∃ K', K = K' + 1 := ⟨K - 1, by omega⟩
    refine ⟨t, ?_⟩
    rw [f_X3_stepsToReduced_18, (fF_red3 h).1 hr, Option.bind_some, if_neg o10]
    rfl
  | succ k ih =>
    intro f K i t h hr hm hK
    obtain ⟨K, rfl⟩ : ∃ K', K = K' + 1 := ⟨K - 1, by omega⟩
    obtain ⟨t', ht⟩ := ih (nx D w f) K (i + 1) (jL (mT D w f.2.1 f.2.2)) (mF_next h) hr (fun i hi => hm (i + 1) (by omega)) (by omega)
    refine ⟨t', ?_⟩
    rw [f_X3_stepsToReduced_18, (fF_red3 h).2 (hm 0 (by omega)), Option.bind_some, if_pos rfl, fF_step h, Option.bind_some, nI_1, show i + (k + 1) = i + 1 + k by omega]
    exact ht
/-- until a form g comes for the first time: two loops of the reference -/
theorem p_until5 {n : Nat} {D w : Int} {g : Fm} (hg : fF D w g) : ∀ (k : Nat) (f : Fm) (K i : Nat) (t : Int64), fF D w f → itn D w k f = g → (∀ i, i < k → itn D w i f ≠ g) → k < K → ∃ t', f_X3_stepsToName_5 n K (jL D) (jL w) (jL g.1) (jL g.2.1) (nI i) (jL f.1) (jL f.2.1) (jL f.2.2) t = some (nI (i + k), jL g.1, jL g.2.1, jL g.2.2, t') := by
  intro k
  induction k with
  | zero =>
    intro f K i t h hr _ hK
    obtain ⟨K, rfl⟩ : ∃ K', K = K' + 1 := ⟨K - 1, by omega⟩
    have e : f = g := hr
    subst e
    refine ⟨t, ?_⟩
    rw [f_X3_stepsToName_5, (p_isName h h).1 rfl, Option.bind_some, if_neg o10]
    rfl
  | succ k ih =>
    intro f K i t h hr hm hK
    obtain ⟨K, rfl⟩ : ∃ K', K = K' + 1 := ⟨K - 1, by omega⟩
    obtain ⟨t', ht⟩ := ih (nx D w f) K (i + 1) (jL (mT D w f.2.1 f.2.2)) (mF_next h) hr (fun i hi => hm (i + 1) (by omega)) (by omega)
    refine ⟨t', ?_⟩
    rw [f_X3_stepsToName_5, (p_isName h hg).2 (hm 0 (by omega)), Option.bind_some, if_pos rfl, fF_step h, Option.bind_some, nI_1, show i + (k + 1) = i + 1 + k by omega]
    exact ht
theorem p_until41 {n : Nat} {D w : Int} {g : Fm} (hg : fF D w g) : ∀ (k : Nat) (f : Fm) (K i : Nat) (t : Int64), fF D w f → itn D w k f = g → (∀ i, i < k → itn D w i f ≠ g) → k < K → ∃ t', f_X3_ringSize_41 n K (jL D) (jL w) (jL g.1) (jL g.2.1) (nI i) (jL f.1) (jL f.2.1) (jL f.2.2) t = some (nI (i + k), jL g.1, jL g.2.1, jL g.2.2, t') := by
  intro k
  induction k with
  | zero =>
    intro f K i t h hr _ hK
    obtain ⟨K, rfl⟩ : ∃ K', K = K' + 1 := ⟨K - 1, by omega⟩
    have e : f = g := hr
    subst e
    refine ⟨t, ?_⟩
    rw [f_X3_ringSize_41, (p_isName h h).1 rfl, Option.bind_some, if_neg o10]
    rfl
  | succ k ih =>
    intro f K i t h hr hm hK
    obtain ⟨K, rfl⟩ : ∃ K', K = K' + 1 := ⟨K - 1, by omega⟩
    obtain ⟨t', ht⟩ := ih (nx D w f) K (i + 1) (jL (mT D w f.2.1 f.2.2)) (mF_next h) hr (fun i hi => hm (i + 1) (by omega)) (by omega)
    refine ⟨t', ?_⟩
    rw [f_X3_ringSize_41, (p_isName h hg).2 (hm 0 (by omega)), Option.bind_some, if_pos rfl, fF_step h, Option.bind_some, nI_1, show i + (k + 1) = i + 1 + k by omega]
    exact ht
/-- the ring as seen from its name -/
theorem wy_ring {D w : Int} {f : Fm} {k q : Nat} (h : wy D w f k q) (hD : 0 < D) : itn D w (q + 1) (wN D w f k q) = wN D w f k q ∧ ∀ i, 1 ≤ i → i < q + 1 → itn D w i (wN D w f k q) ≠ wN D w f k q := by
  obtain ⟨hF, k1, k2, k3, k4, k5, k6⟩ := h
  obtain ⟨q1, q2⟩ := k6 hD
  have hr := fF_itn k f hF
  constructor
  · show itn D w (q + 1) (itn D w (wB D w f k q) (itn D w k f)) = _
    rw [← itn_add, Nat.add_comm, itn_add, q1]
  · intro i i1 i2 e
    have e2 : itn D w (wB D w f k q) (itn D w k f) = itn D w (wB D w f k q + i) (itn D w k f) := by
      rw [itn_add]
      exact e.symm
    exact q2 i i1 i2 (itn_back hD i (wB D w f k q) _ hr k2 e2).symm
/-- the name comes for the first time at its place -/
theorem wy_first {D w : Int} {f : Fm} {k q : Nat} : ∀ i, i < wB D w f k q → itn D w i (itn D w k f) ≠ wN D w f k q := by
  intro i hi e
  have := fBest_first D w (itn D w k f) q i hi
  have e2 : itn D w i (itn D w k f) = itn D w (fBest D w (itn D w k f) q) (itn D w k f) := e
  rw [e2] at this
  unfold fB at this
  omega
/-- THE REFERENCE's counts -/
theorem p_count3 {n : Nat} (hn : 600000 ≤ n) {D w : Int} {f : Fm} {k q : Nat} (h : wy D w f k q) (t : Int64) : ∃ t', f_X3_stepsToReduced n (jL f.1) (jL f.2.1) (jL f.2.2) (jL D) (jL w) t = some (nI k, jL (wR D w f k).1, jL (wR D w f k).2.1, jL (wR D w f k).2.2, t') := by
  obtain ⟨hF, k1, k2, k3, -⟩ := h
  unfold f_X3_stepsToReduced f_X3_begin
  obtain ⟨t', ht⟩ := p_steps3 (n := n) k f n 0 t hF k2 k3 (by omega)
  rw [Nat.zero_add] at ht
  exact ⟨t', ht⟩
theorem p_count4 {n : Nat} (hn : 600000 ≤ n) {D w : Int} {f : Fm} {k q : Nat} (h : wy D w f k q) (t : Int64) : ∃ t', f_X3_stepsToName n (jL f.1) (jL f.2.1) (jL f.2.2) (jL D) (jL w) t (jL (wN D w f k q).1) (jL (wN D w f k q).2.1) = some (nI (k + wB D w f k q), jL (wN D w f k q).1, jL (wN D w f k q).2.1, jL (wN D w f k q).2.2, t') := by
  obtain ⟨t1, h1⟩ := p_count3 (n := n) hn h t
  have hr := fF_itn k f h.1
  have hB : wB D w f k q ≤ q := fBest_le D w (itn D w k f) q
  have hq := h.2.2.2.2.1
  obtain ⟨t2, h2⟩ := p_until5 (n := n) (fF_itn (wB D w f k q) _ hr) (wB D w f k q) (itn D w k f) n k t1 hr rfl wy_first (by omega)
  refine ⟨t2, ?_⟩
  unfold f_X3_stepsToName
  rw [h1, Option.bind_some]
  exact h2
theorem p_count5 {n : Nat} (hn : 600000 ≤ n) {D w : Int} {f : Fm} {k q : Nat} (h : wy D w f k q) (x y z t : Int64) : ∃ x' y' z' t', f_X3_ringSize n (jL D) (jL w) x y z t (jL (wN D w f k q).1) (jL (wN D w f k q).2.1) (jL (wN D w f k q).2.2) = some (nI (q + 1), x', y', z', t') := by
  have hF := h.1
  have hr := fF_itn (wB D w f k q) _ (fF_itn k f hF)
  have rD : jR D := by
    have a1 := hF.2.2.2.2.1
    have a2 := hF.2.2.2.2.2.1
    exact ⟨by omega, by omega⟩
  unfold f_X3_ringSize f_X3_begin
  rcases mF_D hF with hD | hD
  · have := h.2.2.2.2.2.1 hD
    subst this
    refine ⟨x, y, z, t, ?_⟩
    rw [jL_0, if_pos ((jL_lt rD jR_0).mpr hD)]
    rfl
  · obtain ⟨q1, q2⟩ := wy_ring h hD
    have hq := h.2.2.2.2.1
    obtain ⟨t', ht⟩ := p_until41 (n := n) hr q (nx D w (wN D w f k q)) n 1 (jL (mT D w (wN D w f k q).2.1 (wN D w f k q).2.2)) (mF_next hr) q1 (fun i hi => q2 (i + 1) (by omega) (by omega)) (by omega)
    refine ⟨jL (wN D w f k q).1, jL (wN D w f k q).2.1, jL (wN D w f k q).2.2, t', ?_⟩
    rw [jL_0, if_neg (fun z => by have := (jL_lt rD jR_0).mp z; omega), Option.bind_some, fF_step hr, Option.bind_some]
    rw [Nat.add_comm 1 q] at ht
    exact ht
