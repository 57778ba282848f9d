theorem itn_mul {D w : Int} {p : Nat} {x : Fm} (h : itn D w p x = x) : ∀ m, itn D w (m * p) x = x
  | 0 => by rw [Nat.zero_mul]; rfl
  | m + 1 => by rw [Nat.succ_mul, Nat.add_comm, itn_add, h]; exact itn_mul h m
theorem itn_mod {D w : Int} {p : Nat} {x : Fm} (h : itn D w p x = x) (i : Nat) : itn D w (i % p) x = itn D w i x := by
  conv => rhs; rw [← Nat.div_add_mod i p]
  rw [Nat.mul_comm, itn_add, itn_mul h]
theorem fB_eq {D w : Int} {f g : Fm} (hf : fF D w f) (hg : fF D w g) (h1 : ¬ fB f g) (h2 : ¬ fB g f) : f = g := by
  unfold fB at h1 h2
  exact fF_ab hf hg (by omega) (by omega)
/-- a name stands among the forms of a ring just where it is the ring's own name -/
theorem wy_tog {D w : Int} {f g : Fm} {k q k' q' : Nat} (hf : wy D w f k q) (hg : wy D w g k' q') : (wN D w g k' q' = wN D w f k q → q' = q ∧ ∃ i, i ≤ q ∧ itn D w i (wR D w g k') = wN D w f k q) ∧ (∀ i, i ≤ q → itn D w i (wR D w g k') = wN D w f k q → wN D w g k' q' = wN D w f k q) := by
  have hF := hf.1
  have hr := fF_itn k f hF
  have hr' := fF_itn k' g hg.1
  have hN := fF_itn (wB D w f k q) _ hr
  have hN' := fF_itn (wB D w g k' q') _ hr'
  have hB : wB D w f k q ≤ q := fBest_le D w (itn D w k f) q
  have hB' : wB D w g k' q' ≤ q' := fBest_le D w (itn D w k' g) q'
  rcases mF_D hF with hD | hD
  · have e1 := hf.2.2.2.2.2.1 hD
    have e2 := hg.2.2.2.2.2.1 hD
    subst e1 e2
    constructor
    · intro h
      exact ⟨rfl, 0, by omega, h⟩
    · intro i hi h
      have : i = 0 := by omega
      subst this
      exact h
  · obtain ⟨p1, p2⟩ := wy_ring hf hD
    obtain ⟨p1', p2'⟩ := wy_ring hg hD
    obtain ⟨s1, s2⟩ := hf.2.2.2.2.2.2 hD
    obtain ⟨s1', s2'⟩ := hg.2.2.2.2.2.2 hD
    constructor
    · intro h
      have eq : q' = q := by
        rw [h] at p1' p2'
        rcases Nat.lt_trichotomy q' q with z | z | z
        · exact absurd p1' (p2 (q' + 1) (by omega) (by omega))
        · exact z
        · exact absurd p1 (p2' (q + 1) (by omega) (by omega))
      exact ⟨eq, wB D w g k' q', by omega, h⟩
    · intro i hi h
      -- nu' lies in f's ring
      have m1 : ¬ fB (wN D w f k q) (wN D w g k' q') := by
        have := fBest_min D w (itn D w k' g) q' (i % (q' + 1)) (by have := Nat.mod_lt i (show 0 < q' + 1 by omega); omega)
        rw [itn_mod s1'] at this
        rw [h] at this
        exact this
      have m2 : ¬ fB (wN D w g k' q') (wN D w f k q) := by
        have e1 : wN D w g k' q' = itn D w (wB D w g k' q' + i * (q' + 1) - i) (wN D w f k q) := by
          have hle : i ≤ i * (q' + 1) := Nat.le_mul_of_pos_right i (by omega)
          rw [← h, ← itn_add, show i + (wB D w g k' q' + i * (q' + 1) - i) = i * (q' + 1) + wB D w g k' q' by omega, itn_add, itn_mul s1']
        have e2 : wN D w g k' q' = itn D w ((wB D w f k q + (wB D w g k' q' + i * (q' + 1) - i)) % (q + 1)) (itn D w k f) := by
          rw [itn_mod s1, itn_add]
          exact e1
        have := fBest_min D w (itn D w k f) q ((wB D w f k q + (wB D w g k' q' + i * (q' + 1) - i)) % (q + 1)) (by have := Nat.mod_lt (wB D w f k q + (wB D w g k' q' + i * (q' + 1) - i)) (show 0 < q + 1 by omega); omega)
        rw [← e2] at this
        exact this
      exact fB_eq hN' hN m2 m1
