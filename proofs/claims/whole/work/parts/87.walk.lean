theorem p_coef {n : Nat} (x y z : Int64) (a : Int32) : f_X0_coefficient n x y z a = f_X3_part n a x y z := by
  unfold f_X0_coefficient f_X3_part
  rfl
theorem p_ring2 {n : Nat} {D w : Int} {g : Fm} (hg : fF D w g) {m : Nat} (hm : m < 2 ^ 31) (a2 : Int32) : ∀ (d i K : Nat), i + d = m → d < K → f_X2_ring_42 n K (nI m) a2 (nI i) (jL (itn D w i g).1) (jL (itn D w i g).2.1) (jL (itn D w i g).2.2) (jL D) (jL w) = (f_X3_part n a2 (jL (itn D w m g).1) (jL (itn D w m g).2.1) (jL (itn D w m g).2.2)).bind (fun r => some (.inl (r, jL (itn D w m g).1, jL (itn D w m g).2.1, jL (itn D w m g).2.2, jL D, jL w))) := by
  intro d
  induction d with
  | zero =>
    intro i K hi hK
    obtain ⟨K, rfl⟩ : ∃ K', K = K' + 1 := ⟨K - 1, by omega⟩
    have : i = m := by omega
    subst this
    rw [f_X2_ring_42, if_neg (nI_nlt (Nat.le_refl i) hm), p_coef]
  | succ d ih =>
    intro i K hi hK
    obtain ⟨K, rfl⟩ : ∃ K', K = K' + 1 := ⟨K - 1, by omega⟩
    have := ih (i + 1) K (by omega) (by omega)
    rw [f_X2_ring_42, if_pos (nI_lt (by omega) hm), fF_goOn (fF_itn i g hg), Option.bind_some, nI_1]
    rw [itn_s D w i g] at this
    exact this
theorem p_ring3 {n : Nat} {D w : Int} {g : Fm} (hg : fF D w g) {m : Nat} (hm : m < 2 ^ 31) (a2 c0 : Int32) : ∀ (d i K : Nat) (t : Int64), i + d = m → d < K → ∃ t', f_X3_ring_64 n K (jL D) (jL w) (nI m) a2 (nI i) c0 (jL (itn D w i g).1) (jL (itn D w i g).2.1) (jL (itn D w i g).2.2) t = (f_X3_part n a2 (jL (itn D w m g).1) (jL (itn D w m g).2.1) (jL (itn D w m g).2.2)).bind (fun r => some (r, c0, jL (itn D w m g).1, jL (itn D w m g).2.1, jL (itn D w m g).2.2, t')) := by
  intro d
  induction d with
  | zero =>
    intro i K t hi hK
    obtain ⟨K, rfl⟩ : ∃ K', K = K' + 1 := ⟨K - 1, by omega⟩
    have : i = m := by omega
    subst this
    refine ⟨t, ?_⟩
    rw [f_X3_ring_64, if_neg (nI_nlt (Nat.le_refl i) hm)]
  | succ d ih =>
    intro i K t hi hK
    obtain ⟨K, rfl⟩ : ∃ K', K = K' + 1 := ⟨K - 1, by omega⟩
    obtain ⟨t', ht⟩ := ih (i + 1) K (jL (mT D w (itn D w i g).2.1 (itn D w i g).2.2)) (by omega) (by omega)
    refine ⟨t', ?_⟩
    rw [f_X3_ring_64, if_pos (nI_lt (by omega) hm), fF_step (fF_itn i g hg), Option.bind_some, nI_1]
    rw [itn_s D w i g] at ht
    exact ht
/-- THE CLASS looks for the name among the q + 1 forms behind a reduced one -/
theorem p_tog2 {n : Nat} {D w : Int} {r g : Fm} (hr : fF D w r) (hg : fF D w g) {q : Nat} (hq : q < 900000) : ∀ (d i K : Nat), i + d = q + 1 → d < K → (∀ j, j < i → itn D w j r ≠ g) →
    ((∃ j, j ≤ q ∧ itn D w j r = g) → ∃ u, f_X2_together_66 n K (nI (q + 1)) (jL g.1) (jL g.2.1) (jL g.2.2) (nI i) (jL (itn D w i r).1) (jL (itn D w i r).2.1) (jL (itn D w i r).2.2) (jL D) (jL w) = some (.inl (1, u))) ∧
    ((∀ j, j ≤ q → itn D w j r ≠ g) → ∃ u, f_X2_together_66 n K (nI (q + 1)) (jL g.1) (jL g.2.1) (jL g.2.2) (nI i) (jL (itn D w i r).1) (jL (itn D w i r).2.1) (jL (itn D w i r).2.2) (jL D) (jL w) = some (.inl (0, u))) := by
  intro d
  induction d with
  | zero =>
    intro i K hi hK hne
    obtain ⟨K, rfl⟩ : ∃ K', K = K' + 1 := ⟨K - 1, by omega⟩
    have : i = q + 1 := by omega
    subst this
    constructor
    · rintro ⟨j, j1, j2⟩
      exact absurd j2 (hne j (by omega))
    · intro _
      rw [f_X2_together_66, if_neg (nI_nlt (Nat.le_refl _) (by omega))]
      exact ⟨_, rfl⟩
  | succ d ih =>
    intro i K hi hK hne
    obtain ⟨K, rfl⟩ : ∃ K', K = K' + 1 := ⟨K - 1, by omega⟩
    have hI := fF_itn i r hr
    rw [f_X2_together_66, if_pos (nI_lt (by omega) (by omega))]
    by_cases z : itn D w i r = g
    · rw [(p_isSame hI hg).1 z, Option.bind_some, if_neg o10]
      constructor
      · intro _
        exact ⟨_, rfl⟩
      · intro hn
        exact absurd z (hn i (by omega))
    · rw [(p_isSame hI hg).2 z, Option.bind_some, if_pos rfl, fF_goOn hI, Option.bind_some, nI_1]
      have := ih (i + 1) K (by omega) (by omega) (fun j hj => by
        rcases (show j < i ∨ j = i by omega) with y | y
        · exact hne j y
        · rw [y]; exact z)
      rw [itn_s D w i r] at this
      exact this
