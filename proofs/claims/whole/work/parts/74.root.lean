/-- r is the whole part of v's root -/
def mRt (r v : Int) : Prop := 0 ≤ r ∧ r * r ≤ v ∧ v < (r + 1) * (r + 1)
theorem im_mono {a b : Int} (h0 : 0 ≤ a) (h : a ≤ b) : a * a ≤ b * b := Int.mul_le_mul h h h0 (by omega)
theorem mRt_ex (v : Int) (h : 0 ≤ v) : ∃ r, mRt r v := by
  have key : ∀ n : Nat, ∃ r : Int, mRt r (n : Int) := by
    intro n
    induction n with
    | zero => exact ⟨0, by unfold mRt; omega⟩
    | succ n ih =>
      obtain ⟨r, h1, h2, h3⟩ := ih
      by_cases h4 : ((n : Int) + 1) < (r + 1) * (r + 1)
      · exact ⟨r, h1, by omega, by omega⟩
      · refine ⟨r + 1, by omega, by omega, ?_⟩
        have : (r + 1 + 1) * (r + 1 + 1) = (r + 1) * (r + 1) + 2 * r + 3 := by grind
        omega
  obtain ⟨r, hr⟩ := key v.toNat
  rw [Int.toNat_of_nonneg h] at hr
  exact ⟨r, hr⟩
theorem mRt_un {r s v : Int} (h1 : mRt r v) (h2 : mRt s v) : r = s := by
  obtain ⟨a1, a2, a3⟩ := h1
  obtain ⟨b1, b2, b3⟩ := h2
  rcases Int.lt_trichotomy r s with h | h | h
  · have := im_mono (show 0 ≤ r + 1 by omega) (show r + 1 ≤ s by omega)
    omega
  · exact h
  · have := im_mono (show 0 ≤ s + 1 by omega) (show s + 1 ≤ r by omega)
    omega
theorem mRt_le {r v : Int} (h : mRt r v) (hv : v ≤ 1048576) : r ≤ 1024 := by
  obtain ⟨a1, a2, -⟩ := h
  rcases (show 1024 < r ∨ r ≤ 1024 by omega) with q | q
  · have := im_mono (show (0 : Int) ≤ 1025 by omega) (show 1025 ≤ r by omega)
    omega
  · exact q
theorem im_le1024 {u v : Int} (h : u * u ≤ v) (hv : v ≤ 1048576) : u ≤ 1024 := by
  rcases (show 1024 < u ∨ u ≤ 1024 by omega) with q | q
  · have := im_mono (show (0 : Int) ≤ 1025 by omega) (show 1025 ≤ u by omega)
    omega
  · exact q
theorem p_root3_2 {n : Nat} {v r : Int} (h : mRt r v) (hv : v ≤ 1048576) : ∀ (k : Nat) (u : Int), 0 ≤ u → u ≤ r → r < u + k → f_X3_wholeRoot_2 n k (jL v) (jL u) = some (jL r) := by
  have hr := mRt_le h hv
  obtain ⟨h0, h1, h2⟩ := h
  have hv0 : 0 ≤ v := Int.le_trans (im_sq0 r) h1
  intro k
  induction k with
  | zero => intro u a b c; omega
  | succ k ih =>
    intro u a b c
    rw [f_X3_wholeRoot_2]
    have hm := im_mono (show 0 ≤ u + 1 by omega) (show u + 1 ≤ 1025 by omega)
    have hs := im_sq0 (u + 1)
    simp only [jL_1, jL_add, jL_mul]
    by_cases q : v < (u + 1) * (u + 1)
    · rw [if_pos ((jL_lt ⟨by omega, by omega⟩ ⟨by omega, by omega⟩).mpr q)]
      have e : u = r := by
        rcases (show u < r ∨ r ≤ u by omega) with w | w
        · have := im_mono (show 0 ≤ u + 1 by omega) (show u + 1 ≤ r by omega)
          omega
        · omega
      rw [e]
    · rw [if_neg (fun z => q ((jL_lt ⟨by omega, by omega⟩ ⟨by omega, by omega⟩).mp z))]
      have e : u < r := by
        rcases (show u < r ∨ r ≤ u by omega) with w | w
        · exact w
        · have : u = r := by omega
          rw [this] at q
          omega
      exact ih (u + 1) (by omega) (by omega) (by omega)
theorem p_root3 {n : Nat} (hn : 1025 ≤ n) {v r : Int} (h : mRt r v) (hv : v ≤ 1048576) : f_X3_wholeRoot n (jL v) = some (jL r) := by
  have hr := mRt_le h hv
  have h0 := h.1
  unfold f_X3_wholeRoot
  rw [jL_0]
  exact p_root3_2 h hv n 0 (by omega) (by omega) (by omega)
theorem nI_jL {m : Nat} (h : m < 2 ^ 31) : (nI m).toInt64 = jL (m : Int) := by
  apply Int64.toInt_inj.mp
  rw [Int32.toInt_toInt64, nI_toInt h, jL_toInt ⟨by omega, by omega⟩]
theorem root_bit {n : Nat} {v r : Int} (hv0 : 0 ≤ v) (hv : v ≤ 1048576) (k B : Nat) (hB : 0 < B) (hB2 : B ≤ 1024)
    (ih : ∀ u : Int, 0 ≤ u → u * u ≤ v → v < (u + B) * (u + B) → f_X2_wholeRoot_17 n k (jL v) (jL u) (nI (B / 2)) = some (jL r)) :
    ∀ u : Int, 0 ≤ u → u * u ≤ v → v < (u + 2 * B) * (u + 2 * B) → f_X2_wholeRoot_17 n (k + 1) (jL v) (jL u) (nI B) = some (jL r) := by
  intro u h0 h1 h2
  have hu := im_le1024 h1 hv
  rw [f_X2_wholeRoot_17, if_pos (show (0 : Int32) < nI B from nI_lt (a := 0) hB (by omega)), nI_jL (by omega), jL_add, jL_mul, pk_shrN (by omega) _ 1 (by decide), show B / 2 ^ 1 = B / 2 from rfl]
  have hm := im_mono (show 0 ≤ u + (B : Int) by omega) (show u + (B : Int) ≤ 2048 by omega)
  have hs := im_sq0 (u + (B : Int))
  by_cases q : v < (u + B) * (u + B)
  · rw [if_pos ((jL_lt ⟨by omega, by omega⟩ ⟨by omega, by omega⟩).mpr q)]
    exact ih u h0 h1 q
  · rw [if_neg (fun z => q ((jL_lt ⟨by omega, by omega⟩ ⟨by omega, by omega⟩).mp z))]
    refine ih (u + B) (by omega) (by omega) ?_
    have : u + (B : Int) + B = u + 2 * B := by omega
    rw [this]
    exact h2
theorem p_root2 {n : Nat} (hn : 12 ≤ n) {v r : Int} (h : mRt r v) (hv : v ≤ 1048576) : f_X2_wholeRoot n (jL v) = some (jL r) := by
  have hv0 : 0 ≤ v := Int.le_trans (im_sq0 r) h.2.1
  unfold f_X2_wholeRoot
  rw [jL_0, if_neg (fun z => by have := (jL_lt ⟨by omega, by omega⟩ jR_0).mp z; omega)]
  obtain ⟨k, rfl⟩ : ∃ k, n = k + 12 := ⟨n - 12, by omega⟩
  have e0 : ∀ u : Int, 0 ≤ u → u * u ≤ v → v < (u + (1 : Nat)) * (u + (1 : Nat)) → f_X2_wholeRoot_17 (k + 12) (k + 1) (jL v) (jL u) (nI (1 / 2)) = some (jL r) := by
    intro u h0 h1 h2
    rw [f_X2_wholeRoot_17, if_neg (show ¬ (0 : Int32) < nI (1 / 2) from by decide)]
    rw [mRt_un (show mRt u v from ⟨h0, h1, h2⟩) h]
  have e1 := root_bit hv0 hv (k + 1) 1 (by omega) (by omega) e0
  have e2 := root_bit hv0 hv (k + 2) 2 (by omega) (by omega) e1
  have e3 := root_bit hv0 hv (k + 3) 4 (by omega) (by omega) e2
  have e4 := root_bit hv0 hv (k + 4) 8 (by omega) (by omega) e3
  have e5 := root_bit hv0 hv (k + 5) 16 (by omega) (by omega) e4
  have e6 := root_bit hv0 hv (k + 6) 32 (by omega) (by omega) e5
  have e7 := root_bit hv0 hv (k + 7) 64 (by omega) (by omega) e6
  have e8 := root_bit hv0 hv (k + 8) 128 (by omega) (by omega) e7
  have e9 := root_bit hv0 hv (k + 9) 256 (by omega) (by omega) e8
  have e10 := root_bit hv0 hv (k + 10) 512 (by omega) (by omega) e9
  have e11 := root_bit hv0 hv (k + 11) 1024 (by omega) (by omega) e10
  exact e11 0 (by omega) (by omega) (by omega)
