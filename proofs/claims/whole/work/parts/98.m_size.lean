/-! the answers of the matrix: THE REFERENCE -/
theorem pl_add {B : Int} {r : Nat → Int} (m : Nat) : ∀ n, pl B r (m + n) = pl B r m + B ^ m * pl B (fun j => r (m + j)) n
  | 0 => by rw [pl, Int.mul_zero, Nat.add_zero]; omega
  | n + 1 => by
    rw [← Nat.add_assoc, pl, pl_add m n, pl, Int.pow_add]
    generalize B ^ m = P
    generalize B ^ n = P'
    grind
theorem pl_tail {B : Int} {r : Nat → Int} (s : Nat) : ∀ d, (∀ j, s ≤ j → j < s + d → r j = 0) → pl B r (s + d) = pl B r s
  | 0, _ => rfl
  | d + 1, h => by
    rw [← Nat.add_assoc, pl, pl_tail s d (fun j q1 q2 => h j q1 (by omega)), h (s + d) (by omega) (by omega)]
    omega
theorem pl_digit {B : Int} {r : Nat → Int} (hB : 1 < B) {n k : Nat} (h : ∀ j, j < n → 0 ≤ r j ∧ r j < B) (hk : k < n) : (pl B r n / B ^ k) % B = r k := by
  obtain ⟨q1, q2⟩ := pl_range (r := r) (show 1 ≤ B by omega) k (fun j hj => h j (by omega))
  have hr := h k hk
  have e : pl B r n = pl B r k + B ^ k * (r k + B * pl B (fun j => r (k + (j + 1))) (n - k - 1)) := by
    have e0 : n = k + (n - k - 1 + 1) := by omega
    have := pl_add (B := B) (r := r) k (n - k - 1 + 1)
    rw [← e0, pl_head] at this
    exact this
  have hP : 0 < B ^ k := by omega
  rw [e, Int.add_mul_ediv_left _ _ (by omega), Int.ediv_eq_zero_of_lt q1 q2, Int.zero_add, Int.add_mul_emod_self_left]
  exact Int.emod_eq_of_lt hr.1 hr.2
theorem g_sz50 {n : Nat} {g : Nat} {w : Nat → Int32} (hg : g ≤ 1100) : ∀ (u K : Nat), u ≤ g → u < K → ∃ s, f_X3_sized_50 n K (nI u) w = some (nI s, w) ∧ s ≤ u ∧ (∀ j, s ≤ j → j < u → w (1100 * 4 + j) = 0) ∧ (0 < s → w (1100 * 4 + (s - 1)) ≠ 0)
  | u, 0, hu, hK => by omega
  | 0, K + 1, hu, hK => ⟨0, by rw [f_X3_sized_50, if_neg (show ¬ (0 : Int32) < nI 0 by decide)], by omega, fun j _ q => by omega, fun q => by omega⟩
  | u + 1, K + 1, hu, hK => by
    have e1 : nI (u + 1) - 1 = nI u := by rw [show (1 : Int32) = nI 1 from rfl, nI_mi (by omega)]; rfl
    have e2 : nI (u + 1) + (-1) = nI u := by rw [← e1, Int32.sub_eq_add_neg]
    rw [f_X3_sized_50, if_pos (show (0 : Int32) < nI (u + 1) from nI_lt (a := 0) (by omega) (by omega)), e1, show (4 : Int32) = nI 4 from rfl, g_get (by decide) (by omega), Option.bind_some, e2]
    by_cases c : w (1100 * 4 + u) = 0
    · rw [if_pos c]
      obtain ⟨s, a1, a2, a3, a4⟩ := g_sz50 (n := n) (w := w) hg u K (by omega) (by omega)
      refine ⟨s, a1, by omega, fun j q1 q2 => ?_, a4⟩
      rcases (show j < u ∨ j = u by omega) with z | rfl
      · exact a3 j q1 z
      · exact c
    · rw [if_neg c]
      exact ⟨u + 1, rfl, by omega, fun j q1 q2 => by omega, fun _ => c⟩
theorem g_sz19 {n : Nat} {g i : Nat} (hg : g ≤ 1100) (hi : i < 4) : ∀ (d j K : Nat) (w : Nat → Int32), j + d = g → d < K →
    ∃ w', f_X3_sized_19 n K (nI g) (nI i) (nI j) w = f_X3_sized_50 n n (nI g) w' ∧ (∀ x, j ≤ x → x < g → w' (1100 * 4 + x) = w (1100 * i + x)) ∧ (∀ p, (p < 4400 + j ∨ 4400 + g ≤ p) → w' p = w p)
  | d, j, 0, w, hj, hK => by omega
  | 0, j, K + 1, w, hj, hK => by
    have : j = g := by omega
    subst this
    exact ⟨w, by rw [f_X3_sized_19, if_neg (fun q => by have := (nI_ltI (by omega) (by omega)).mp q; omega)], fun x q1 q2 => by omega, fun p _ => rfl⟩
  | d + 1, j, K + 1, w, hj, hK => by
    obtain ⟨w', i1, i2, i3⟩ := g_sz19 (n := n) hg hi d (j + 1) K (upd w (1100 * 4 + j) (w (1100 * i + j))) (by omega) (by omega)
    refine ⟨w', ?_, ?_, ?_⟩
    · rw [f_X3_sized_19, if_pos (nI_lt (by omega) (by omega)), g_get (by omega) (by omega), Option.bind_some, show (4 : Int32) = nI 4 from rfl, g_put (by decide) (by omega), Option.bind_some, ← nI_succ]
      exact i1
    · intro x q1 q2
      rcases (show x = j ∨ j + 1 ≤ x by omega) with rfl | z
      · rw [i3 _ (Or.inl (by omega)), upd_at]
      · rw [i2 x z q2, upd_ne _ _ (by omega)]
    · intro p hp
      rw [i3 p (by omega), upd_ne _ _ (by omega)]
theorem g_sized {n m : Nat} (hn : 1200 ≤ n) {v : Nat → Int32} {M : M4} (hm : m ≤ 514) (h : rows v (m + 3) M) {i : Nat} (hi : i < 4) :
    ∃ v' s, f_X3_sized n (nI (m + 3)) v (nI i) = some (nI s, v') ∧ rows v' (m + 3) M ∧ s ≤ m + 3 ∧ (∀ j, j < m + 3 → 0 ≤ dg v' 4 j ∧ dg v' 4 j < 65536) ∧ pl 65536 (dg v' 4) (m + 3) = mS (m4 M i) ∧ (∀ j, s ≤ j → j < m + 3 → dg v' 4 j = 0) ∧ (0 < s → dg v' 4 (s - 1) ≠ 0) := by
  have hr := h i hi
  have hv := rp_val (by decide) hr
  have hS := im_S (m4 M i)
  have tail : ∀ w1 : Nat → Int32, (∀ p, p < 4400 → w1 p = v p) → (∀ j, j < m + 3 → 0 ≤ dg w1 4 j ∧ dg w1 4 j < 65536) → pl 65536 (dg w1 4) (m + 3) = mS (m4 M i) →
      ∃ v' s, f_X3_sized_50 n n (nI (m + 3)) w1 = some (nI s, v') ∧ rows v' (m + 3) M ∧ s ≤ m + 3 ∧ (∀ j, j < m + 3 → 0 ≤ dg v' 4 j ∧ dg v' 4 j < 65536) ∧ pl 65536 (dg v' 4) (m + 3) = mS (m4 M i) ∧ (∀ j, s ≤ j → j < m + 3 → dg v' 4 j = 0) ∧ (0 < s → dg v' 4 (s - 1) ≠ 0) := by
    intro w1 p1 p2 p3
    obtain ⟨s, a1, a2, a3, a4⟩ := g_sz50 (n := n) (g := m + 3) (w := w1) (by omega) (m + 3) n (by omega) (by omega)
    refine ⟨w1, s, a1, ?_, a2, p2, p3, ?_, ?_⟩
    · intro r hr
      refine rp_congr (fun j hj => ?_) (h r hr)
      show (v (1100 * r + j)).toInt = (w1 (1100 * r + j)).toInt
      rw [p1 _ (by omega)]
    · intro j q1 q2
      show (w1 (1100 * 4 + j)).toInt = 0
      rw [a3 j q1 q2]; rfl
    · intro q1 q2
      apply a4 q1
      apply i32_eq_iff.mpr
      exact q2
  unfold f_X3_sized
  rw [g_below (by omega) (by omega) (by omega) hr, Option.bind_some]
  by_cases q : m4 M i < 0
  · rw [if_pos q, if_neg o10]
    obtain ⟨w1, k1, f1, r1, c', e1⟩ := g_neg (n := n) (a1 := 4) (a2 := i) (g := m + 3) (by decide) (by omega) (by omega) (by omega) (m + 3) 0 n 1 v (by omega) (by omega) (by decide) (by decide) hr.1
    have k1' : f_X3_negative n (nI (m + 3)) v 4 (nI i) = some w1 := k1
    rw [k1', Option.bind_some]
    refine tail w1 (fun p hp => f1 p (by omega)) (fun j hj => r1 j (by omega) hj) ?_
    simp only [Nat.zero_add] at e1
    have e2 : 65536 ^ (m + 3) - 1 - pl 65536 (dg v i) (m + 3) + 1 = pl 65536 (dg w1 4) (m + 3) + c' * 65536 ^ (m + 3) := e1
    rw [hv.2 q] at e2
    obtain ⟨y1, y2⟩ := pl_range (B := 65536) (r := dg w1 4) (by decide) (m + 3) (fun j hj => r1 j (by omega) hj)
    obtain ⟨-, -, h3, h4⟩ := hr
    generalize pl 65536 (dg w1 4) (m + 3) = L at *
    generalize (65536 : Int) ^ (m + 3) = P at *
    generalize m4 M i = z at *
    rcases (show c' ≤ -1 ∨ c' = 0 ∨ 1 ≤ c' by omega) with y | y | y
    · have : c' * P ≤ -1 * P := Int.mul_le_mul_of_nonneg_right y (by omega)
      omega
    · subst y; omega
    · have : 1 * P ≤ c' * P := Int.mul_le_mul_of_nonneg_right y (by omega)
      omega
  · rw [if_neg q, if_pos rfl]
    obtain ⟨w1, a1, a2, a3⟩ := g_sz19 (n := n) (g := m + 3) (i := i) (by omega) hi (m + 3) 0 n v (by omega) (by omega)
    have a1' : f_X3_sized_19 n n (nI (m + 3)) (nI i) 0 v = _ := a1
    rw [a1']
    have e : ∀ j, j < m + 3 → dg w1 4 j = dg v i j := fun j hj => by
      show (w1 (1100 * 4 + j)).toInt = _
      rw [a2 j (by omega) hj]
    refine tail w1 (fun p hp => a3 p (by omega)) (fun j hj => by rw [e j hj]; exact hr.1 j hj) ?_
    rw [pl_congr (m + 3) e, hv.1 (by omega)]
    omega
theorem pl_top {B : Int} {r : Nat → Int} (hB : 1 ≤ B) {g s : Nat} (hs : s ≤ g) (h : ∀ j, j < g → 0 ≤ r j ∧ r j < B) (hz : ∀ j, s ≤ j → j < g → r j = 0) : pl B r g = pl B r s := by
  have := pl_tail (B := B) (r := r) s (g - s) (fun j q1 q2 => hz j q1 (by omega))
  rw [show s + (g - s) = g by omega] at this
  exact this
/-- sized is 0 just for 0 -/
theorem sz_0 {g s : Nat} {r : Nat → Int} (hs : s ≤ g) (h : ∀ j, j < g → 0 ≤ r j ∧ r j < 65536) (hz : ∀ j, s ≤ j → j < g → r j = 0) (ht : 0 < s → r (s - 1) ≠ 0) : (0 < s ↔ pl 65536 r g ≠ 0) := by
  have hp := pl_zero (B := 65536) (r := r) (by decide) g (fun j hj => (h j hj).1)
  constructor
  · intro q1 q2
    exact ht q1 (hp.mp q2 (s - 1) (by omega))
  · intro q
    rcases (show 0 < s ∨ s = 0 by omega) with z | z
    · exact z
    · subst z
      exact absurd (hp.mpr (fun j hj => hz j (by omega) hj)) q
/-- the number of bits -/
def BL (A : Int) (L : Nat) : Prop := (A = 0 ∧ L = 0) ∨ (1 ≤ L ∧ 2 ^ (L - 1) ≤ A ∧ A < 2 ^ L)
theorem pow2_le {a b : Nat} (h : a ≤ b) : (2 : Int) ^ a ≤ 2 ^ b := by
  rcases (show a = b ∨ a < b by omega) with rfl | z
  · exact Int.le_refl _
  · exact Int.le_of_lt (pow_lt2 z)
theorem BL_un {A : Int} {L L' : Nat} (h : BL A L) (h' : BL A L') : L = L' := by
  have p : ∀ k : Nat, (0 : Int) < 2 ^ k := fun k => Int.pow_pos (by decide)
  rcases h with ⟨a, b⟩ | ⟨a, b, c⟩ <;> rcases h' with ⟨a', b'⟩ | ⟨a', b', c'⟩
  · omega
  · have := p (L' - 1); omega
  · have := p (L - 1); omega
  · rcases (show L = L' ∨ L ≤ L' - 1 ∨ L' ≤ L - 1 by omega) with z | z | z
    · exact z
    · have := pow2_le z; omega
    · have := pow2_le z; omega
theorem BL_ex {A : Int} (h0 : 0 ≤ A) : ∀ n, A < 2 ^ n → ∃ L, L ≤ n ∧ BL A L
  | 0, h => ⟨0, by omega, Or.inl ⟨by rw [Int.pow_zero] at h; omega, rfl⟩⟩
  | n + 1, h => by
    rcases (show A < 2 ^ n ∨ 2 ^ n ≤ A by omega) with z | z
    · obtain ⟨L, a, b⟩ := BL_ex h0 n z
      exact ⟨L, by omega, b⟩
    · exact ⟨n + 1, by omega, Or.inr ⟨by omega, z, h⟩⟩
