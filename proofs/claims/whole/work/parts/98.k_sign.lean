theorem k_begin {n : Nat} {z0 z1 z2 z3 : Nat → Int32} : ∃ y0 y1 y2 y3, f_X1_begin n z0 z1 z2 z3 = some (y0, y1, y2, y3, 1, 1, 0, 0, 1) ∧ cls y0 y1 y2 y3 1 (1, 0, 0, 1) := by
  refine ⟨upd z0 0 1, upd z1 0 0, upd z2 0 0, upd z3 0 1, ?_, ?_⟩
  · unfold f_X1_begin f_X1_forgetWaiting
    have ix : ¬ ((0 : Int32) < 0 ∨ 256 ≤ (0 : Int32).toNatClampNeg) := by decide
    rw [if_neg ix, if_neg ix, if_neg ix, if_neg ix, Option.bind_some]
    rfl
  · have u : ∀ (z : Nat → Int32) (x : Int32) (v : Int), wd x = v → -4294967296 ≤ 2 * v → 2 * v < 4294967296 → rp 4294967296 (wz (upd z 0 x)) 1 v := fun z x v hv q1 q2 => by
      have e0 : wz (upd z 0 x) 0 = v := by
        show wd (upd z 0 x 0) = v
        rw [upd_at, hv]
      refine ⟨fun j hj => wd_range _, Or.inl ?_, ?_, ?_⟩
      · rw [pl, pl, e0, Int.pow_zero]; omega
      · rw [Int.pow_one]; omega
      · rw [Int.pow_one]; omega
    exact ⟨u z0 1 1 (by decide) (by decide) (by decide), u z1 0 0 (by decide) (by decide) (by decide), u z2 0 0 (by decide) (by decide) (by decide), u z3 1 1 (by decide) (by decide) (by decide)⟩
theorem pl_nonneg {B : Int} {r : Nat → Int} (hB : 1 ≤ B) : ∀ n, (∀ j, j < n → 0 ≤ r j) → 0 ≤ pl B r n
  | 0, _ => by rw [pl]; decide
  | n + 1, h => by
    have ih := pl_nonneg (r := r) hB n (fun j hj => h j (by omega))
    have hP : 0 < B ^ n := Int.pow_pos (by omega)
    have := Int.mul_nonneg (h n (by omega)) (Int.le_of_lt hP)
    rw [pl]
    omega
theorem pl_zero {B : Int} {r : Nat → Int} (hB : 1 ≤ B) : ∀ n, (∀ j, j < n → 0 ≤ r j) → (pl B r n = 0 ↔ ∀ j, j < n → r j = 0)
  | 0, _ => by rw [pl]; exact ⟨fun _ j hj => by omega, fun _ => rfl⟩
  | n + 1, h => by
    have ih := pl_zero hB n (fun j hj => h j (by omega))
    have hn := h n (by omega)
    have hP : 0 < B ^ n := Int.pow_pos (by omega)
    have h0 : 0 ≤ pl B r n := pl_nonneg hB n (fun j hj => h j (by omega))
    have hm : 0 ≤ r n * B ^ n := Int.mul_nonneg hn (by omega)
    rw [pl]
    constructor
    · intro e j hj
      rcases (show j < n ∨ j = n by omega) with z | rfl
      · exact ih.mp (by omega) j z
      · have : r j * B ^ j = 0 := by omega
        rcases Int.mul_eq_zero.mp this with z | z
        · exact z
        · omega
    · intro e
      rw [ih.mpr (fun j hj => e j (by omega)), e n (by omega)]
      omega
theorem k_sg15 {n len : Nat} {z : Nat → Int32} (hlen : len ≤ 256) : ∀ (d j K : Nat), j + d = len → d < K → ((∀ x, j ≤ x → x < len → z x = 0) → f_X1_findSign_15 n K (nI len) z (nI j) = some 0) ∧ ((∃ x, j ≤ x ∧ x < len ∧ z x ≠ 0) → f_X1_findSign_15 n K (nI len) z (nI j) = some 1)
  | d, j, 0, hj, hK => by omega
  | 0, j, K + 1, hj, hK => by
    constructor
    · intro _
      rw [f_X1_findSign_15, if_neg (fun y => by have := (nI_ltI (by omega) (by omega)).mp y; omega)]
    · rintro ⟨x, q1, q2, -⟩
      omega
  | d + 1, j, K + 1, hj, hK => by
    obtain ⟨i1, i2⟩ := k_sg15 (n := n) (z := z) hlen d (j + 1) K (by omega) (by omega)
    rw [f_X1_findSign_15, if_pos (nI_lt (by omega) (by omega)), if_neg (ix256 (by omega)), nI_clamp (by omega), ← nI_succ]
    constructor
    · intro q
      rw [if_pos (q j (by omega) (by omega))]
      exact i1 (fun x q1 q2 => q x (by omega) q2)
    · rintro ⟨x, q1, q2, q3⟩
      by_cases c : z j = 0
      · rw [if_pos c]
        exact i2 ⟨x, by rcases (show x = j ∨ j + 1 ≤ x by omega) with rfl | y; exact absurd c q3; exact y, q2, q3⟩
      · rw [if_neg c]
/-- the sign of a number as an int -/
def sg32 (v : Int) : Int32 := if v < 0 then -1 else if v = 0 then 0 else 1
theorem k_sign {n len : Nat} (hn : 300 ≤ n) {z : Nat → Int32} {v : Int} (h1 : 1 ≤ len) (h2 : len ≤ 256) (h : rp 4294967296 (wz z) len v) : f_X1_findSign n (nI len) z = some (sg32 v) := by
  obtain ⟨g, rfl⟩ : ∃ g, len = g + 1 := ⟨len - 1, by omega⟩
  have hs : 2147483648 ≤ wd (z g) ↔ v < 0 := rp_sign (H := 2147483648) (by decide) (by decide) h
  have hng := wd_neg (z g)
  have hv := rp_val (by decide) h
  have e1 : nI (g + 1) - 1 = nI g := by rw [show (1 : Int32) = nI 1 from rfl, nI_mi (by omega)]; rfl
  unfold f_X1_findSign sg32
  rw [e1, if_neg (ix256 (by omega)), nI_clamp (by omega)]
  by_cases q : v < 0
  · rw [if_pos (hng.mpr (hs.mpr q)), if_pos q]
  · rw [if_neg (fun y => q (hs.mp (hng.mp y))), if_neg q]
    obtain ⟨i1, i2⟩ := k_sg15 (n := n) (z := z) h2 (g + 1) 0 n (by omega) (by omega)
    have hz := pl_zero (B := 4294967296) (r := wz z) (by decide) (g + 1) (fun j hj => (h.1 j hj).1)
    by_cases c : v = 0
    · rw [if_pos c]
      have := hz.mp (by rw [hv.1 (by omega), c])
      exact i1 (fun x _ q2 => (wd_0 _).mpr (this x q2))
    · rw [if_neg c]
      refine i2 ?_
      apply Classical.byContradiction
      intro hno
      apply c
      rw [← hv.1 (by omega)]
      apply hz.mpr
      intro j hj
      apply Classical.byContradiction
      intro hj2
      exact hno ⟨j, by omega, hj, fun y => hj2 ((wd_0 _).mp y)⟩
theorem k_neg5 {n len : Nat} (hlen : len ≤ 256) : ∀ (d j K : Nat) (c : Int) (z : Nat → Int32), j + d = len → d < K → 0 ≤ c → c ≤ 1 →
    ∃ z', f_X1_negate_5 n K (nI len) (jL c) (nI j) z = some z' ∧ (∀ p, (p < j ∨ len ≤ p) → z' p = z p) ∧ ∃ c', (4294967296 ^ d - 1) - pl 4294967296 (fun x => wz z (j + x)) d + c = pl 4294967296 (fun x => wz z' (j + x)) d + c' * 4294967296 ^ d
  | d, j, 0, c, z, hj, hK, _, _ => by omega
  | 0, j, K + 1, c, z, hj, hK, _, _ => by
    have : j = len := by omega
    subst this
    refine ⟨z, ?_, fun p _ => rfl, c, ?_⟩
    · rw [f_X1_negate_5, if_neg (fun y => by have := (nI_ltI (by omega) (by omega)).mp y; omega)]
    · simp only [pl, Int.pow_zero]; omega
  | d + 1, j, K + 1, c, z, hj, hK, h0, h1 => by
    obtain ⟨x1, x2⟩ : 0 ≤ wz z j ∧ wz z j < 4294967296 := wd_range (z j)
    obtain ⟨s, hs⟩ : ∃ s, s = c + (4294967295 - wz z j) := ⟨_, rfl⟩
    have hsR : jR s := ⟨by omega, by omega⟩
    have es : jL c + ((z j ^^^ (-1 : Int32)).toInt64 &&& 4294967295) = jL s := by
      rw [wd_mask, wd_not, jL_add, hs]
    obtain ⟨z', i1, i2, c', i3⟩ := k_neg5 (n := n) hlen d (j + 1) K (s / 4294967296) (upd z j (Int32.ofInt s)) (by omega) (by omega) (by omega) (by omega)
    have hat : wz z' j = s % 4294967296 := by
      show wd (z' j) = _
      rw [i2 j (Or.inl (by omega)), upd_at, wd_i]
    refine ⟨z', ?_, ?_, c', ?_⟩
    · rw [f_X1_negate_5, if_pos (nI_lt (by omega) (by omega)), if_neg (ix256 (by omega)), if_neg (ix256 (by omega)), nI_clamp (by omega), es, l_shr32 hsR, jL_i, ← nI_succ]
      exact i1
    · intro p hp
      rw [i2 p (by omega), upd_ne _ _ (by omega)]
    · rw [pl_head, pl_head]
      have e2 : pl 4294967296 (fun x => wz z (j + (x + 1))) d = pl 4294967296 (fun x => wz (upd z j (Int32.ofInt s)) (j + 1 + x)) d := pl_congr d (fun x hx => by
        show wd (z (j + (x + 1))) = wd (upd z j (Int32.ofInt s) (j + 1 + x))
        rw [upd_ne _ _ (by omega), show j + (x + 1) = j + 1 + x by omega])
      have e1 : pl 4294967296 (fun x => wz z' (j + (x + 1))) d = pl 4294967296 (fun x => wz z' (j + 1 + x)) d := pl_congr d (fun x hx => by rw [show j + (x + 1) = j + 1 + x by omega])
      rw [e2, e1, Int.pow_succ]
      show _ - (wz z j + _) + c = wz z' j + _ + _
      rw [hat]
      have hdm : s = 4294967296 * (s / 4294967296) + s % 4294967296 := (Int.mul_ediv_add_emod s 4294967296).symm
      generalize pl 4294967296 (fun x => wz (upd z j (Int32.ofInt s)) (j + 1 + x)) d = A at *
      generalize pl 4294967296 (fun x => wz z' (j + 1 + x)) d = Cq at *
      generalize (4294967296 : Int) ^ d = P at *
      generalize wz z j = xx at *
      generalize s / 4294967296 = vd at *
      generalize s % 4294967296 = vm at *
      clear i1 i2 es hat
      grind
theorem k_negate {n len : Nat} (hn : 300 ≤ n) {z : Nat → Int32} {v : Int} (h2 : len ≤ 256) (h : rp 4294967296 (wz z) len v) (hv : v < 0) : ∃ z', f_X1_negate n (nI len) z = some z' ∧ pl 4294967296 (wz z') len = mS v := by
  obtain ⟨z', i1, i2, c', i3⟩ := k_neg5 (n := n) h2 len 0 n 1 z (by omega) (by omega) (by decide) (by decide)
  refine ⟨z', i1, ?_⟩
  simp only [Nat.zero_add] at i3
  have e : (4294967296 ^ len - 1) - pl 4294967296 (wz z) len + 1 = pl 4294967296 (wz z') len + c' * 4294967296 ^ len := i3
  rw [(rp_val (by decide) h).2 hv] at e
  obtain ⟨q1, q2⟩ := pl_range (B := 4294967296) (r := wz z') (by decide) len (fun j _ => wd_range _)
  obtain ⟨-, -, h3, h4⟩ := h
  have hS := im_S v
  generalize pl 4294967296 (wz z') len = L at *
  generalize (4294967296 : Int) ^ len = P at *
  rcases (show c' ≤ -1 ∨ c' = 0 ∨ 1 ≤ c' by omega) with y | y | y
  · have : c' * P ≤ -1 * P := Int.mul_le_mul_of_nonneg_right y (by omega)
    omega
  · subst y; omega
  · have : 1 * P ≤ c' * P := Int.mul_le_mul_of_nonneg_right y (by omega)
    omega
/-- a row of sizes: its number is the size of v -/
def szr (z : Nat → Int32) (len : Nat) (v : Int) : Prop := pl 4294967296 (wz z) len = mS v
def fin4 (z0 z1 z2 z3 sg : Nat → Int32) (len : Nat) (M : M4) : Prop := szr z0 len M.1 ∧ szr z1 len M.2.1 ∧ szr z2 len M.2.2.1 ∧ szr z3 len M.2.2.2 ∧ sg 0 = sg32 M.1 ∧ sg 1 = sg32 M.2.1 ∧ sg 2 = sg32 M.2.2.1 ∧ sg 3 = sg32 M.2.2.2
theorem sg_neg {v : Int} (h : v < 0) : sg32 v < 0 := by unfold sg32; rw [if_pos h]; decide
theorem sg_not {v : Int} (h : ¬ v < 0) : ¬ sg32 v < 0 := by unfold sg32; rw [if_neg h]; split <;> decide
theorem k_one {n len : Nat} (hn : 300 ≤ n) {z : Nat → Int32} {v : Int} (h2 : len ≤ 256) (h : rp 4294967296 (wz z) len v) : ∃ z', szr z' len v ∧ (sg32 v < 0 → f_X1_negate n (nI len) z = some z') ∧ (¬ sg32 v < 0 → z' = z) := by
  by_cases q : v < 0
  · obtain ⟨z', a, b⟩ := k_negate hn h2 h q
    exact ⟨z', b, fun _ => a, fun y => absurd (sg_neg q) y⟩
  · refine ⟨z, ?_, fun y => absurd y (sg_not q), fun _ => rfl⟩
    show pl 4294967296 (wz z) len = mS v
    rw [(rp_val (by decide) h).1 (by omega)]
    have := im_S v
    omega
