theorem g_sign {n m : Nat} (hn : 1200 ≤ n) {v : Nat → Int32} {M : M4} (hm : m ≤ 514) (h : rows v (m + 3) M) {i : Nat} (hi : i < 4) :
    ∃ v', f_X3_sign n (nI (m + 3)) v (nI i) = some (sg32 (m4 M i), v', 0) ∧ rows v' (m + 3) M := by
  have hN : f_X3_isNumber n (nI i) = some (1, 0) := by
    unfold f_X3_isNumber
    have := (p_in (n := n) (v := (i : Int)) (l := 0) (h := 3) ⟨by omega, by omega⟩ jR_0 ⟨by omega, by omega⟩).1 ⟨by omega, by omega⟩
    rw [nI_jL (by omega), show (0 : Int64) = jL 0 from rfl, show (3 : Int64) = jL 3 from rfl, this, Option.bind_some, if_neg o10]
  obtain ⟨v', s, a1, a2, a3, a4, a5, a6, a7⟩ := g_sized hn hm h hi
  have hsz := sz_0 a3 a4 a6 a7
  have hS := im_S (m4 M i)
  unfold f_X3_sign
  rw [hN, Option.bind_some]
  dsimp only
  rw [if_neg o10, g_below (by omega) (by omega) (by omega) (h i hi), Option.bind_some]
  unfold sg32
  by_cases q : m4 M i < 0
  · rw [if_pos q, if_neg o10, if_pos q]
    exact ⟨v, rfl, h⟩
  · rw [if_neg q, if_pos rfl, a1, Option.bind_some, if_neg q]
    dsimp only
    by_cases c : m4 M i = 0
    · rw [if_pos c, if_neg]
      · exact ⟨v', rfl, a2⟩
      · intro y
        have := (nI_ltI (a := 0) (by omega) (by omega)).mp y
        have := hsz.mp this
        rw [a5] at this
        omega
    · rw [if_neg c, if_pos]
      · exact ⟨v', rfl, a2⟩
      · refine (nI_ltI (a := 0) (by omega) (by omega)).mpr (hsz.mpr ?_)
        rw [a5]
        omega
theorem g_num {n : Nat} {i : Nat} (hi : i < 4) : f_X3_isNumber n (nI i) = some (1, 0) := by
  unfold f_X3_isNumber
  have := (p_in (n := n) (v := (i : Int)) (l := 0) (h := 3) ⟨by omega, by omega⟩ jR_0 ⟨by omega, by omega⟩).1 ⟨by omega, by omega⟩
  rw [nI_jL (by omega), show (0 : Int64) = jL 0 from rfl, show (3 : Int64) = jL 3 from rfl, this, Option.bind_some, if_neg o10]
theorem g_b39 {n : Nat} {u2 c : Int32} {w : Nat → Int32} : ∀ (L x K : Nat) (t : Int), BL t L → t < 2147483648 → L < K → x + L < 2147483648 → f_X3_bits_39 n K u2 (nI x) (Int32.ofInt t) w c = some (nI (x + L), w, c)
  | L, x, 0, t, hb, ht, hK, hx => by omega
  | 0, x, K + 1, t, hb, ht, hK, hx => by
    have : t = 0 := by rcases hb with ⟨a, -⟩ | ⟨a, -⟩ <;> omega
    subst this
    rw [f_X3_bits_39, if_neg (by decide), Nat.add_zero]
  | L + 1, x, K + 1, t, hb, ht, hK, hx => by
    rcases hb with ⟨-, a⟩ | ⟨a, b, c'⟩
    · omega
    have p0 : (0 : Int) < 2 ^ L := Int.pow_pos (by decide)
    have b' : 2 ^ L ≤ t := b
    have e : Int32.ofInt t >>> ((1 : Int32) &&& 31) = Int32.ofInt (t / 2) := by
      apply Int32.toInt_inj.mp
      have e : (Int32.ofInt t >>> ((1 : Int32) &&& 31)).toInt = (Int32.ofInt t).toInt >>> 1 := BitVec.toInt_sshiftRight
      rw [e, Int.shiftRight_eq_div_pow, Int32.toInt_ofInt_of_le (by omega) (by omega), Int32.toInt_ofInt_of_le (by omega) (by omega)]
      rfl
    have pos : (0 : Int32) < Int32.ofInt t := by
      rw [Int32.lt_iff_toInt_lt, Int32.toInt_ofInt_of_le (by omega) (by omega)]
      show (0 : Int) < t
      omega
    have hb2 : BL (t / 2) L := by
      rw [Int.pow_succ] at c'
      rcases (show L = 0 ∨ 1 ≤ L by omega) with z | z
      · subst z
        rw [Int.pow_zero] at c'
        exact Or.inl ⟨by omega, rfl⟩
      · right
        obtain ⟨L', rfl⟩ : ∃ L', L = L' + 1 := ⟨L - 1, by omega⟩
        have e2 : (2 : Int) ^ (L' + 1) = 2 ^ L' * 2 := Int.pow_succ 2 L'
        refine ⟨by omega, ?_, ?_⟩
        · show 2 ^ L' ≤ t / 2
          rw [e2] at b'
          generalize (2 : Int) ^ L' = P at *
          omega
        · generalize (2 : Int) ^ (L' + 1) = P at *
          omega
    rw [f_X3_bits_39, if_pos pos, e, ← nI_succ, g_b39 L (x + 1) K (t / 2) hb2 (by omega) (by omega) (by omega)]
    rw [show x + 1 + L = x + (L + 1) by omega]
theorem BL_top {B : Int} {b g s ℓ : Nat} {r : Nat → Int} (hB : B = 2 ^ b) (hB1 : 1 ≤ B) (hs1 : 1 ≤ s) (hs : s ≤ g) (h : ∀ j, j < g → 0 ≤ r j ∧ r j < B) (hz : ∀ j, s ≤ j → j < g → r j = 0) (hl : BL (r (s - 1)) ℓ) (hnz : r (s - 1) ≠ 0) : BL (pl B r g) (b * (s - 1) + ℓ) := by
  rw [pl_top hB1 hs h hz]
  obtain ⟨s', rfl⟩ : ∃ s', s = s' + 1 := ⟨s - 1, by omega⟩
  rw [Nat.add_sub_cancel] at *
  rcases hl with ⟨a, -⟩ | ⟨a, c, d⟩
  · exact absurd a hnz
  · right
    obtain ⟨q1, q2⟩ := pl_range (r := r) hB1 s' (fun j hj => h j (by omega))
    have eP : B ^ s' = 2 ^ (b * s') := by rw [hB, ← Int.pow_mul]
    have hP : (0 : Int) < 2 ^ (b * s') := Int.pow_pos (by decide)
    rw [pl]
    rw [eP] at q2 ⊢
    have e1 : (2 : Int) ^ (b * s' + ℓ - 1) = 2 ^ (ℓ - 1) * 2 ^ (b * s') := by rw [← Int.pow_add]; congr 1; omega
    have e2 : (2 : Int) ^ (b * s' + ℓ) = 2 ^ ℓ * 2 ^ (b * s') := by rw [← Int.pow_add]; congr 1; omega
    have m1 : 2 ^ (ℓ - 1) * 2 ^ (b * s') ≤ r s' * 2 ^ (b * s') := Int.mul_le_mul_of_nonneg_right c (by omega)
    have m2 : (r s' + 1) * 2 ^ (b * s') ≤ 2 ^ ℓ * 2 ^ (b * s') := Int.mul_le_mul_of_nonneg_right (by omega) (by omega)
    have e3 : (r s' + 1) * 2 ^ (b * s') = r s' * 2 ^ (b * s') + 2 ^ (b * s') := by rw [Int.add_mul, Int.one_mul]
    refine ⟨by omega, ?_, ?_⟩
    · rw [e1]; omega
    · rw [e2]; omega
theorem g_bits {n m : Nat} (hn : 1200 ≤ n) {v : Nat → Int32} {M : M4} (hm : m ≤ 514) (h : rows v (m + 3) M) {i : Nat} (hi : i < 4) :
    ∃ v' L, f_X3_bits n (nI (m + 3)) v (nI i) = some (nI L, v', 0) ∧ rows v' (m + 3) M ∧ BL (mS (m4 M i)) L := by
  obtain ⟨v', s, a1, a2, a3, a4, a5, a6, a7⟩ := g_sized hn hm h hi
  have hsz := sz_0 a3 a4 a6 a7
  unfold f_X3_bits
  rw [g_num hi, Option.bind_some]
  dsimp only
  rw [if_neg o10, a1, Option.bind_some]
  dsimp only
  rcases (show s = 0 ∨ 1 ≤ s by omega) with z | z
  · subst z
    rw [if_pos (show nI 0 = 0 from rfl)]
    refine ⟨v', 0, rfl, a2, Or.inl ⟨?_, rfl⟩⟩
    rw [← a5]
    apply Classical.byContradiction
    intro q
    have := hsz.mpr q
    omega
  · have hne : ¬ nI s = 0 := fun y => by
      have := (nI_ltI (a := 0) (b := s) (by omega) (by omega)).mpr (by omega)
      rw [y] at this
      exact absurd this (by decide)
    have e1 : nI s - 1 = nI (s - 1) := by rw [show (1 : Int32) = nI 1 from rfl, nI_mi z]
    have e2 : (16 : Int32) * nI (s - 1) = nI (16 * (s - 1)) := by rw [show (16 : Int32) = nI 16 from rfl, nI_tm]
    have hd := a4 (s - 1) (by omega)
    obtain ⟨ℓ, b1, b2⟩ := BL_ex hd.1 16 hd.2
    rw [if_neg hne, e1, show (4 : Int32) = nI 4 from rfl, g_get (by decide) (by omega), Option.bind_some, e2]
    have e3 : v' (1100 * 4 + (s - 1)) = Int32.ofInt (dg v' 4 (s - 1)) := (Int32.ofInt_toInt _).symm
    rw [e3, g_b39 ℓ (16 * (s - 1)) n _ b2 (by omega) (by omega) (by omega)]
    refine ⟨v', 16 * (s - 1) + ℓ, rfl, a2, ?_⟩
    rw [← a5]
    exact BL_top (B := 65536) (b := 16) (by decide) (by decide) z a3 a4 a6 b2 (a7 (by omega))
theorem i_lohi {x y : Int} (hx : 0 ≤ x ∧ x < 65536) (hy : 0 ≤ y ∧ y < 65536) : wd (Int32.ofInt x ||| (Int32.ofInt y <<< ((16 : Int32) &&& 31))) = x + 65536 * y := by
  have e : (Int32.ofInt x ||| (Int32.ofInt y <<< ((16 : Int32) &&& 31))).toBitVec = BitVec.ofInt 32 x ||| (BitVec.ofInt 32 y <<< 16) := rfl
  have hw : ∀ a : Int32, wd a = (a.toBitVec.toNat : Int) := fun a => by
    unfold wd
    have : a.toInt = a.toBitVec.toInt := rfl
    rw [this, BitVec.toInt_eq_toNat_bmod]
    have k : ((a.toBitVec.toNat : Int).bmod (2 ^ 32)) % ((2 ^ 32 : Nat) : Int) = (a.toBitVec.toNat : Int) % ((2 ^ 32 : Nat) : Int) := Int.bmod_emod
    have c : ((2 ^ 32 : Nat) : Int) = 4294967296 := rfl
    rw [c] at k
    rw [k]
    have := a.toBitVec.isLt
    omega
  rw [hw, e, BitVec.toNat_or, BitVec.toNat_shiftLeft, BitVec.toNat_ofInt, BitVec.toNat_ofInt]
  have x1 : (x % ((2 ^ 32 : Nat) : Int)).toNat = x.toNat := by
    have : ((2 ^ 32 : Nat) : Int) = 4294967296 := rfl
    rw [this, Int.emod_eq_of_lt hx.1 (by omega)]
  have y1 : (y % ((2 ^ 32 : Nat) : Int)).toNat = y.toNat := by
    have : ((2 ^ 32 : Nat) : Int) = 4294967296 := rfl
    rw [this, Int.emod_eq_of_lt hy.1 (by omega)]
  rw [x1, y1]
  have y2 : y.toNat <<< 16 % 2 ^ 32 = 2 ^ 16 * y.toNat := by
    rw [Nat.shiftLeft_eq]
    omega
  rw [y2, Nat.or_comm, ← Nat.two_pow_add_eq_or_of_lt (show x.toNat < 2 ^ 16 by omega)]
  omega
theorem p16 (x : Nat) : (65536 : Int) ^ x = 2 ^ (16 * x) := by rw [Int.pow_mul]; rfl
theorem g_word {n m : Nat} (hn : 1200 ≤ n) {v : Nat → Int32} {M : M4} (hm : m ≤ 514) (h : rows v (m + 3) M) {i k : Nat} (hi : i < 4) (hk : k < 512) :
    ∃ v' x, f_X3_word n (nI (m + 3)) v (nI i) (nI k) = some (x, v', 0) ∧ rows v' (m + 3) M ∧ wd x = (mS (m4 M i) / 4294967296 ^ k) % 4294967296 := by
  obtain ⟨v', s, a1, a2, a3, a4, a5, a6, a7⟩ := g_sized hn hm h hi
  have hin := (p_in (n := n) (v := (k : Int)) (l := 0) (h := 511) ⟨by omega, by omega⟩ jR_0 ⟨by omega, by omega⟩).1 ⟨by omega, by omega⟩
  have e1 : (2 : Int32) * nI k = nI (2 * k) := by rw [show (2 : Int32) = nI 2 from rfl, nI_tm]
  have e2 : nI (2 * k) + 1 = nI (2 * k + 1) := (nI_succ _).symm
  -- the digit at place j, 0 beyond
  have dj : ∀ j, (mS (m4 M i) / 65536 ^ j) % 65536 = if j < s then dg v' 4 j else 0 := fun j => by
    rw [← a5]
    rcases (show j < m + 3 ∨ m + 3 ≤ j by omega) with z | z
    · rw [pl_digit (by decide) a4 z]
      by_cases q : j < s
      · rw [if_pos q]
      · rw [if_neg q, a6 j (by omega) z]
    · rw [if_neg (by omega)]
      obtain ⟨q1, q2⟩ := pl_range (B := 65536) (r := dg v' 4) (by decide) (m + 3) a4
      have : (65536 : Int) ^ (m + 3) ≤ 65536 ^ j := by
        rw [p16, p16]
        exact pow2_le (by omega)
      rw [Int.ediv_eq_zero_of_lt q1 (by omega)]
      rfl
  have hcomb : (mS (m4 M i) / 4294967296 ^ k) % 4294967296 = (mS (m4 M i) / 65536 ^ (2 * k)) % 65536 + 65536 * ((mS (m4 M i) / 65536 ^ (2 * k + 1)) % 65536) := by
    have p1 : (4294967296 : Int) ^ k = 65536 ^ (2 * k) := by rw [Int.pow_mul]; rfl
    have p2 : (65536 : Int) ^ (2 * k + 1) = 65536 ^ (2 * k) * 65536 := Int.pow_succ _ _
    have hp : (0 : Int) < 65536 ^ (2 * k) := Int.pow_pos (by decide)
    rw [p1, p2, ← Int.ediv_ediv_of_nonneg (Int.le_of_lt hp)]
    generalize mS (m4 M i) / 65536 ^ (2 * k) = X
    omega
  have hr : ∀ j, 0 ≤ (mS (m4 M i) / 65536 ^ j) % 65536 ∧ (mS (m4 M i) / 65536 ^ j) % 65536 < 65536 := fun j => ⟨Int.emod_nonneg _ (by decide), Int.emod_lt_of_pos _ (by decide)⟩
  have fin : wd (Int32.ofInt ((mS (m4 M i) / 65536 ^ (2 * k)) % 65536) ||| (Int32.ofInt ((mS (m4 M i) / 65536 ^ (2 * k + 1)) % 65536) <<< ((16 : Int32) &&& 31))) = (mS (m4 M i) / 4294967296 ^ k) % 4294967296 := by
    rw [i_lohi (hr _) (hr _), hcomb]
  refine ⟨v', _, ?_, a2, fin⟩
  unfold f_X3_word
  rw [g_num hi, Option.bind_some]
  dsimp only
  rw [if_neg o10, nI_jL (by omega), show (0 : Int64) = jL 0 from rfl, show (511 : Int64) = jL 511 from rfl, hin, Option.bind_some, if_neg o10, a1, Option.bind_some]
  dsimp only
  rw [e1, e2]
  have g0 : ∀ j, j < s → f_X3_get n v' 4 (nI j) = some (Int32.ofInt ((mS (m4 M i) / 65536 ^ j) % 65536)) := fun j hj => by
    rw [show (4 : Int32) = nI 4 from rfl, g_get (by decide) (by omega), dj j, if_pos hj]
    show some _ = some (Int32.ofInt (v' (1100 * 4 + j)).toInt)
    rw [Int32.ofInt_toInt]
  have z0 : ∀ j, ¬ j < s → (0 : Int32) = Int32.ofInt ((mS (m4 M i) / 65536 ^ j) % 65536) := fun j hj => by
    rw [dj j, if_neg hj]; rfl
  by_cases q0 : 2 * k < s
  · rw [if_pos (nI_lt q0 (by omega)), g0 _ q0, Option.bind_some]
    by_cases q1 : 2 * k + 1 < s
    · rw [if_pos (nI_lt q1 (by omega)), g0 _ q1, Option.bind_some]
    · rw [if_neg (fun y => q1 ((nI_ltI (by omega) (by omega)).mp y))]
      rw [← z0 _ q1]
  · rw [if_neg (fun y => q0 ((nI_ltI (by omega) (by omega)).mp y)), if_neg (fun y => by have := (nI_ltI (by omega) (by omega)).mp y; omega)]
    rw [← z0 _ q0, ← z0 (2 * k + 1) (by omega)]
