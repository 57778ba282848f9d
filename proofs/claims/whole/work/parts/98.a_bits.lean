/-! bits of longs and ints -/
theorem l_eq {a b : Int64} (h : a.toBitVec = b.toBitVec) : a = b := Int64.toBitVec_inj.mp h
theorem i_eq {a b : Int32} (h : a.toBitVec = b.toBitVec) : a = b := Int32.toBitVec_inj.mp h
theorem and_mask {w : Nat} (v : Int) (k : Nat) (hk : k < w) (m : BitVec w) (hm : m.toNat = 2 ^ k - 1) : BitVec.ofInt w v &&& m = BitVec.ofInt w (v % 2 ^ k) := by
  apply BitVec.eq_of_toNat_eq
  rw [BitVec.toNat_and, hm, BitVec.toNat_ofInt, BitVec.toNat_ofInt, Nat.and_two_pow_sub_one_eq_mod]
  have h1 : (2 : Int) ^ k ∣ ((2 ^ w : Nat) : Int) := by
    rw [Int.natCast_pow]
    exact ⟨2 ^ (w - k), by rw [← Int.pow_add]; congr 1; omega⟩
  have hp : (0 : Int) < 2 ^ k := Int.pow_pos (by decide)
  have hw : (0 : Int) < ((2 ^ w : Nat) : Int) := by exact_mod_cast Nat.pow_pos (n := w) (show 0 < 2 by decide)
  have h2 : (v % ((2 ^ w : Nat) : Int)) % 2 ^ k = v % 2 ^ k := Int.emod_emod_of_dvd v h1
  have h3 : 0 ≤ v % ((2 ^ w : Nat) : Int) := Int.emod_nonneg _ (by omega)
  have h4 : 0 ≤ v % 2 ^ k := Int.emod_nonneg _ (by omega)
  have h5 : v % 2 ^ k < 2 ^ k := Int.emod_lt_of_pos _ hp
  have h6 : (2 : Int) ^ k ≤ ((2 ^ w : Nat) : Int) := by
    rw [Int.natCast_pow]
    have := Nat.pow_le_pow_right (show 0 < 2 by decide) (show k ≤ w by omega)
    exact_mod_cast this
  have h7 : (v % 2 ^ k) % ((2 ^ w : Nat) : Int) = v % 2 ^ k := Int.emod_eq_of_lt h4 (by omega)
  rw [h7]
  have h8 : (((v % ((2 ^ w : Nat) : Int)).toNat % 2 ^ k : Nat) : Int) = v % 2 ^ k := by
    rw [Int.natCast_emod, Int.toNat_of_nonneg h3, Int.natCast_pow]
    exact h2
  omega
theorem l_and16 (v : Int) : jL v &&& 65535 = jL (v % 65536) := l_eq (and_mask v 16 (by decide) _ rfl)
theorem l_and32 (v : Int) : jL v &&& 4294967295 = jL (v % 4294967296) := l_eq (and_mask v 32 (by decide) _ rfl)
theorem i_and16 (v : Int) : Int32.ofInt v &&& 65535 = Int32.ofInt (v % 65536) := i_eq (and_mask v 16 (by decide) _ rfl)
theorem l_toInt_inj {a b : Int64} (h : a.toInt = b.toInt) : a = b := Int64.toInt_inj.mp h
theorem l_shr16 {v : Int} (h : jR v) : jL v >>> ((16 : Int32).toInt64 &&& 63) = jL (v / 65536) := by
  apply l_toInt_inj
  have h1 : jR (v / 65536) := by
    obtain ⟨q1, q2⟩ := h
    exact ⟨by omega, by omega⟩
  rw [jL_toInt h1]
  have e : (jL v >>> ((16 : Int32).toInt64 &&& 63)).toInt = (jL v).toInt >>> 16 := BitVec.toInt_sshiftRight
  rw [e, jL_toInt h, Int.shiftRight_eq_div_pow]
  rfl
theorem l_shr32 {v : Int} (h : jR v) : jL v >>> ((32 : Int32).toInt64 &&& 63) = jL (v / 4294967296) := by
  apply l_toInt_inj
  have h1 : jR (v / 4294967296) := by
    obtain ⟨q1, q2⟩ := h
    exact ⟨by omega, by omega⟩
  rw [jL_toInt h1]
  have e : (jL v >>> ((32 : Int32).toInt64 &&& 63)).toInt = (jL v).toInt >>> 32 := BitVec.toInt_sshiftRight
  rw [e, jL_toInt h, Int.shiftRight_eq_div_pow]
  rfl
/-- an int as a word without sign -/
def wd (x : Int32) : Int := x.toInt % 4294967296
theorem wd_range (x : Int32) : 0 ≤ wd x ∧ wd x < 4294967296 := by unfold wd; omega
theorem wd_i (v : Int) : wd (Int32.ofInt v) = v % 4294967296 := by
  unfold wd
  rw [Int32.toInt_ofInt]
  have : Int32.size = 4294967296 := rfl
  rw [this]
  exact Int.bmod_emod
theorem wd_inj {x y : Int32} (h : wd x = wd y) : x = y := by
  unfold wd at h
  have h1 := i32_B x
  have h2 := i32_B y
  apply Int32.toInt_inj.mp
  have a1 := Int32.le_toInt x
  have a2 := Int32.toInt_lt x
  have b1 := Int32.le_toInt y
  have b2 := Int32.toInt_lt y
  omega
theorem wd_neg (x : Int32) : x < 0 ↔ 2147483648 ≤ wd x := by
  unfold wd
  rw [Int32.lt_iff_toInt_lt]
  have a1 := Int32.le_toInt x
  have a2 := Int32.toInt_lt x
  have : (0 : Int32).toInt = 0 := rfl
  omega
theorem wd_0 (x : Int32) : x = 0 ↔ wd x = 0 := by
  constructor
  · rintro rfl; rfl
  · intro h; exact wd_inj (by rw [h]; rfl)
theorem wd_mask (x : Int32) : x.toInt64 &&& 4294967295 = jL (wd x) := by rw [i32_jL, l_and32]; rfl
theorem jL_i (v : Int) : (jL v).toInt32 = Int32.ofInt v := Int64.toInt32_ofInt
theorem wd_not (x : Int32) : wd (x ^^^ (-1 : Int32)) = 4294967295 - wd x := by
  have e : x ^^^ (-1 : Int32) = ~~~x := by
    apply i_eq
    rw [Int32.toBitVec_xor, Int32.toBitVec_not]
    have : (-1 : Int32).toBitVec = BitVec.allOnes 32 := by decide
    rw [this, BitVec.xor_allOnes]
  rw [e]
  have h := Int32.toInt_not x
  unfold wd
  rw [h]
  have a1 := Int32.le_toInt x
  have a2 := Int32.toInt_lt x
  have : Int32.size = 4294967296 := rfl
  first
    | omega
    | (rw [Int.bmod_def]; split <;> omega)
theorem i_shr31 (x : Int32) : x >>> ((31 : Int32) &&& 31) = if x < 0 then (-1 : Int32) else 0 := by
  apply Int32.toInt_inj.mp
  have e : (x >>> ((31 : Int32) &&& 31)).toInt = x.toInt >>> 31 := BitVec.toInt_sshiftRight
  rw [e, Int.shiftRight_eq_div_pow]
  have a1 := Int32.le_toInt x
  have a2 := Int32.toInt_lt x
  have z : (0 : Int32).toInt = 0 := rfl
  have z1 : (-1 : Int32).toInt = -1 := rfl
  have z2 : ((2 ^ 31 : Nat) : Int) = 2147483648 := rfl
  split
  · rename_i h
    rw [Int32.lt_iff_toInt_lt, z] at h
    rw [z1]
    omega
  · rename_i h
    rw [Int32.lt_iff_toInt_lt, z] at h
    rw [z]
    omega
/-! two's complement -/
theorem pl_head {B : Int} {r : Nat → Int} : ∀ n, pl B r (n + 1) = r 0 + B * pl B (fun j => r (j + 1)) n
  | 0 => by rw [pl, pl, pl]; simp
  | n + 1 => by
    have ih := pl_head (B := B) (r := r) n
    rw [pl, ih, pl, Int.pow_succ]
    generalize B ^ n = P
    grind
def rp (B : Int) (r : Nat → Int) (g : Nat) (z : Int) : Prop := (∀ j, j < g → 0 ≤ r j ∧ r j < B) ∧ (pl B r g = z ∨ pl B r g = z + B ^ g) ∧ -(B ^ g) ≤ 2 * z ∧ 2 * z < B ^ g
theorem rp_of {B : Int} {r : Nat → Int} {g : Nat} {z : Int} (hB : 1 ≤ B) (h1 : ∀ j, j < g → 0 ≤ r j ∧ r j < B) (h2 : ∃ c, pl B r g = z + c * B ^ g) (h3 : -(B ^ g) ≤ 2 * z) (h4 : 2 * z < B ^ g) : rp B r g z := by
  obtain ⟨q1, q2⟩ := pl_range hB g h1
  refine ⟨h1, ?_, h3, h4⟩
  obtain ⟨c, hc⟩ := h2
  generalize B ^ g = P at *
  have hP : 0 < P := by omega
  rcases (show c ≤ -1 ∨ c = 0 ∨ c = 1 ∨ 2 ≤ c by omega) with z1 | z1 | z1 | z1
  · have : c * P ≤ -1 * P := Int.mul_le_mul_of_nonneg_right z1 (by omega)
    omega
  · subst z1; left; omega
  · subst z1; right; omega
  · have : 2 * P ≤ c * P := Int.mul_le_mul_of_nonneg_right z1 (by omega)
    omega
theorem rp_congr {B : Int} {r s : Nat → Int} {g : Nat} {z : Int} (h : ∀ j, j < g → r j = s j) (hr : rp B r g z) : rp B s g z := by
  obtain ⟨h1, h2, h3, h4⟩ := hr
  refine ⟨fun j hj => by rw [← h j hj]; exact h1 j hj, ?_, h3, h4⟩
  rw [← pl_congr g h]
  exact h2
theorem rp_val {B : Int} {r : Nat → Int} {g : Nat} {z : Int} (hB : 1 ≤ B) (h : rp B r g z) : (0 ≤ z → pl B r g = z) ∧ (z < 0 → pl B r g = z + B ^ g) := by
  obtain ⟨h1, h2, h3, h4⟩ := h
  obtain ⟨q1, q2⟩ := pl_range hB g h1
  generalize B ^ g = P at *
  constructor <;> intro hz <;> omega
theorem rp_sign {B H : Int} {r : Nat → Int} {g : Nat} {z : Int} (hB : B = 2 * H) (hH : 1 ≤ H) (h : rp B r (g + 1) z) : H ≤ r g ↔ z < 0 := by
  obtain ⟨h1, h2, h3, h4⟩ := h
  obtain ⟨q1, q2⟩ := pl_range (r := r) (show 1 ≤ B by omega) g (fun j hj => h1 j (by omega))
  obtain ⟨q3, q4⟩ := h1 g (by omega)
  rw [pl, Int.pow_succ] at h2
  rw [Int.pow_succ] at h3 h4
  generalize hP : B ^ g = P at *
  have e : P * B = 2 * (H * P) := by rw [hB]; grind
  rw [e] at h2 h3 h4
  have p0 : 0 ≤ r g * P := Int.mul_nonneg q3 (by omega)
  have p1 : (r g + 1) * P ≤ B * P := Int.mul_le_mul_of_nonneg_right (by omega) (by omega)
  have p2 : (r g + 1) * P = r g * P + P := by grind
  have p3 : B * P = 2 * (H * P) := by rw [hB]; grind
  constructor
  · intro q
    have : H * P ≤ r g * P := Int.mul_le_mul_of_nonneg_right q (by omega)
    omega
  · intro q
    rcases (show H ≤ r g ∨ r g + 1 ≤ H by omega) with z1 | z1
    · exact z1
    · have : (r g + 1) * P ≤ H * P := Int.mul_le_mul_of_nonneg_right z1 (by omega)
      have e2 : (r g + 1) * P = r g * P + P := by grind
      omega
theorem rp_ext {B H : Int} {r s : Nat → Int} {g : Nat} {z : Int} (hB : B = 2 * H) (hH : 1 ≤ H) (h : rp B r g z) (hs : ∀ j, j < g → s j = r j) (hg : s g = if z < 0 then B - 1 else 0) : rp B s (g + 1) z := by
  have hv := rp_val (show 1 ≤ B by omega) h
  obtain ⟨h1, h2, h3, h4⟩ := h
  obtain ⟨q1, q2⟩ := pl_range (r := r) (show 1 ≤ B by omega) g h1
  have hpp : B ^ (g + 1) = 2 * (H * B ^ g) := by rw [Int.pow_succ, hB]; grind
  have hPP : B ^ g ≤ H * B ^ g := im_pos_mul hH (by omega)
  apply rp_of (show 1 ≤ B by omega)
  · intro j hj
    rcases (show j < g ∨ j = g by omega) with z1 | rfl
    · rw [hs j z1]; exact h1 j z1
    · rw [hg]; split <;> omega
  · rw [pl, pl_congr (s := r) g hs, hg]
    by_cases hz : z < 0
    · rw [if_pos hz, hv.2 hz, Int.pow_succ]
      exact ⟨1, by generalize B ^ g = P; grind⟩
    · rw [if_neg hz, hv.1 (by omega)]
      exact ⟨0, by omega⟩
  · omega
  · omega
theorem rp_top {r : Nat → Int} {m : Nat} {z : Int} (h : rp 65536 r (m + 3) z) :
    ((r (m + 2) = (if z < 0 then 65535 else 0) ∧ r (m + 1) = (if z < 0 then 65535 else 0) ∧ r m = (if z < 0 then 65535 else 0)) ↔ (-(65536 ^ m) ≤ z ∧ z < 65536 ^ m)) := by
  have hv := rp_val (by decide) h
  obtain ⟨h1, h2, h3, h4⟩ := h
  obtain ⟨q1, q2⟩ := pl_range (r := r) (show (1 : Int) ≤ 65536 by decide) m (fun j hj => h1 j (by omega))
  have d0 := h1 m (by omega)
  have d1 := h1 (m + 1) (by omega)
  have d2 := h1 (m + 2) (by omega)
  have e0 : pl 65536 r (m + 3) = pl 65536 r m + (r m + 65536 * r (m + 1) + 4294967296 * r (m + 2)) * 65536 ^ m := by
    have p1 : (65536 : Int) ^ (m + 1) = 65536 ^ m * 65536 := Int.pow_succ _ _
    have p2 : (65536 : Int) ^ (m + 1 + 1) = 65536 ^ m * 65536 * 65536 := by rw [Int.pow_succ, p1]
    rw [show m + 3 = m + 1 + 1 + 1 from rfl, pl, pl, pl, p2, p1]
    show pl 65536 r m + r m * 65536 ^ m + r (m + 1) * (65536 ^ m * 65536) + r (m + 2) * (65536 ^ m * 65536 * 65536) = _
    generalize (65536 : Int) ^ m = P
    grind
  have e1 : (65536 : Int) ^ (m + 3) = 281474976710656 * 65536 ^ m := by
    rw [show m + 3 = m + 1 + 1 + 1 from rfl, Int.pow_succ, Int.pow_succ, Int.pow_succ]
    generalize (65536 : Int) ^ m = P
    grind
  rw [e0, e1] at hv
  generalize (65536 : Int) ^ m = P at *
  generalize pl 65536 r m = Y at *
  obtain ⟨T, hT⟩ : ∃ T, T = r m + 65536 * r (m + 1) + 4294967296 * r (m + 2) := ⟨_, rfl⟩
  rw [← hT] at hv
  have hT0 : 0 ≤ T ∧ T < 281474976710656 := by omega
  by_cases hz : z < 0
  · rw [if_pos hz]
    have hv2 := hv.2 hz
    constructor
    · rintro ⟨a, b, c⟩
      have : T = 281474976710655 := by omega
      subst this
      omega
    · rintro ⟨a, b⟩
      have : T = 281474976710655 := by
        rcases (show T = 281474976710655 ∨ T ≤ 281474976710654 by omega) with z1 | z1
        · exact z1
        · have := Int.mul_le_mul_of_nonneg_right z1 (show 0 ≤ P by omega)
          omega
      omega
  · rw [if_neg hz]
    have hv2 := hv.1 (by omega)
    constructor
    · rintro ⟨a, b, c⟩
      have : T = 0 := by omega
      subst this
      omega
    · rintro ⟨a, b⟩
      have : T = 0 := by
        rcases (show T = 0 ∨ 1 ≤ T by omega) with z1 | z1
        · exact z1
        · have := Int.mul_le_mul_of_nonneg_right z1 (show 0 ≤ P by omega)
          omega
      omega
