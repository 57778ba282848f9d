/-- the matrix of the first i steps of a way, its inverse as both sides build it -/
def mxs (D w : Int) (f : Fm) : Nat → Int × Int × Int × Int
  | 0 => (1, 0, 0, 1)
  | i + 1 => (mT D w (itn D w i f).2.1 (itn D w i f).2.2 * (mxs D w f i).1 + (mxs D w f i).2.2.1, mT D w (itn D w i f).2.1 (itn D w i f).2.2 * (mxs D w f i).2.1 + (mxs D w f i).2.2.2, -(mxs D w f i).1, -(mxs D w f i).2.1)
theorem mxs_det (D w : Int) (f : Fm) : ∀ i, (mxs D w f i).1 * (mxs D w f i).2.2.2 - (mxs D w f i).2.1 * (mxs D w f i).2.2.1 = 1
  | 0 => by rw [mxs]; decide
  | i + 1 => by
    have ih := mxs_det D w f i
    rw [mxs]
    dsimp only
    grind
/-- places to the base B -/
def pl (B : Int) (r : Nat → Int) : Nat → Int
  | 0 => 0
  | n + 1 => pl B r n + r n * B ^ n
theorem pl_congr {B : Int} {r s : Nat → Int} : ∀ n, (∀ j, j < n → r j = s j) → pl B r n = pl B s n
  | 0, _ => rfl
  | n + 1, h => by
    rw [pl, pl, pl_congr n (fun j hj => h j (by omega)), h n (by omega)]
/-- a loop that carries: what went in is what came out and the last carry -/
theorem pl_carry {B : Int} {x out c : Nat → Int} : ∀ n, (∀ j, j < n → x j + c j = out j + B * c (j + 1)) → pl B x n + c 0 = pl B out n + c n * B ^ n
  | 0, _ => by rw [pl, pl]; grind
  | n + 1, h => by
    have ih := pl_carry n (fun j hj => h j (by omega))
    have hn := h n (by omega)
    rw [pl, pl, Int.pow_succ]
    generalize B ^ n = P at *
    grind
/-- places from 0 to B - 1: the number lies from 0 to B^n - 1 -/
theorem pl_range {B : Int} {r : Nat → Int} (hB : 1 ≤ B) : ∀ n, (∀ j, j < n → 0 ≤ r j ∧ r j < B) → 0 ≤ pl B r n ∧ pl B r n < B ^ n
  | 0, _ => by rw [pl]; exact ⟨by omega, by rw [Int.pow_zero]; decide⟩
  | n + 1, h => by
    obtain ⟨h1, h2⟩ := pl_range hB n (fun j hj => h j (by omega))
    obtain ⟨h3, h4⟩ := h n (by omega)
    rw [pl, Int.pow_succ]
    generalize B ^ n = P at *
    have h5 : 0 ≤ r n * P := Int.mul_nonneg h3 (by omega)
    have h6 : r n * P ≤ (B - 1) * P := Int.mul_le_mul_of_nonneg_right (by omega) (by omega)
    have e : (B - 1) * P = P * B - P := by grind
    omega
