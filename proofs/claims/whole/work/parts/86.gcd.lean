def gp : Nat → Nat × Nat
  | 0 => (1, 2)
  | k + 1 => ((gp k).2, (gp k).1 + (gp k).2)
def gg (k : Nat) : Nat := (gp k).1
theorem gg_s (k : Nat) : gg (k + 2) = gg k + gg (k + 1) := rfl
theorem gg_44 : 1073741824 < gg 44 := by decide +kernel
/-- Euclid's way, in at most so many steps -/
def eu : Nat → Nat → Nat → Option Nat
  | 0, _, _ => none
  | k + 1, x, y => if y = 0 then some x else eu k y (x % y)
theorem eu_main : ∀ k x y, y ≤ x → (x < gg k → eu (k + 1) x y = some (Nat.gcd x y)) ∧ (x < gg (k + 1) → eu (k + 2) x y = some (Nat.gcd x y)) := by
  intro k
  induction k with
  | zero =>
    intro x y h
    constructor
    · intro hx
      have h1 : x = 0 := by have : gg 0 = 1 := rfl; omega
      have h2 : y = 0 := by omega
      subst h1 h2
      rfl
    · intro hx
      have h1 : gg (0 + 1) = 2 := rfl
      rcases (show (x = 0 ∧ y = 0) ∨ (x = 1 ∧ y = 0) ∨ (x = 1 ∧ y = 1) by omega) with ⟨rfl, rfl⟩ | ⟨rfl, rfl⟩ | ⟨rfl, rfl⟩ <;> rfl
  | succ k ih =>
    intro x y h
    refine ⟨fun hx => (ih x y h).2 hx, fun hx => ?_⟩
    rw [eu]
    by_cases y0 : y = 0
    · rw [if_pos y0, y0, Nat.gcd_zero_right]
    · rw [if_neg y0]
      have hm : x % y < y := Nat.mod_lt x (by omega)
      have hg : Nat.gcd x y = Nat.gcd y (x % y) := by rw [Nat.gcd_comm, Nat.gcd_rec, Nat.gcd_comm]
      rw [hg]
      by_cases hy : y < gg (k + 1)
      · exact (ih y (x % y) (by omega)).2 hy
      · have hlt : x % y < gg k := by
          have h1 : x % y ≤ x - y := by
            have := Nat.mod_eq_sub_mod h
            rw [this]
            exact Nat.mod_le _ _
          have h2 : gg (k + 1 + 1) = gg k + gg (k + 1) := gg_s k
          omega
        rw [eu]
        by_cases z : x % y = 0
        · rw [if_pos z, z, Nat.gcd_zero_right]
        · rw [if_neg z]
          have hm2 : y % (x % y) < x % y := Nat.mod_lt y (by omega)
          have hg2 : Nat.gcd y (x % y) = Nat.gcd (x % y) (y % (x % y)) := by rw [Nat.gcd_comm y, Nat.gcd_rec, Nat.gcd_comm]
          rw [hg2]
          exact (ih (x % y) (y % (x % y)) (by omega)).1 hlt
theorem eu_46 {x y : Nat} (hx : x ≤ 1073741824) (hy : y ≤ 1073741824) : eu 46 x y = some (Nat.gcd x y) := by
  have hg := gg_44
  rw [eu]
  by_cases y0 : y = 0
  · rw [if_pos y0, y0, Nat.gcd_zero_right]
  · rw [if_neg y0]
    have hm : x % y < y := Nat.mod_lt x (by omega)
    have hgc : Nat.gcd x y = Nat.gcd y (x % y) := by rw [Nat.gcd_comm, Nat.gcd_rec, Nat.gcd_comm]
    rw [hgc]
    exact (eu_main 44 y (x % y) (by omega)).1 (by omega)
theorem p_gcd9 {n : Nat} : ∀ (m K i x y r : Nat), eu m x y = some r → m ≤ K → i + m ≤ 100 → x ≤ 2147483648 → y ≤ 2147483648 → f_X0_commonDivisor_9 n K (jL x) (jL y) (nI i) = some (jL r) := by
  intro m
  induction m with
  | zero => intro K i x y r h; cases h
  | succ m ih =>
    intro K i x y r h hK hi hx hy
    obtain ⟨K, rfl⟩ : ∃ K', K = K' + 1 := ⟨K - 1, by omega⟩
    have rx : jR (x : Int) := ⟨by omega, by omega⟩
    have ry : jR (y : Int) := ⟨by omega, by omega⟩
    rw [eu] at h
    rw [f_X0_commonDivisor_9, if_pos (show nI i < 100 from nI_lt (b := 100) (by omega) (by omega)), jL_rem rx ry, jL_0]
    by_cases y0 : y = 0
    · rw [if_pos y0] at h
      cases h
      rw [if_pos (by rw [y0]; rfl)]
    · rw [if_neg y0] at h
      have hne : ¬ jL (y : Int) = jL 0 := fun z => by have := (jL_eq ry jR_0).mp z; omega
      rw [if_neg hne, if_neg hne, nI_1]
      have e : ((x : Int).tmod (y : Int)) = ((x % y : Nat) : Int) := by
        rw [Int.tmod_eq_emod_of_nonneg (by omega)]
        omega
      rw [e]
      have hm : x % y < y := Nat.mod_lt x (by omega)
      exact ih K (i + 1) y (x % y) r h (by omega) (by omega) hy (by omega)
theorem mS_nat (p : Int) : mS p = (p.natAbs : Int) := by
  rcases im_S p with ⟨h, e⟩ | ⟨h, e⟩ <;> omega
theorem im_tmod_abs (p q : Int) : (p.tmod q).natAbs = p.natAbs % q.natAbs := Int.natAbs_tmod p q
theorem p_gcd3 {n : Nat} : ∀ (m K : Nat) (p q : Int) (r : Nat), eu m p.natAbs q.natAbs = some r → m ≤ K → mB p → mB q → f_X3_commonD n K (jL p) (jL q) = some (jL r) := by
  intro m
  induction m with
  | zero => intro K p q r h; cases h
  | succ m ih =>
    intro K p q r h hK hp hq
    obtain ⟨K, rfl⟩ : ∃ K', K = K' + 1 := ⟨K - 1, by omega⟩
    rw [eu] at h
    rw [f_X3_commonD, jL_rem (mB_R hp) (mB_R hq), jL_0]
    by_cases q0 : q.natAbs = 0
    · rw [if_pos q0] at h
      cases h
      have : q = 0 := by omega
      subst this
      rw [if_pos rfl, p_size (mB_R hp), mS_nat]
      rfl
    · rw [if_neg q0] at h
      have hne : ¬ jL q = jL 0 := fun z => by have := (jL_eq (mB_R hq) jR_0).mp z; omega
      rw [if_neg hne, if_neg hne]
      rw [← im_tmod_abs] at h
      have hb : mB (p.tmod q) := by
        have h1 := im_tmod_abs p q
        have h2 : p.natAbs % q.natAbs < q.natAbs := Nat.mod_lt _ (by omega)
        obtain ⟨b1, b2⟩ := hq
        exact ⟨by omega, by omega⟩
      rw [ih K q (p.tmod q) r h (by omega) hq hb]
      rfl
/-- BOTH SIDES' greatest divisor -/
theorem p_div0 {n : Nat} (hn : 100 ≤ n) {a b c : Int} (ha : mK a) (hb : mK b) (hc : mK c) : f_X0_greatestDivisor n (jL a) (jL b) (jL c) = some (Int32.ofInt (Nat.gcd (Nat.gcd a.natAbs b.natAbs) c.natAbs)) := by
  obtain ⟨a1, a2⟩ := ha
  obtain ⟨b1, b2⟩ := hb
  obtain ⟨c1, c2⟩ := hc
  have g1 : Nat.gcd a.natAbs b.natAbs ≤ 1073741824 := by
    rcases (show a.natAbs = 0 ∨ 0 < a.natAbs by omega) with z | z
    · rw [z, Nat.gcd_zero_left]; omega
    · have := Nat.gcd_le_left b.natAbs z; omega
  unfold f_X0_greatestDivisor f_X0_commonDivisor
  rw [p_abs ⟨by omega, by omega⟩, p_abs ⟨by omega, by omega⟩, p_abs ⟨by omega, by omega⟩, mS_nat, mS_nat, mS_nat, nI_00]
  rw [p_gcd9 46 n 0 a.natAbs b.natAbs _ (eu_46 (by omega) (by omega)) (by omega) (by omega) (by omega) (by omega), Option.bind_some]
  rw [p_gcd9 46 n 0 _ c.natAbs _ (eu_46 g1 (by omega)) (by omega) (by omega) (by omega) (by omega), Option.bind_some]
  rw [Int64.toInt32_ofInt]
theorem p_div3 {n : Nat} {a b c : Int} (ha : mK a) (hb : mK b) (hc : mK c) : (f_X3_common n (jL a) (jL b)).bind (fun r => f_X3_common n r (jL c)) = some (jL (Nat.gcd (Nat.gcd a.natAbs b.natAbs) c.natAbs)) := by
  obtain ⟨a1, a2⟩ := ha
  obtain ⟨b1, b2⟩ := hb
  obtain ⟨c1, c2⟩ := hc
  have g1 : Nat.gcd a.natAbs b.natAbs ≤ 1073741824 := by
    rcases (show a.natAbs = 0 ∨ 0 < a.natAbs by omega) with z | z
    · rw [z, Nat.gcd_zero_left]; omega
    · have := Nat.gcd_le_left b.natAbs z; omega
  unfold f_X3_common
  rw [p_gcd3 46 60 a b _ (eu_46 (by omega) (by omega)) (by omega) ⟨by omega, by omega⟩ ⟨by omega, by omega⟩, Option.bind_some]
  exact p_gcd3 46 60 _ c _ (by rw [Int.natAbs_natCast]; exact eu_46 g1 (by omega)) (by omega) ⟨by omega, by omega⟩ ⟨by omega, by omega⟩
