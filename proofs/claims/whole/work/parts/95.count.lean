/-! counting: a sum over different places is at most the sum over all places -/
theorem sqs_congr {f g : Nat → Nat} : ∀ n, (∀ i, i < n → f i = g i) → sqs f n = sqs g n
  | 0, _ => rfl
  | n + 1, h => by rw [sqs_s, sqs_s, sqs_congr n (fun i hi => h i (by omega)), h n (by omega)]
theorem sqs_le {f g : Nat → Nat} : ∀ n, (∀ i, i < n → f i ≤ g i) → sqs f n ≤ sqs g n
  | 0, _ => by rw [sqs_0]; omega
  | n + 1, h => by
    have := sqs_le n (fun i hi => h i (by omega))
    have := h n (by omega)
    rw [sqs_s, sqs_s]
    omega
theorem sqs_cut {f : Nat → Nat} (p : Nat) : ∀ n, p < n → sqs (fun j => if j = p then 0 else f j) n + f p = sqs f n
  | 0, h => by omega
  | n + 1, h => by
    rw [sqs_s, sqs_s]
    rcases (show p = n ∨ p < n by omega) with rfl | q
    · rw [if_pos rfl]
      have : sqs (fun j => if j = p then 0 else f j) p = sqs f p := sqs_congr p (fun i hi => by rw [if_neg (by omega)])
      omega
    · have := sqs_cut (f := f) p n q
      rw [if_neg (by omega)]
      omega
theorem sqs_inj {N : Nat} {h : Nat → Nat} : ∀ (n : Nat) (W : Nat → Nat), (∀ i, i < n → h i < N) → (∀ i j, i < j → j < n → h i ≠ h j) → sqs (fun i => W (h i)) n ≤ sqs W N
  | 0, W, _, _ => by rw [sqs_0]; omega
  | n + 1, W, h1, h2 => by
    have ih := sqs_inj n (fun j => if j = h n then 0 else W j) (fun i hi => h1 i (by omega)) (fun i j hij hj => h2 i j hij (by omega))
    have e : sqs (fun i => if h i = h n then 0 else W (h i)) n = sqs (fun i => W (h i)) n := sqs_congr n (fun i hi => by rw [if_neg (h2 i n hi (by omega))])
    have c := sqs_cut (f := W) (h n) N (h1 n (by omega))
    rw [sqs_s]
    omega
theorem sqs_add (f : Nat → Nat) (m : Nat) : ∀ n, sqs f (m + n) = sqs f m + sqs (fun j => f (m + j)) n
  | 0 => by rw [sqs_0]; rfl
  | n + 1 => by rw [← Nat.add_assoc, sqs_s, sqs_s, sqs_add f m n]; omega
theorem sqs_two (f : Nat → Nat) (B : Nat) : ∀ A, sqs f (A * B) = sqs (fun i => sqs (fun j => f (i * B + j)) B) A
  | 0 => by rw [Nat.zero_mul]; rfl
  | A + 1 => by
    rw [Nat.succ_mul, sqs_add, sqs_s, sqs_two f B A]
theorem sqs_tail {f : Nat → Nat} (m : Nat) : ∀ n, (∀ i, m ≤ i → i < m + n → f i = 0) → sqs f (m + n) = sqs f m
  | 0, _ => rfl
  | n + 1, h => by
    rw [← Nat.add_assoc, sqs_s, sqs_tail m n (fun i h1 h2 => h i h1 (by omega)), h (m + n) (by omega) (by omega)]
    omega
theorem sqs_mul (f : Nat → Nat) (c : Nat) : ∀ n, sqs (fun i => c * f i) n = c * sqs f n
  | 0 => by rw [sqs_0, sqs_0]; omega
  | n + 1 => by rw [sqs_s, sqs_s, sqs_mul f c n, Nat.mul_add]
/-- the number of roots -/
def rr (e a m : Nat) : Nat := sqs (fun b => if (b * b + e * b) % a = m % a then 1 else 0) a
/-- the place of a reduced form: sign, size of the first coefficient, rest of half the middle one -/
def cdS (D w : Int) (g : Fm) (i : Nat) : Nat := ((if (itn D w i g).1 < 0 then 1 else 0) * 2048 + aN D w g i) * 2048 + (bN D w g i / 2) % aN D w g i
theorem ringN {D w : Int} {g : Fm} (hF : fF D w g) (hD : 0 < D) (hr : fR D w g) {d v : Nat} (hd : (d : Int) = D) (hv : (v : Int) = w) (i : Nat) :
    1 ≤ bN D w g i ∧ bN D w g i ≤ v ∧ 1 ≤ aN D w g i ∧ 2 * aN D w g i ≤ v + bN D w g i ∧ v < 2 * aN D w g i + bN D w g i ∧ 1 ≤ cN D w g i ∧ 4 * (aN D w g i * cN D w g i) + bN D w g i * bN D w g i = d := by
  have h1 := fF_itn i g hF
  have h2 := fR_itn hD i g hF hr
  obtain ⟨r1, r2, r3, r4, r5, r6, r7, r8, r9, r10⟩ := redP h1 hD h2
  have ha := mS_pos (mF_a h1)
  have hc := mS_pos (mF_c h1)
  have hA : ((aN D w g i : Nat) : Int) = mS (itn D w i g).1 := Int.toNat_of_nonneg (mS_0 _)
  have hB : ((bN D w g i : Nat) : Int) = (itn D w i g).2.1 := Int.toNat_of_nonneg (by omega)
  have hC : ((cN D w g i : Nat) : Int) = mS (itn D w i g).2.2 := Int.toNat_of_nonneg (mS_0 _)
  refine ⟨by omega, by omega, by omega, by omega, by omega, by omega, ?_⟩
  rw [← hA, ← hB, ← hC] at r7
  have : ((4 * (aN D w g i * cN D w g i) + bN D w g i * bN D w g i : Nat) : Int) = (d : Int) := by
    rw [hd]
    push_cast
    omega
  exact_mod_cast this
theorem par {d b m e : Nat} {x : Nat} (h : 4 * x + b * b = d) (he : e = d % 4) (hm : m = d / 4) : (e = 0 ∨ e = 1) ∧ b % 2 = e ∧ x + ((b / 2) * (b / 2) + e * (b / 2)) = m := by
  obtain ⟨u, hu⟩ : ∃ u, u = b / 2 := ⟨_, rfl⟩
  rcases (show b % 2 = 0 ∨ b % 2 = 1 by omega) with z | z
  · have hb : b = 2 * u := by omega
    have hbb : b * b = 4 * (u * u) := by rw [hb]; grind
    rw [← hu]
    have : d % 4 = 0 := by omega
    have : e = 0 := by omega
    subst this
    omega
  · have hb : b = 2 * u + 1 := by omega
    have hbb : b * b = 4 * (u * u + u) + 1 := by rw [hb]; grind
    rw [← hu]
    have : d % 4 = 1 := by omega
    have : e = 1 := by omega
    subst this
    omega
theorem mod_sq {a u e : Nat} : ((u % a) * (u % a) + e * (u % a)) % a = (u * u + e * u) % a := by
  rw [Nat.add_mod, Nat.add_mod (u * u)]
  congr 1
  congr 1
  · rw [← Nat.mul_mod]
  · rw [Nat.mul_mod, Nat.mod_mod, ← Nat.mul_mod]
theorem cdS_root {D w : Int} {g : Fm} (hF : fF D w g) (hD : 0 < D) (hr : fR D w g) {d v : Nat} (hd : (d : Int) = D) (hv : (v : Int) = w) (i : Nat) :
    ((bN D w g i / 2 % aN D w g i) * (bN D w g i / 2 % aN D w g i) + (d % 4) * (bN D w g i / 2 % aN D w g i)) % aN D w g i = (d / 4) % aN D w g i := by
  obtain ⟨-, -, a1, -, -, -, h⟩ := ringN hF hD hr hd hv i
  obtain ⟨-, -, h3⟩ := par h rfl rfl
  rw [mod_sq, ← h3, Nat.mul_add_mod]
theorem div_mod_2048 {x y : Nat} (hy : y < 2048) : (x * 2048 + y) / 2048 = x ∧ (x * 2048 + y) % 2048 = y := by omega
theorem pair_eq {x y x' y' : Nat} (h : x * 2048 + y = x' * 2048 + y') (hy : y < 2048) (hy' : y' < 2048) : x = x' ∧ y = y' := by omega
theorem cdS_inj {D w : Int} {g : Fm} (hF : fF D w g) (hD : 0 < D) (hr : fR D w g) {d v : Nat} (hd : (d : Int) = D) (hv : (v : Int) = w) (hv2 : v < 1024) (i j : Nat) (he : cdS D w g i = cdS D w g j) : itn D w i g = itn D w j g := by
  obtain ⟨b1, b2, a1, a2, a3, c1, h⟩ := ringN hF hD hr hd hv i
  obtain ⟨b1', b2', a1', a2', a3', c1', h'⟩ := ringN hF hD hr hd hv j
  obtain ⟨-, p1, -⟩ := par h rfl rfl
  obtain ⟨-, p1', -⟩ := par h' rfl rfl
  have m1 : bN D w g i / 2 % aN D w g i < aN D w g i := Nat.mod_lt _ (by omega)
  have m1' : bN D w g j / 2 % aN D w g j < aN D w g j := Nat.mod_lt _ (by omega)
  unfold cdS at he
  have q1 : ((if (itn D w i g).1 < 0 then 1 else 0) * 2048 + aN D w g i) = ((if (itn D w j g).1 < 0 then 1 else 0) * 2048 + aN D w g j) := (pair_eq he (by omega) (by omega)).1
  have q2 : bN D w g i / 2 % aN D w g i = bN D w g j / 2 % aN D w g j := (pair_eq he (by omega) (by omega)).2
  have q3 : aN D w g i = aN D w g j ∧ ((itn D w i g).1 < 0 ↔ (itn D w j g).1 < 0) := by
    have l1 : aN D w g i < 2048 := by omega
    have l2 : aN D w g j < 2048 := by omega
    by_cases z1 : (itn D w i g).1 < 0 <;> by_cases z2 : (itn D w j g).1 < 0
    · rw [if_pos z1, if_pos z2] at q1
      exact ⟨by omega, by constructor <;> intro _ <;> assumption⟩
    · rw [if_pos z1, if_neg z2] at q1
      omega
    · rw [if_neg z1, if_pos z2] at q1
      omega
    · rw [if_neg z1, if_neg z2] at q1
      exact ⟨by omega, by constructor <;> intro h <;> contradiction⟩
  have hA : ((aN D w g i : Nat) : Int) = mS (itn D w i g).1 := Int.toNat_of_nonneg (mS_0 _)
  have hA' : ((aN D w g j : Nat) : Int) = mS (itn D w j g).1 := Int.toNat_of_nonneg (mS_0 _)
  have r1 := (redP (fF_itn i g hF) hD (fR_itn hD i g hF hr)).1
  have r1' := (redP (fF_itn j g hF) hD (fR_itn hD j g hF hr)).1
  have hB : ((bN D w g i : Nat) : Int) = (itn D w i g).2.1 := Int.toNat_of_nonneg (by omega)
  have hB' : ((bN D w g j : Nat) : Int) = (itn D w j g).2.1 := Int.toNat_of_nonneg (by omega)
  have ea : (itn D w i g).1 = (itn D w j g).1 := by
    have k := q3.2
    have k2 := q3.1
    rcases im_S (itn D w i g).1 with ⟨s1, s2⟩ | ⟨s1, s2⟩ <;> rcases im_S (itn D w j g).1 with ⟨s3, s4⟩ | ⟨s3, s4⟩ <;> omega
  have eb : bN D w g i = bN D w g j := by
    rw [← q3.1] at q2 a3' a2'
    obtain ⟨u, hu⟩ : ∃ u, u = bN D w g i / 2 := ⟨_, rfl⟩
    obtain ⟨u', hu'⟩ : ∃ u, u = bN D w g j / 2 := ⟨_, rfl⟩
    rw [← hu, ← hu'] at q2
    have e1 := Nat.div_add_mod u (aN D w g i)
    have e2 := Nat.div_add_mod u' (aN D w g i)
    rw [q2] at e1
    rcases (show u / aN D w g i = u' / aN D w g i ∨ u / aN D w g i + 1 ≤ u' / aN D w g i ∨ u' / aN D w g i + 1 ≤ u / aN D w g i by omega) with z | z | z
    · rw [z] at e1
      omega
    · have := Nat.mul_le_mul_left (aN D w g i) z
      rw [Nat.mul_add] at this
      omega
    · have := Nat.mul_le_mul_left (aN D w g i) z
      rw [Nat.mul_add] at this
      omega
  exact fF_ab (fF_itn i g hF) (fF_itn j g hF) ea (by omega)
/-- over a stretch of the ring a sum of weights of sizes is at most twice the sum over all sizes and roots -/
theorem ring_sum {D w : Int} {g : Fm} (hF : fF D w g) (hD : 0 < D) (hr : fR D w g) {d v : Nat} (hd : (d : Int) = D) (hv : (v : Int) = w) (hv2 : v < 1024) (V : Nat → Nat) (n : Nat) (hdist : ∀ i j, i < j → j ≤ n → itn D w i g ≠ itn D w j g) {W : Nat} (hW : v < W) (hW2 : W ≤ 1024) :
    sqs (fun i => V (cN D w g i)) n ≤ 2 * sqs (fun a => V (a + 1) * rr (d % 4) (a + 1) (d / 4)) (W - 1) := by
  have k := sqs_inj (N := 4096 * 2048) (h := fun i => cdS D w g (i + 1)) n
    (fun j => if 1 ≤ j / 2048 % 2048 ∧ j / 2048 % 2048 < W ∧ j % 2048 < j / 2048 % 2048 ∧ ((j % 2048) * (j % 2048) + (d % 4) * (j % 2048)) % (j / 2048 % 2048) = (d / 4) % (j / 2048 % 2048) then V (j / 2048 % 2048) else 0)
    (fun i _ => by
      obtain ⟨b1, b2, a1, a2, a3, c1, h⟩ := ringN hF hD hr hd hv (i + 1)
      have m1 : bN D w g (i + 1) / 2 % aN D w g (i + 1) < aN D w g (i + 1) := Nat.mod_lt _ (by omega)
      unfold cdS
      split <;> omega)
    (fun i j hij hj he => hdist (i + 1) (j + 1) (by omega) (by omega) (cdS_inj hF hD hr hd hv hv2 _ _ he))
  have e1 : sqs (fun i => V (cN D w g i)) n = sqs (fun i => (fun j => if 1 ≤ j / 2048 % 2048 ∧ j / 2048 % 2048 < W ∧ j % 2048 < j / 2048 % 2048 ∧ ((j % 2048) * (j % 2048) + (d % 4) * (j % 2048)) % (j / 2048 % 2048) = (d / 4) % (j / 2048 % 2048) then V (j / 2048 % 2048) else 0) (cdS D w g (i + 1))) n := by
    apply sqs_congr
    intro i hi
    obtain ⟨b1, b2, a1, a2, a3, c1, h⟩ := ringN hF hD hr hd hv (i + 1)
    have m1 : bN D w g (i + 1) / 2 % aN D w g (i + 1) < aN D w g (i + 1) := Nat.mod_lt _ (by omega)
    have q1 : cdS D w g (i + 1) / 2048 % 2048 = aN D w g (i + 1) := by
      unfold cdS
      split <;> omega
    have q2 : cdS D w g (i + 1) % 2048 = bN D w g (i + 1) / 2 % aN D w g (i + 1) := by
      unfold cdS
      split <;> omega
    have q3 := cdS_root hF hD hr hd hv (i + 1)
    show V (cN D w g i) = if _ then _ else _
    rw [q1, q2, if_pos ⟨a1, by omega, m1, q3⟩, aN_s]
  rw [e1]
  refine Nat.le_trans k (Nat.le_of_eq ?_)
  rw [sqs_two, show (4096 : Nat) = 2 * 2048 from rfl, sqs_two]
  have e2 : ∀ s, sqs (fun a => sqs (fun j => (fun j => if 1 ≤ j / 2048 % 2048 ∧ j / 2048 % 2048 < W ∧ j % 2048 < j / 2048 % 2048 ∧ ((j % 2048) * (j % 2048) + (d % 4) * (j % 2048)) % (j / 2048 % 2048) = (d / 4) % (j / 2048 % 2048) then V (j / 2048 % 2048) else 0) ((s * 2048 + a) * 2048 + j)) 2048) 2048 = sqs (fun a => V (a + 1) * rr (d % 4) (a + 1) (d / 4)) (W - 1) := by
    intro s
    have e3 : sqs (fun a => sqs (fun j => (fun j => if 1 ≤ j / 2048 % 2048 ∧ j / 2048 % 2048 < W ∧ j % 2048 < j / 2048 % 2048 ∧ ((j % 2048) * (j % 2048) + (d % 4) * (j % 2048)) % (j / 2048 % 2048) = (d / 4) % (j / 2048 % 2048) then V (j / 2048 % 2048) else 0) ((s * 2048 + a) * 2048 + j)) 2048) 2048
        = sqs (fun a => if 1 ≤ a ∧ a < W then V a * rr (d % 4) a (d / 4) else 0) 2048 := by
      apply sqs_congr
      intro a ha
      have e4 : sqs (fun j => (fun j => if 1 ≤ j / 2048 % 2048 ∧ j / 2048 % 2048 < W ∧ j % 2048 < j / 2048 % 2048 ∧ ((j % 2048) * (j % 2048) + (d % 4) * (j % 2048)) % (j / 2048 % 2048) = (d / 4) % (j / 2048 % 2048) then V (j / 2048 % 2048) else 0) ((s * 2048 + a) * 2048 + j)) 2048
          = sqs (fun j => if 1 ≤ a ∧ a < W ∧ j < a ∧ (j * j + (d % 4) * j) % a = (d / 4) % a then V a else 0) 2048 := by
        apply sqs_congr
        intro j hj
        have z1 : ((s * 2048 + a) * 2048 + j) / 2048 % 2048 = a := by omega
        have z2 : ((s * 2048 + a) * 2048 + j) % 2048 = j := by omega
        show (if _ then _ else _) = _
        rw [z1, z2]
      rw [e4]
      by_cases q : 1 ≤ a ∧ a < W
      · rw [if_pos q, rr, ← sqs_mul, show (2048 : Nat) = a + (2048 - a) by omega, sqs_tail]
        · apply sqs_congr
          intro j hj
          by_cases z : (j * j + (d % 4) * j) % a = (d / 4) % a
          · rw [if_pos ⟨q.1, q.2, hj, z⟩, if_pos z, Nat.mul_one]
          · rw [if_neg (fun y => z y.2.2.2), if_neg z, Nat.mul_zero]
        · intro j h1 h2
          rw [if_neg (fun y => by omega)]
      · rw [if_neg q]
        have : sqs (fun j => if 1 ≤ a ∧ a < W ∧ j < a ∧ (j * j + (d % 4) * j) % a = (d / 4) % a then V a else 0) (0 + 2048) = sqs (fun j => if 1 ≤ a ∧ a < W ∧ j < a ∧ (j * j + (d % 4) * j) % a = (d / 4) % a then V a else 0) 0 := by
          apply sqs_tail
          intro j h1 h2
          rw [if_neg (fun y => q ⟨y.1, y.2.1⟩)]
        rw [Nat.zero_add] at this
        rw [this, sqs_0]
    rw [e3, show (2048 : Nat) = (1 + (W - 1)) + (2048 - W) by omega, sqs_tail, sqs_add, sqs_s, sqs_0, if_neg (by omega), Nat.zero_add]
    · apply sqs_congr
      intro a ha
      rw [if_pos ⟨by omega, by omega⟩, Nat.add_comm 1 a]
    · intro a h1 h2
      rw [if_neg (fun y => by omega)]
  rw [show (2 : Nat) = 0 + 1 + 1 from rfl, sqs_s, sqs_s, sqs_0, e2, e2]
  omega
