/-! the numbers on the way round the ring -/
/-- a sum, in a form that the kernel reckons with -/
def sqs (f : Nat → Nat) (n : Nat) : Nat := Nat.rec 0 (fun i s => Nat.add s (f i)) n
theorem sqs_s (f : Nat → Nat) (n : Nat) : sqs f (n + 1) = sqs f n + f n := rfl
theorem sqs_0 (f : Nat → Nat) : sqs f 0 = 0 := rfl
theorem y_step {x y x1 t b e C C' R D : Int} (hx : 0 ≤ x) (h1 : x1 ≤ t * x + y) (hC : 0 ≤ C) (heR : 0 ≤ e + R) (ht : 2 * (C * t) = b + e) (hC' : 4 * (C * C') = D - e * e) (hR : D ≤ R * R) :
    (x1 * (e + R) + x * (2 * C')) * (2 * C) ≤ (x * (b + R) + y * (2 * C)) * (e + R) := by
  have k1 : (e + R) * (2 * C) * x1 ≤ (e + R) * (2 * C) * (t * x + y) := Int.mul_le_mul_of_nonneg_left h1 (Int.mul_nonneg heR (by omega))
  have k2 : 0 ≤ x * (R * R - D) := Int.mul_nonneg hx (by omega)
  have e1 : (x1 * (e + R) + x * (2 * C')) * (2 * C) = (e + R) * (2 * C) * x1 + x * (4 * (C * C')) := by grind
  have e2 : (e + R) * (2 * C) * (t * x + y) = (e + R) * (x * (2 * (C * t)) + 2 * C * y) := by grind
  have e3 : (x * (b + R) + y * (2 * C)) * (e + R) = (e + R) * (x * (b + e) + 2 * C * y) + x * (D - e * e) + x * (R * R - D) := by grind
  rw [e1, e3, hC']
  rw [e2, ht] at k1
  omega
theorem gprod (A B wn wd g : Nat → Nat) (E : Nat) : ∀ n, (∀ i, i < n → A (i + 1) * (B i * wd i) ≤ A i * (B (i + 1) * wn i)) → (∀ i, i < n → 0 < wd i ∧ wn i ^ E ≤ 2 ^ (g i) * wd i ^ E) → (∀ i, i ≤ n → 0 < B i) → A n ^ E * B 0 ^ E ≤ A 0 ^ E * B n ^ E * 2 ^ (sqs g n)
  | 0, _, _, _ => by rw [sqs_0]; omega
  | n + 1, h1, h2, h3 => by
    have ih := gprod A B wn wd g E n (fun i hi => h1 i (by omega)) (fun i hi => h2 i (by omega)) (fun i hi => h3 i (by omega))
    obtain ⟨d1, d2⟩ := h2 n (by omega)
    have k := Nat.pow_le_pow_left (h1 n (by omega)) E
    rw [Nat.mul_pow, Nat.mul_pow, Nat.mul_pow, Nat.mul_pow] at k
    have hW : 0 < wd n ^ E := Nat.pow_pos d1
    have hB : 0 < B n ^ E := Nat.pow_pos (h3 n (by omega))
    rw [sqs_s, Nat.pow_add]
    generalize A (n + 1) ^ E = a1 at *
    generalize A n ^ E = a at *
    generalize A 0 ^ E = a0 at *
    generalize B (n + 1) ^ E = b1 at *
    generalize B n ^ E = b at *
    generalize B 0 ^ E = b0 at *
    generalize wn n ^ E = u at *
    generalize wd n ^ E = v at *
    generalize (2 : Nat) ^ sqs g n = G at *
    generalize (2 : Nat) ^ g n = gg at *
    have k1 : a1 * (b * v) ≤ a * (b1 * (gg * v)) := Nat.le_trans k (Nat.mul_le_mul_left _ (Nat.mul_le_mul_left _ d2))
    have k2 : a1 * b ≤ a * b1 * gg := by
      apply Nat.le_of_mul_le_mul_right _ hW
      have e1 : a1 * b * v = a1 * (b * v) := by rw [Nat.mul_assoc]
      have e2 : a * b1 * gg * v = a * (b1 * (gg * v)) := by rw [Nat.mul_assoc, Nat.mul_assoc]
      rw [e1, e2]
      exact k1
    apply Nat.le_of_mul_le_mul_right _ hB
    have k3 : a1 * b * b0 ≤ a * b1 * gg * b0 := Nat.mul_le_mul_right _ k2
    have k4 : a * b0 * (b1 * gg) ≤ a0 * b * G * (b1 * gg) := Nat.mul_le_mul_right _ ih
    have e1 : a1 * b0 * b = a1 * b * b0 := by rw [Nat.mul_assoc, Nat.mul_comm b0 b, ← Nat.mul_assoc]
    have e2 : a * b1 * gg * b0 = a * b0 * (b1 * gg) := by
      rw [Nat.mul_assoc a b1 gg, Nat.mul_assoc, Nat.mul_comm (b1 * gg) b0, ← Nat.mul_assoc]
    have e3 : a0 * b * G * (b1 * gg) = a0 * b1 * (G * gg) * b := by
      simp only [Nat.mul_assoc, Nat.mul_comm, Nat.mul_left_comm]
    rw [e1, ← e3]
    rw [e2] at k3
    exact Nat.le_trans k3 k4
theorem lrg5 {R c : Int} (h1 : R ≤ 2 * c) (h2 : c ≤ R) (h0 : 0 ≤ c) : (R + c) * (R + c) * (R + c) * (R + c) * (R + c) ≤ 32 * (c * c * R * R * R) := by
  have hR : 0 ≤ R := by omega
  have e : 32 * (c * c * R * R * R) - (R + c) * (R + c) * (R + c) * (R + c) * (R + c) = (R - c) * (c * c * c * c + 6 * (c * c * c * R) + R * R * ((2 * c - R) * (8 * c + R))) := by grind
  have p1 : 0 ≤ c * c * c * c := Int.mul_nonneg (Int.mul_nonneg (Int.mul_nonneg h0 h0) h0) h0
  have p2 : 0 ≤ c * c * c * R := Int.mul_nonneg (Int.mul_nonneg (Int.mul_nonneg h0 h0) h0) hR
  have p3 : 0 ≤ R * R * ((2 * c - R) * (8 * c + R)) := Int.mul_nonneg (Int.mul_nonneg hR hR) (Int.mul_nonneg (by omega) (by omega))
  have p4 : 0 ≤ (R - c) * (c * c * c * c + 6 * (c * c * c * R) + R * R * ((2 * c - R) * (8 * c + R))) := Int.mul_nonneg (by omega) (by omega)
  omega
theorem lrg10 {R c : Nat} (h1 : R ≤ 2 * c) (h2 : c ≤ R) : ((R + c) ^ 2) ^ 5 * c ≤ R * (4 * (c * R)) ^ 5 := by
  have k := lrg5 (R := (R : Int)) (c := (c : Int)) (by omega) (by omega) (by omega)
  have k' : (R + c) ^ 5 ≤ 32 * (c * c * R * R * R) := by
    have e : (R + c) ^ 5 = (R + c) * (R + c) * (R + c) * (R + c) * (R + c) := by
      simp only [Nat.pow_succ, Nat.pow_zero, Nat.one_mul]
    rw [e]
    exact_mod_cast k
  have k2 := Nat.mul_le_mul k' k'
  have e1 : ((R + c) ^ 2) ^ 5 = (R + c) ^ 5 * (R + c) ^ 5 := by rw [← Nat.pow_mul, ← Nat.pow_add]
  have e2 : R * (4 * (c * R)) ^ 5 = 32 * (c * c * R * R * R) * (32 * (c * c * R * R * R)) * c := by
    simp only [Nat.pow_succ, Nat.pow_zero, Nat.one_mul]
    grind
  rw [e1, e2]
  exact Nat.mul_le_mul_right _ k2
/-- the weights in bits: a small last coefficient -/
theorem wt_small {R c hi lo : Nat} (hR : R ^ 256 ≤ 2 ^ hi) (hc : 2 ^ lo ≤ c ^ 256) (hlo : lo ≤ hi) : R ^ 1280 ≤ 2 ^ (5 * (hi - lo)) * c ^ 1280 := by
  have e1 : R ^ 1280 = (R ^ 256) ^ 5 := by rw [← Nat.pow_mul]
  have e2 : c ^ 1280 = (c ^ 256) ^ 5 := by rw [← Nat.pow_mul]
  have e3 : (2 : Nat) ^ (5 * (hi - lo)) = (2 ^ (hi - lo)) ^ 5 := by rw [← Nat.pow_mul, Nat.mul_comm]
  rw [e1, e2, e3, ← Nat.mul_pow]
  apply Nat.pow_le_pow_left
  have e4 : (2 : Nat) ^ hi = 2 ^ (hi - lo) * 2 ^ lo := by rw [← Nat.pow_add]; congr 1; omega
  have := Nat.mul_le_mul_left (2 ^ (hi - lo)) hc
  omega
theorem wt_large {R c hi lo : Nat} (h1 : R ≤ 2 * c) (h2 : c ≤ R) (hR : R ^ 256 ≤ 2 ^ hi) (hc : 2 ^ lo ≤ c ^ 256) (hlo : lo ≤ hi) : ((R + c) ^ 2) ^ 1280 ≤ 2 ^ (hi - lo) * (4 * (c * R)) ^ 1280 := by
  have k := Nat.pow_le_pow_left (lrg10 h1 h2) 256
  rw [Nat.mul_pow, Nat.mul_pow] at k
  have e1 : ((R + c) ^ 2) ^ 1280 = (((R + c) ^ 2) ^ 5) ^ 256 := by rw [← Nat.pow_mul ((R + c) ^ 2)]
  have e2 : (4 * (c * R)) ^ 1280 = ((4 * (c * R)) ^ 5) ^ 256 := by rw [← Nat.pow_mul (4 * (c * R))]
  rw [e1, e2]
  generalize (((R + c) ^ 2) ^ 5) ^ 256 = X at *
  generalize ((4 * (c * R)) ^ 5) ^ 256 = Z at *
  have e4 : (2 : Nat) ^ hi = 2 ^ (hi - lo) * 2 ^ lo := by rw [← Nat.pow_add]; congr 1; omega
  have hp : 0 < 2 ^ lo := Nat.pow_pos (by decide)
  apply Nat.le_of_mul_le_mul_right _ hp
  have k1 : X * 2 ^ lo ≤ X * c ^ 256 := Nat.mul_le_mul_left _ hc
  have k2 : R ^ 256 * Z ≤ 2 ^ hi * Z := Nat.mul_le_mul_right _ hR
  rw [e4] at k2
  have e5 : 2 ^ (hi - lo) * Z * 2 ^ lo = 2 ^ (hi - lo) * 2 ^ lo * Z := by rw [Nat.mul_assoc, Nat.mul_comm Z, ← Nat.mul_assoc]
  rw [e5]
  omega
def mdn (R a : Nat) : Nat := if 2 * a ≤ R then 1 else (R + a) ^ 2
def mnn (R a b : Nat) : Nat := if 2 * a ≤ R then 1 else 2 * R * (2 * a + R - b)
def wnn (R c : Nat) : Nat := if 2 * c ≤ R then R else (R + c) ^ 2
def wdn (R c : Nat) : Nat := if 2 * c ≤ R then c else 4 * (c * R)
theorem pot {R a b c e : Nat} (hb : b < R) (h1 : 2 * a ≤ R ∨ 2 * c ≤ R) (h2 : R < 2 * c → b + e = 2 * c) : (b + R) * mnn R a b * mdn R c * wdn R c ≤ 2 * c * mdn R a * mnn R c e * wnn R c := by
  unfold mnn mdn wdn wnn
  by_cases qa : 2 * a ≤ R <;> by_cases qc : 2 * c ≤ R
  · rw [if_pos qa, if_pos qc, if_pos qc, if_pos qa, if_pos qc, if_pos qc]
    have : (b + R) * c ≤ (2 * R) * c := Nat.mul_le_mul_right _ (by omega)
    have e1 : 2 * c * 1 * 1 * R = 2 * R * c := by grind
    rw [Nat.mul_one, Nat.mul_one, e1]
    exact this
  · rw [if_pos qa, if_neg qc, if_neg qc, if_pos qa, if_neg qc, if_neg qc]
    have e0 : 2 * c + R - e = b + R := by have := h2 (by omega); omega
    rw [e0]
    generalize (R + c) ^ 2 = X
    have e1 : (b + R) * 1 * X * (4 * (c * R)) = 2 * c * 1 * (2 * R * (b + R)) * X := by grind
    omega
  · rw [if_neg qa, if_pos qc, if_pos qc, if_neg qa, if_pos qc, if_pos qc]
    obtain ⟨u, hu⟩ : ∃ u, 2 * a + R - b = u := ⟨_, rfl⟩
    have k : (b + R) * u ≤ (R + a) ^ 2 := by
      have hu2 : u + b = 2 * a + R := by omega
      have z : (((b : Int) + R) * u) ≤ (R + a) * (R + a) := by
        have hz : (u : Int) = 2 * a + R - b := by omega
        rw [hz]
        have sq := im_sq0 ((a : Int) - b)
        have e : ((R : Int) + a) * (R + a) = (b + R) * (2 * a + R - b) + (a - b) * (a - b) := by grind
        omega
      rw [Nat.pow_two]
      exact_mod_cast z
    rw [hu]
    have k2 : (b + R) * u * (2 * R * c) ≤ (R + a) ^ 2 * (2 * R * c) := Nat.mul_le_mul_right _ k
    generalize (R + a) ^ 2 = X at *
    have e1 : (b + R) * (2 * R * u) * 1 * c = (b + R) * u * (2 * R * c) := by grind
    have e2 : 2 * c * X * 1 * R = X * (2 * R * c) := by grind
    omega
  · omega
/-- what is known of a reduced form and the next -/
theorem ringf {D w : Int} {g : Fm} (hF : fF D w g) (hD : 0 < D) (hr : fR D w g) (i : Nat) :
    1 ≤ (itn D w i g).2.1 ∧ (itn D w i g).2.1 ≤ w ∧ 1 ≤ mS (itn D w i g).1 ∧ mS (itn D w i g).1 ≤ w ∧ 1 ≤ mS (itn D w i g).2.2 ∧ 2 * mS (itn D w i g).2.2 ≤ w + (itn D w i g).2.1 ∧ 4 * (mS (itn D w i g).1 * mS (itn D w i g).2.2) = D - (itn D w i g).2.1 * (itn D w i g).2.1 ∧ D < (w + 1) * (w + 1) ∧ w < 2 * mS (itn D w i g).1 + (itn D w i g).2.1 := by
  have h1 := fF_itn i g hF
  have h2 := fR_itn hD i g hF hr
  obtain ⟨r1, r2, r3, r4, r5, r6, r7, r8, r9, r10⟩ := redP h1 hD h2
  have ha := mS_pos (mF_a h1)
  have hc := mS_pos (mF_c h1)
  exact ⟨r1, r2, by omega, by omega, by omega, by omega, r7, r10, r3⟩
theorem ring_t {D w : Int} {g : Fm} (hF : fF D w g) (hD : 0 < D) (hr : fR D w g) (i : Nat) : 2 * (mS (itn D w i g).2.2 * mS (mT D w (itn D w i g).2.1 (itn D w i g).2.2)) = (itn D w i g).2.1 + (itn D w (i + 1) g).2.1 := by
  have h1 := fF_itn i g hF
  have hc := mF_c h1
  have h := mT_eq D w (itn D w i g).2.1 (itn D w i g).2.2 hc
  obtain ⟨r1, -⟩ := ringf hF hD hr i
  obtain ⟨s1, -⟩ := ringf hF hD hr (i + 1)
  have e2 : (itn D w (i + 1) g).2.1 = mE D w (itn D w i g).2.1 (itn D w i g).2.2 := by rw [itn_s]
  rw [e2] at s1 ⊢
  have e : 2 * ((itn D w i g).2.2 * mT D w (itn D w i g).2.1 (itn D w i g).2.2) = (itn D w i g).2.1 + mE D w (itn D w i g).2.1 (itn D w i g).2.2 := by rw [h]; grind
  have h2 : mS (2 * ((itn D w i g).2.2 * mT D w (itn D w i g).2.1 (itn D w i g).2.2)) = (itn D w i g).2.1 + mE D w (itn D w i g).2.1 (itn D w i g).2.2 := by
    rw [e]
    unfold mS
    split <;> omega
  rw [mS_mul, mS_mul] at h2
  have : mS 2 = 2 := by decide
  rw [this] at h2
  exact h2
def yv (D w : Int) (g : Fm) (x y : Nat → Int) (i : Nat) : Int := x i * ((itn D w i g).2.1 + (w + 1)) + y i * (2 * mS (itn D w i g).2.2)
theorem ring_Y {D w : Int} {g : Fm} (hF : fF D w g) (hD : 0 < D) (hr : fR D w g) {x y : Nat → Int} (hg : gro D w g x y) (i : Nat) :
    yv D w g x y (i + 1) * (2 * mS (itn D w i g).2.2) ≤ yv D w g x y i * ((itn D w (i + 1) g).2.1 + (w + 1)) := by
  obtain ⟨a1, a2, a3, a4⟩ := hg i
  obtain ⟨r1, r2, r3, r4, r5, r6, r7, r8, -⟩ := ringf hF hD hr i
  obtain ⟨s1, s2, s3, s4, s5, s6, s7, s8, -⟩ := ringf hF hD hr (i + 1)
  have ht := ring_t hF hD hr i
  have e1 : (itn D w (i + 1) g).1 = (itn D w i g).2.2 := by rw [itn_s]
  rw [e1] at s7
  unfold yv
  rw [a4]
  exact y_step a1 a3 (by omega) (by omega) ht s7 (by omega)
theorem yv_0 {D w : Int} {g : Fm} (hF : fF D w g) (hD : 0 < D) (hr : fR D w g) {x y : Nat → Int} (hg : gro D w g x y) (i : Nat) : 0 ≤ yv D w g x y i ∧ x i * ((itn D w i g).2.1 + (w + 1)) ≤ yv D w g x y i := by
  obtain ⟨a1, a2, a3, a4⟩ := hg i
  obtain ⟨r1, r2, r3, r4, r5, r6, r7, r8, -⟩ := ringf hF hD hr i
  have p1 : 0 ≤ x i * ((itn D w i g).2.1 + (w + 1)) := Int.mul_nonneg a1 (by omega)
  have p2 : 0 ≤ y i * (2 * mS (itn D w i g).2.2) := Int.mul_nonneg a2 (by omega)
  unfold yv
  omega
theorem yv_1 {D w : Int} {g : Fm} (hF : fF D w g) (hD : 0 < D) (hr : fR D w g) {x y : Nat → Int} (hg : gro D w g x y) {Q : Int} (hx : x 0 ≤ Q) (hy : y 0 ≤ Q) : yv D w g x y 0 ≤ 2 * Q * ((itn D w 0 g).2.1 + (w + 1)) := by
  obtain ⟨a1, a2, a3, a4⟩ := hg 0
  obtain ⟨r1, r2, r3, r4, r5, r6, r7, r8, -⟩ := ringf hF hD hr 0
  have p1 : x 0 * ((itn D w 0 g).2.1 + (w + 1)) ≤ Q * ((itn D w 0 g).2.1 + (w + 1)) := Int.mul_le_mul_of_nonneg_right hx (by omega)
  have p2 : y 0 * (2 * mS (itn D w 0 g).2.2) ≤ y 0 * ((itn D w 0 g).2.1 + (w + 1)) := Int.mul_le_mul_of_nonneg_left (by omega) a2
  have p3 : y 0 * ((itn D w 0 g).2.1 + (w + 1)) ≤ Q * ((itn D w 0 g).2.1 + (w + 1)) := Int.mul_le_mul_of_nonneg_right hy (by omega)
  have e : 2 * Q * ((itn D w 0 g).2.1 + (w + 1)) = Q * ((itn D w 0 g).2.1 + (w + 1)) + Q * ((itn D w 0 g).2.1 + (w + 1)) := by grind
  unfold yv
  omega
abbrev aN (D w : Int) (g : Fm) (i : Nat) : Nat := (mS (itn D w i g).1).toNat
abbrev bN (D w : Int) (g : Fm) (i : Nat) : Nat := ((itn D w i g).2.1).toNat
abbrev cN (D w : Int) (g : Fm) (i : Nat) : Nat := (mS (itn D w i g).2.2).toNat
theorem aN_s (D w : Int) (g : Fm) (i : Nat) : aN D w g (i + 1) = cN D w g i := by
  have e1 : (itn D w (i + 1) g).1 = (itn D w i g).2.2 := by rw [itn_s]
  unfold aN cN
  rw [e1]
theorem mdn_pos {R a : Nat} (h : 0 < R) : 0 < mdn R a := by
  unfold mdn
  split
  · decide
  · exact Nat.pow_pos (by omega)
theorem mnn_md {R a b : Nat} (ha : a ≤ R) (hb : b < R) : 0 < mnn R a b ∧ mnn R a b ≤ 2 * mdn R a ∧ mdn R a ≤ 2 * mnn R a b := by
  unfold mnn mdn
  split
  · omega
  · rename_i h
    obtain ⟨u, hu⟩ : ∃ u, 2 * a + R - b = u := ⟨_, rfl⟩
    rw [hu]
    have hu1 : 2 * a ≤ u := by omega
    have hu2 : u ≤ 2 * a + R := by omega
    have p1 : 2 * R * u ≤ 2 * R * (2 * a + R) := Nat.mul_le_mul_left _ hu2
    have p2 : 2 * R * (2 * a) ≤ 2 * R * u := Nat.mul_le_mul_left _ hu1
    have e1 : (R + a) ^ 2 = R * R + 2 * (R * a) + a * a := by grind
    have e2 : 2 * R * (2 * a + R) = 4 * (R * a) + 2 * (R * R) := by grind
    have e3 : 2 * R * (2 * a) = 4 * (R * a) := by grind
    have p3 : a * a ≤ R * a := Nat.mul_le_mul_right _ ha
    have p4 : R * R ≤ R * (2 * a) := Nat.mul_le_mul_left _ (by omega)
    have e4 : R * (2 * a) = 2 * (R * a) := by grind
    have p5 : 0 < R * a := Nat.mul_pos (by omega) (by omega)
    refine ⟨by omega, by omega, by omega⟩
theorem nat_of {u v : Int} {m n : Nat} (hu : (m : Int) = u) (hv : (n : Int) = v) (h : u ≤ v) : m ≤ n := by omega
theorem ring_fin {E X bn dn b0 yn y0 d0 un u0 br Q L G : Nat} (hE : E ≠ 0) (hbn : 0 < bn) (hdn : 0 < dn) (hb0 : 0 < b0) (hbe0 : b0 = br * u0) (hn2 : X * bn ≤ yn) (h02 : y0 ≤ 2 * Q * br) (m2 : un ≤ 2 * dn) (m6 : d0 ≤ 2 * u0) (hG : G ≤ E * L)
    (key : (yn * dn) ^ E * b0 ^ E ≤ (y0 * d0) ^ E * (bn * un) ^ E * 2 ^ G) : X ≤ 8 * Q * 2 ^ L := by
  have s1 : X * bn * dn ≤ yn * dn := Nat.mul_le_mul_right _ hn2
  have s2 : y0 * d0 ≤ 4 * Q * b0 := by
    have z1 : y0 * d0 ≤ 2 * Q * br * d0 := Nat.mul_le_mul_right _ h02
    have z2 : 2 * Q * br * d0 ≤ 2 * Q * br * (2 * u0) := Nat.mul_le_mul_left _ m6
    have z3 : 2 * Q * br * (2 * u0) = 4 * Q * (br * u0) := by clear key; grind
    rw [hbe0]
    omega
  have s3 : bn * un ≤ 2 * (bn * dn) := by
    have z1 : bn * un ≤ bn * (2 * dn) := Nat.mul_le_mul_left _ m2
    have z2 : bn * (2 * dn) = 2 * (bn * dn) := by clear key; grind
    omega
  have s4 : (X * bn * dn * b0) ^ E ≤ (4 * Q * b0 * (2 * (bn * dn)) * 2 ^ L) ^ E := by
    rw [Nat.mul_pow (X * bn * dn), Nat.mul_pow (4 * Q * b0 * (2 * (bn * dn))), Nat.mul_pow (4 * Q * b0), ← Nat.pow_mul 2, Nat.mul_comm L E]
    have z1 := Nat.pow_le_pow_left s1 E
    have z2 := Nat.pow_le_pow_left s2 E
    have z3 := Nat.pow_le_pow_left s3 E
    have z4 : (2 : Nat) ^ G ≤ 2 ^ (E * L) := Nat.pow_le_pow_right (by decide) hG
    exact Nat.le_trans (Nat.mul_le_mul_right _ z1) (Nat.le_trans key (Nat.mul_le_mul (Nat.mul_le_mul z2 z3) z4))
  have s5 := (Nat.pow_le_pow_iff_left hE).mp s4
  have hpos : 0 < bn * dn * b0 := Nat.mul_pos (Nat.mul_pos hbn hdn) hb0
  apply Nat.le_of_mul_le_mul_right _ hpos
  clear s4 key
  generalize (2 : Nat) ^ L = T at *
  have e1 : X * (bn * dn * b0) = X * bn * dn * b0 := by grind
  have e2 : 8 * Q * T * (bn * dn * b0) = 4 * Q * b0 * (2 * (bn * dn)) * T := by grind
  rw [e1, e2]
  exact s5
set_option maxHeartbeats 1000000 in
theorem ringS {D w : Int} {g : Fm} (hF : fF D w g) (hD : 0 < D) (hr : fR D w g) {x y : Nat → Int} (hg : gro D w g x y) {Q W hi : Nat} {lo : Nat → Nat} (hx : x 0 ≤ (Q : Int)) (hy : y 0 ≤ (Q : Int))
    (hW : w + 1 ≤ (W : Int)) (hhi : W ^ 256 ≤ 2 ^ hi) (hlo : ∀ c : Nat, 1 ≤ c → c ≤ W → 2 ^ (lo c) ≤ c ^ 256 ∧ lo c ≤ hi) (n L : Nat)
    (hG : sqs (fun i => (if 2 * cN D w g i ≤ W then 5 else 1) * (hi - lo (cN D w g i))) n ≤ 1280 * L) : x n ≤ ((8 * Q * 2 ^ L : Nat) : Int) := by
  have w1 := mF_w hF
  obtain ⟨R, hR⟩ : ∃ R : Nat, (R : Int) = w + 1 := ⟨(w + 1).toNat, Int.toNat_of_nonneg (by omega)⟩
  have hA : ∀ i, ((aN D w g i : Nat) : Int) = mS (itn D w i g).1 := fun i => Int.toNat_of_nonneg (mS_0 _)
  have hB : ∀ i, ((bN D w g i : Nat) : Int) = (itn D w i g).2.1 := fun i => Int.toNat_of_nonneg (by have := (ringf hF hD hr i).1; omega)
  have hC : ∀ i, ((cN D w g i : Nat) : Int) = mS (itn D w i g).2.2 := fun i => Int.toNat_of_nonneg (mS_0 _)
  have hYv : ∀ i, (((yv D w g x y i).toNat : Nat) : Int) = yv D w g x y i := fun i => Int.toNat_of_nonneg (yv_0 hF hD hr hg i).1
  have fb : ∀ i, 1 ≤ bN D w g i ∧ bN D w g i < R := fun i => by
    obtain ⟨r1, r2, -⟩ := ringf hF hD hr i
    have := hB i
    omega
  have fa : ∀ i, 1 ≤ aN D w g i ∧ aN D w g i < R := fun i => by
    obtain ⟨-, -, r1, r2, -⟩ := ringf hF hD hr i
    have := hA i
    omega
  have fc : ∀ i, 1 ≤ cN D w g i ∧ cN D w g i < R := fun i => by
    obtain ⟨-, r0, -, -, r1, r2, -⟩ := ringf hF hD hr i
    have := hC i
    omega
  have fac : ∀ i, 2 * aN D w g i ≤ R ∨ 2 * cN D w g i ≤ R := fun i => by
    rcases (show 2 * aN D w g i ≤ R ∨ R < 2 * aN D w g i by omega) with z | z
    · exact Or.inl z
    rcases (show 2 * cN D w g i ≤ R ∨ R < 2 * cN D w g i by omega) with z2 | z2
    · exact Or.inr z2
    exfalso
    obtain ⟨r1, -, -, -, -, -, r7, r8, -⟩ := ringf hF hD hr i
    rw [← hA i, ← hC i, ← hB i] at r7
    rw [← hR] at r8
    have m1 : R * R ≤ (2 * aN D w g i) * (2 * cN D w g i) := Nat.mul_le_mul (by omega) (by omega)
    have m2 : (2 * aN D w g i) * (2 * cN D w g i) = 4 * (aN D w g i * cN D w g i) := by grind
    have m3 : ((R * R : Nat) : Int) ≤ ((4 * (aN D w g i * cN D w g i) : Nat) : Int) := by rw [← m2]; exact Int.ofNat_le.mpr m1
    rw [Int.natCast_mul, Int.natCast_mul, Int.natCast_mul] at m3
    have m4 := im_sq0 (bN D w g i : Int)
    have m5 : ((4 : Nat) : Int) = 4 := rfl
    rw [m5] at m3
    omega
  have fbe : ∀ i, R < 2 * cN D w g i → bN D w g i + bN D w g (i + 1) = 2 * cN D w g i := fun i hl => by
    have ht := ring_t hF hD hr i
    have t0 := mS_0 (mT D w (itn D w i g).2.1 (itn D w i g).2.2)
    have b0 := fb i
    have b1 := fb (i + 1)
    obtain ⟨t, hte⟩ : ∃ t : Nat, (t : Int) = mS (mT D w (itn D w i g).2.1 (itn D w i g).2.2) := ⟨_, Int.toNat_of_nonneg t0⟩
    rw [← hte, ← hC i, ← hB i, ← hB (i + 1)] at ht
    have ht' : 2 * (cN D w g i * t) = bN D w g i + bN D w g (i + 1) := by exact_mod_cast ht
    rcases (show t = 0 ∨ t = 1 ∨ 2 ≤ t by omega) with rfl | rfl | z
    · omega
    · omega
    · have : cN D w g i * 2 ≤ cN D w g i * t := Nat.mul_le_mul_left _ z
      omega
  have key := gprod (fun i => (yv D w g x y i).toNat * mdn R (aN D w g i)) (fun i => (bN D w g i + R) * mnn R (aN D w g i) (bN D w g i)) (fun i => wnn R (cN D w g i)) (fun i => wdn R (cN D w g i))
    (fun i => (if 2 * cN D w g i ≤ W then 5 else 1) * (hi - lo (cN D w g i))) 1280 n
    (fun i _ => by
      rw [aN_s]
      have hY := ring_Y hF hD hr hg i
      rw [← hYv i, ← hYv (i + 1), ← hC i, ← hB (i + 1), ← hR] at hY
      have hY' : (yv D w g x y (i + 1)).toNat * (2 * cN D w g i) ≤ (yv D w g x y i).toNat * (bN D w g (i + 1) + R) := by exact_mod_cast hY
      have hp := pot (R := R) (a := aN D w g i) (b := bN D w g i) (c := cN D w g i) (e := bN D w g (i + 1)) (fb i).2 (fac i) (fbe i)
      generalize (yv D w g x y (i + 1)).toNat = y1 at *
      generalize (yv D w g x y i).toNat = y0 at *
      generalize mnn R (aN D w g i) (bN D w g i) = k1 at *
      generalize mnn R (cN D w g i) (bN D w g (i + 1)) = k2 at *
      generalize mdn R (cN D w g i) = k3 at *
      generalize mdn R (aN D w g i) = k4 at *
      generalize wdn R (cN D w g i) = k5 at *
      generalize wnn R (cN D w g i) = k6 at *
      generalize cN D w g i = c at *
      generalize bN D w g i = b at *
      generalize bN D w g (i + 1) = e at *
      have z1 : y1 * ((b + R) * k1 * k3 * k5) ≤ y1 * (2 * c * k4 * k2 * k6) := Nat.mul_le_mul_left _ hp
      have z2 : y1 * (2 * c) * (k4 * k2 * k6) ≤ y0 * (e + R) * (k4 * k2 * k6) := Nat.mul_le_mul_right _ hY'
      have e1 : y1 * k3 * ((b + R) * k1 * k5) = y1 * ((b + R) * k1 * k3 * k5) := by grind
      have e2 : y1 * (2 * c * k4 * k2 * k6) = y1 * (2 * c) * (k4 * k2 * k6) := by grind
      have e3 : y0 * k4 * ((e + R) * k2 * k6) = y0 * (e + R) * (k4 * k2 * k6) := by grind
      rw [e1, e3]
      exact Nat.le_trans z1 (by rw [e2]; exact z2))
    (fun i _ => by
      obtain ⟨c1, c2⟩ := fc i
      obtain ⟨l1, l2⟩ := hlo (cN D w g i) c1 (by omega)
      have hR256 : R ^ 256 ≤ 2 ^ hi := Nat.le_trans (Nat.pow_le_pow_left (by omega) 256) hhi
      unfold wdn wnn
      by_cases q : 2 * cN D w g i ≤ R
      · rw [if_pos q, if_pos q, if_pos (show 2 * cN D w g i ≤ W by omega)]
        exact ⟨by omega, wt_small hR256 l1 l2⟩
      · rw [if_neg q, if_neg q]
        refine ⟨Nat.mul_pos (by decide) (Nat.mul_pos (by omega) (by omega)), ?_⟩
        have h5 := wt_large (R := R) (c := cN D w g i) (by omega) (by omega) hR256 l1 l2
        have h6 : hi - lo (cN D w g i) ≤ (if 2 * cN D w g i ≤ W then 5 else 1) * (hi - lo (cN D w g i)) := by split <;> omega
        exact Nat.le_trans h5 (Nat.mul_le_mul_right _ (Nat.pow_le_pow_right (by decide) h6)))
    (fun i _ => Nat.mul_pos (by have := fb i; omega) (mnn_md (by have := fa i; omega) (fb i).2).1)
  have hp0 : 0 ≤ x n := (hg n).1
  obtain ⟨X, hX⟩ : ∃ X : Nat, (X : Int) = x n := ⟨_, Int.toNat_of_nonneg hp0⟩
  rw [← hX]
  apply Int.ofNat_le.mpr
  have hn1 := (yv_0 hF hD hr hg n).2
  rw [← hYv n, ← hX, ← hB n, ← hR] at hn1
  have hn2 : X * (bN D w g n + R) ≤ (yv D w g x y n).toNat := by exact_mod_cast hn1
  have h01 := yv_1 hF hD hr hg hx hy
  rw [← hYv 0, ← hB 0, ← hR] at h01
  have h02 : (yv D w g x y 0).toNat ≤ 2 * Q * (bN D w g 0 + R) := by exact_mod_cast h01
  obtain ⟨m1, m2, m3⟩ := mnn_md (R := R) (a := aN D w g n) (b := bN D w g n) (by have := fa n; omega) (fb n).2
  obtain ⟨m4, m5, m6⟩ := mnn_md (R := R) (a := aN D w g 0) (b := bN D w g 0) (by have := fa 0; omega) (fb 0).2
  have m7 := mdn_pos (R := R) (a := aN D w g n) (by have := fb n; omega)
  have fbn := fb n
  have fb0 := fb 0
  exact ring_fin (E := 1280) (by decide) (show 0 < bN D w g n + R by omega) m7 (Nat.mul_pos (show 0 < bN D w g 0 + R by omega) m4) rfl hn2 h02 m2 m6 hG key
set_option maxHeartbeats 1000000 in
theorem ringE {D w : Int} {g : Fm} (hF : fF D w g) (hD : 0 < D) (hr : fR D w g) {x y : Nat → Int} (hg : gro D w g x y) {Q R : Nat} {lo hT : Nat → Nat} (hx : x 0 ≤ (Q : Int)) (hy : y 0 ≤ (Q : Int))
    (hR : (R : Int) = w + 1) (hhi : ∀ b : Nat, 1 ≤ b → b < R → (b + R) ^ 256 ≤ 2 ^ (hT (b + R))) (hlo : ∀ c : Nat, 1 ≤ c → c ≤ R → 2 ^ (lo c) ≤ c ^ 256) (n L : Nat)
    (hG : sqs (fun i => hT (bN D w g (i + 1) + R) - (256 + lo (cN D w g i))) n ≤ 256 * L) : x n ≤ ((8 * Q * 2 ^ L : Nat) : Int) := by
  have w1 := mF_w hF
  have hB : ∀ i, ((bN D w g i : Nat) : Int) = (itn D w i g).2.1 := fun i => Int.toNat_of_nonneg (by have := (ringf hF hD hr i).1; omega)
  have hC : ∀ i, ((cN D w g i : Nat) : Int) = mS (itn D w i g).2.2 := fun i => Int.toNat_of_nonneg (mS_0 _)
  have hYv : ∀ i, (((yv D w g x y i).toNat : Nat) : Int) = yv D w g x y i := fun i => Int.toNat_of_nonneg (yv_0 hF hD hr hg i).1
  have fb : ∀ i, 1 ≤ bN D w g i ∧ bN D w g i < R := fun i => by
    obtain ⟨r1, r2, -⟩ := ringf hF hD hr i
    have := hB i
    omega
  have fc : ∀ i, 1 ≤ cN D w g i ∧ cN D w g i < R := fun i => by
    obtain ⟨-, r0, -, -, r1, r2, -⟩ := ringf hF hD hr i
    have := hC i
    omega
  have key := gprod (fun i => (yv D w g x y i).toNat) (fun i => 1) (fun i => bN D w g (i + 1) + R) (fun i => 2 * cN D w g i)
    (fun i => hT (bN D w g (i + 1) + R) - (256 + lo (cN D w g i))) 256 n
    (fun i _ => by
      have hY := ring_Y hF hD hr hg i
      rw [← hYv i, ← hYv (i + 1), ← hC i, ← hB (i + 1), ← hR] at hY
      have hY' : (yv D w g x y (i + 1)).toNat * (2 * cN D w g i) ≤ (yv D w g x y i).toNat * (bN D w g (i + 1) + R) := by exact_mod_cast hY
      rw [Nat.one_mul, Nat.one_mul]
      exact hY')
    (fun i _ => by
      obtain ⟨c1, c2⟩ := fc i
      obtain ⟨b1, b2⟩ := fb (i + 1)
      refine ⟨by omega, ?_⟩
      have l1 := hlo (cN D w g i) c1 (by omega)
      have l2 := hhi (bN D w g (i + 1)) b1 b2
      rw [Nat.mul_pow]
      generalize hT (bN D w g (i + 1) + R) = h at *
      generalize lo (cN D w g i) = l at *
      have e1 : (2 : Nat) ^ h ≤ 2 ^ (h - (256 + l)) * 2 ^ (256 + l) := by
        rw [← Nat.pow_add]
        exact Nat.pow_le_pow_right (by decide) (by omega)
      have e2 : (2 : Nat) ^ (256 + l) ≤ 2 ^ 256 * cN D w g i ^ 256 := by
        rw [Nat.pow_add]
        exact Nat.mul_le_mul_left _ l1
      exact Nat.le_trans l2 (Nat.le_trans e1 (Nat.mul_le_mul_left _ e2)))
    (fun i _ => by decide)
  have hp0 : 0 ≤ x n := (hg n).1
  obtain ⟨X, hX⟩ : ∃ X : Nat, (X : Int) = x n := ⟨_, Int.toNat_of_nonneg hp0⟩
  rw [← hX]
  apply Int.ofNat_le.mpr
  have hn1 := (yv_0 hF hD hr hg n).2
  rw [← hYv n, ← hX, ← hB n, ← hR] at hn1
  have hn2 : X * (bN D w g n + R) ≤ (yv D w g x y n).toNat := by exact_mod_cast hn1
  have h01 := yv_1 hF hD hr hg hx hy
  rw [← hYv 0, ← hB 0, ← hR] at h01
  have h02 : (yv D w g x y 0).toNat ≤ 2 * Q * (bN D w g 0 + R) := by exact_mod_cast h01
  have fbn := fb n
  have fb0 := fb 0
  refine ring_fin (E := 256) (bn := bN D w g n + R) (dn := 1) (b0 := bN D w g 0 + R) (d0 := 1) (un := 2) (u0 := 1) (by decide) (by omega) (by decide) (by omega) (Nat.mul_one _).symm hn2 h02 (by decide) (by decide) hG ?_
  rw [Nat.mul_one, Nat.mul_one]
  rw [Nat.one_pow, Nat.mul_one, Nat.mul_one] at key
  have z : (bN D w g 0 + R) ^ 256 ≤ ((bN D w g n + R) * 2) ^ 256 := Nat.pow_le_pow_left (by omega) 256
  have z2 := Nat.mul_le_mul key z
  generalize ((bN D w g n + R) * 2) ^ 256 = p1 at *
  generalize (2 : Nat) ^ sqs (fun i => hT (bN D w g (i + 1) + R) - (256 + lo (cN D w g i))) n = p2 at *
  generalize (yv D w g x y 0).toNat ^ 256 = p3 at *
  have e : p3 * p1 * p2 = p3 * p2 * p1 := by rw [Nat.mul_assoc, Nat.mul_comm p1, ← Nat.mul_assoc]
  rw [e]
  exact z2
