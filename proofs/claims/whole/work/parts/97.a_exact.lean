/-! the same for one discriminant, with the middle coefficients -/
def gE (R b a : Nat) : Nat := Nat.sub (Nat.add (lLo (Nat.add b R)) 1) (Nat.add 256 (lLo a))
def cdE (D w : Int) (g : Fm) (i : Nat) : Nat := ((if (itn D w i g).1 < 0 then 1 else 0) * 2048 + bN D w g i / 2) * 2048 + aN D w g i
theorem cdE_inj {D w : Int} {g : Fm} (hF : fF D w g) (hD : 0 < D) (hr : fR D w g) {d v : Nat} (hd : (d : Int) = D) (hv : (v : Int) = w) (hv2 : v < 1024) (i j : Nat) (he : cdE D w g i = cdE D w g j) : itn D w i g = itn D w j g := by
  obtain ⟨b1, b2, a1, a2, a3, c1, h⟩ := ringN hF hD hr hd hv i
  obtain ⟨b1', b2', a1', a2', a3', c1', h'⟩ := ringN hF hD hr hd hv j
  obtain ⟨-, p1, -⟩ := par h rfl rfl
  obtain ⟨-, p1', -⟩ := par h' rfl rfl
  unfold cdE at he
  obtain ⟨q1, q2⟩ := pair_eq he (by omega) (by omega)
  obtain ⟨q3, q4⟩ := pair_eq q1 (by omega) (by omega)
  have hA : ((aN D w g i : Nat) : Int) = mS (itn D w i g).1 := Int.toNat_of_nonneg (mS_0 _)
  have hA' : ((aN D w g j : Nat) : Int) = mS (itn D w j g).1 := Int.toNat_of_nonneg (mS_0 _)
  have r1 := (redP (fF_itn i g hF) hD (fR_itn hD i g hF hr)).1
  have r1' := (redP (fF_itn j g hF) hD (fR_itn hD j g hF hr)).1
  have hB : ((bN D w g i : Nat) : Int) = (itn D w i g).2.1 := Int.toNat_of_nonneg (by omega)
  have hB' : ((bN D w g j : Nat) : Int) = (itn D w j g).2.1 := Int.toNat_of_nonneg (by omega)
  have ea : (itn D w i g).1 = (itn D w j g).1 := by
    by_cases z1 : (itn D w i g).1 < 0 <;> by_cases z2 : (itn D w j g).1 < 0
    · rcases im_S (itn D w i g).1 with ⟨s1, s2⟩ | ⟨s1, s2⟩ <;> rcases im_S (itn D w j g).1 with ⟨s3, s4⟩ | ⟨s3, s4⟩ <;> omega
    · rw [if_pos z1, if_neg z2] at q3
      omega
    · rw [if_neg z1, if_pos z2] at q3
      omega
    · rcases im_S (itn D w i g).1 with ⟨s1, s2⟩ | ⟨s1, s2⟩ <;> rcases im_S (itn D w j g).1 with ⟨s3, s4⟩ | ⟨s3, s4⟩ <;> omega
  exact fF_ab (fF_itn i g hF) (fF_itn j g hF) ea (by omega)
def tE (R v e m : Nat) : Nat := sqs (fun u => sqs (fun k => cond (Nat.beq (Nat.mod (Nat.sub m (Nat.add (Nat.mul u u) (Nat.mul e u))) (Nat.add (Nat.add (Nat.div (Nat.sub v (Nat.add (Nat.mul 2 u) e)) 2) 1) k)) 0) (gE R (Nat.add (Nat.mul 2 u) e) (Nat.add (Nat.add (Nat.div (Nat.sub v (Nat.add (Nat.mul 2 u) e)) 2) 1) k)) 0)
  (Nat.sub (Nat.div (Nat.add v (Nat.add (Nat.mul 2 u) e)) 2) (Nat.div (Nat.sub v (Nat.add (Nat.mul 2 u) e)) 2))) (Nat.add (Nat.div (Nat.sub v e) 2) 1)
theorem sqs_win {f : Nat → Nat} {L H N : Nat} (hL : L ≤ H) (hH : H < N) (h1 : ∀ a, a ≤ L → f a = 0) (h2 : ∀ a, H < a → f a = 0) : sqs f N = sqs (fun k => f (L + 1 + k)) (H - L) := by
  rw [show N = (L + 1 + (H - L)) + (N - (H + 1)) by omega, sqs_tail, sqs_add]
  · have : sqs f (0 + (L + 1)) = sqs f 0 := sqs_tail 0 (L + 1) (fun a _ ha => h1 a (by omega))
    rw [Nat.zero_add] at this
    rw [this, sqs_0, Nat.zero_add]
  · intro a h3 h4
    exact h2 a (by omega)
theorem cond_if {p : Prop} [Decidable p] {c : Bool} {x y : Nat} (h : c = true ↔ p) : cond c x y = if p then x else y := by
  by_cases hp : p
  · rw [if_pos hp, h.mpr hp]; rfl
  · rw [if_neg hp]
    cases c
    · rfl
    · exact absurd (h.mp rfl) hp
theorem ring_sumE {D w : Int} {g : Fm} (hF : fF D w g) (hD : 0 < D) (hr : fR D w g) {d v : Nat} (hd : (d : Int) = D) (hv : (v : Int) = w) (hv2 : v < 1024) (R : Nat) (n : Nat) (hdist : ∀ i j, i < j → j ≤ n → itn D w i g ≠ itn D w j g) :
    sqs (fun i => gE R (bN D w g (i + 1)) (cN D w g i)) n ≤ 2 * tE R v (d % 4) (d / 4) := by
  obtain ⟨b1, b2, a1, a2, a3, c1, h⟩ := ringN hF hD hr hd hv 0
  obtain ⟨he, -, -⟩ := par h rfl rfl
  have k := sqs_inj (N := 4096 * 2048) (h := fun i => cdE D w g (i + 1)) n
    (fun j => if 2 * (j / 2048 % 2048) + d % 4 ≤ v ∧ (v - (2 * (j / 2048 % 2048) + d % 4)) / 2 < j % 2048 ∧ j % 2048 ≤ (v + (2 * (j / 2048 % 2048) + d % 4)) / 2 ∧ (d / 4 - ((j / 2048 % 2048) * (j / 2048 % 2048) + (d % 4) * (j / 2048 % 2048))) % (j % 2048) = 0 then gE R (2 * (j / 2048 % 2048) + d % 4) (j % 2048) else 0)
    (fun i _ => by
      obtain ⟨b1, b2, a1, a2, a3, c1, h⟩ := ringN hF hD hr hd hv (i + 1)
      unfold cdE
      split <;> omega)
    (fun i j hij hj he => hdist (i + 1) (j + 1) (by omega) (by omega) (cdE_inj hF hD hr hd hv hv2 _ _ he))
  have e1 : sqs (fun i => gE R (bN D w g (i + 1)) (cN D w g i)) n = sqs (fun i => (fun j => if 2 * (j / 2048 % 2048) + d % 4 ≤ v ∧ (v - (2 * (j / 2048 % 2048) + d % 4)) / 2 < j % 2048 ∧ j % 2048 ≤ (v + (2 * (j / 2048 % 2048) + d % 4)) / 2 ∧ (d / 4 - ((j / 2048 % 2048) * (j / 2048 % 2048) + (d % 4) * (j / 2048 % 2048))) % (j % 2048) = 0 then gE R (2 * (j / 2048 % 2048) + d % 4) (j % 2048) else 0) (cdE D w g (i + 1))) n := by
    apply sqs_congr
    intro i hi
    obtain ⟨b1, b2, a1, a2, a3, c1, h⟩ := ringN hF hD hr hd hv (i + 1)
    obtain ⟨-, p1, p2⟩ := par h rfl rfl
    have q1 : cdE D w g (i + 1) / 2048 % 2048 = bN D w g (i + 1) / 2 := by
      unfold cdE
      split <;> omega
    have q2 : cdE D w g (i + 1) % 2048 = aN D w g (i + 1) := by
      unfold cdE
      split <;> omega
    have q3 : 2 * (bN D w g (i + 1) / 2) + d % 4 = bN D w g (i + 1) := by omega
    have q4 : d / 4 - (bN D w g (i + 1) / 2 * (bN D w g (i + 1) / 2) + d % 4 * (bN D w g (i + 1) / 2)) = aN D w g (i + 1) * cN D w g (i + 1) := by omega
    show gE R (bN D w g (i + 1)) (cN D w g i) = if _ then _ else _
    rw [q1, q2, q3, q4, if_pos ⟨b2, by omega, by omega, Nat.mul_mod_right _ _⟩, aN_s]
  rw [e1]
  refine Nat.le_trans k (Nat.le_of_eq ?_)
  rw [sqs_two, show (4096 : Nat) = 2 * 2048 from rfl, sqs_two]
  have e2 : ∀ s, sqs (fun u => sqs (fun j => (fun j => if 2 * (j / 2048 % 2048) + d % 4 ≤ v ∧ (v - (2 * (j / 2048 % 2048) + d % 4)) / 2 < j % 2048 ∧ j % 2048 ≤ (v + (2 * (j / 2048 % 2048) + d % 4)) / 2 ∧ (d / 4 - ((j / 2048 % 2048) * (j / 2048 % 2048) + (d % 4) * (j / 2048 % 2048))) % (j % 2048) = 0 then gE R (2 * (j / 2048 % 2048) + d % 4) (j % 2048) else 0) ((s * 2048 + u) * 2048 + j)) 2048) 2048 = tE R v (d % 4) (d / 4) := by
    intro s
    have e3 : ∀ u, u < 2048 → sqs (fun j => (fun j => if 2 * (j / 2048 % 2048) + d % 4 ≤ v ∧ (v - (2 * (j / 2048 % 2048) + d % 4)) / 2 < j % 2048 ∧ j % 2048 ≤ (v + (2 * (j / 2048 % 2048) + d % 4)) / 2 ∧ (d / 4 - ((j / 2048 % 2048) * (j / 2048 % 2048) + (d % 4) * (j / 2048 % 2048))) % (j % 2048) = 0 then gE R (2 * (j / 2048 % 2048) + d % 4) (j % 2048) else 0) ((s * 2048 + u) * 2048 + j)) 2048
          = sqs (fun a => if 2 * u + d % 4 ≤ v ∧ (v - (2 * u + d % 4)) / 2 < a ∧ a ≤ (v + (2 * u + d % 4)) / 2 ∧ (d / 4 - (u * u + (d % 4) * u)) % a = 0 then gE R (2 * u + d % 4) a else 0) 2048 := by
      intro u hu
      apply sqs_congr
      intro j hj
      have z1 : ((s * 2048 + u) * 2048 + j) / 2048 % 2048 = u := by omega
      have z2 : ((s * 2048 + u) * 2048 + j) % 2048 = j := by omega
      show (if _ then _ else _) = _
      rw [z1, z2]
    rw [sqs_congr 2048 e3, show (2048 : Nat) = ((v - d % 4) / 2 + 1) + (2048 - ((v - d % 4) / 2 + 1)) by omega, sqs_tail]
    · unfold tE
      apply sqs_congr
      intro u hu
      have hu2 : 2 * u + d % 4 ≤ v := by omega
      rw [← show (2048 : Nat) = ((v - d % 4) / 2 + 1) + (2048 - ((v - d % 4) / 2 + 1)) by omega, sqs_win (L := (v - (2 * u + d % 4)) / 2) (H := (v + (2 * u + d % 4)) / 2) (by omega) (by omega)]
      · apply sqs_congr
        intro j hj
        have hj2 : j < (v + (2 * u + d % 4)) / 2 - (v - (2 * u + d % 4)) / 2 := hj
        symm
        apply cond_if
        constructor
        · intro z
          exact ⟨hu2, by omega, by omega, Nat.eq_of_beq_eq_true z⟩
        · intro z
          exact (by rw [Nat.beq_eq]; exact z.2.2.2)
      · intro a ha
        rw [if_neg (fun y => by omega)]
      · intro a ha
        rw [if_neg (fun y => by omega)]
    · intro u h1 h2
      have : sqs (fun a => if 2 * u + d % 4 ≤ v ∧ (v - (2 * u + d % 4)) / 2 < a ∧ a ≤ (v + (2 * u + d % 4)) / 2 ∧ (d / 4 - (u * u + (d % 4) * u)) % a = 0 then gE R (2 * u + d % 4) a else 0) (0 + 2048) = sqs (fun a => if 2 * u + d % 4 ≤ v ∧ (v - (2 * u + d % 4)) / 2 < a ∧ a ≤ (v + (2 * u + d % 4)) / 2 ∧ (d / 4 - (u * u + (d % 4) * u)) % a = 0 then gE R (2 * u + d % 4) a else 0) 0 := by
        apply sqs_tail
        intro a _ _
        rw [if_neg (fun y => by omega)]
      rw [Nat.zero_add] at this
      rw [← show (2048 : Nat) = ((v - d % 4) / 2 + 1) + (2048 - ((v - d % 4) / 2 + 1)) by omega, this, sqs_0]
  rw [show (2 : Nat) = 0 + 1 + 1 from rfl, sqs_s, sqs_s, sqs_0, e2, e2]
  omega
def sqL (w0 n : Nat) : List Nat := (List.range n).map (fun i => (w0 + i) * (w0 + i))
def exD : List Nat := [1046809, 1035241, 1026481, 1028329, 1019209, 1008121, 1009969, 1014841, 1007161, 995569, 987529, 969049, 970369, 971569, 979969]
def okW (e w0 w1 : Nat) : Bool := okC e w1 (Nat.div (Nat.mul w0 w0) 4) (Nat.add (Nat.sub (Nat.div (Nat.mul w1 w1) 4) (Nat.div (Nat.mul w0 w0) 4)) 1) (exD ++ sqL w0 (w1 - w0 + 1))
