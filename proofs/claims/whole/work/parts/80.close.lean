/-- a number for each reduced form of a discriminant above 0 -/
def fcode (w : Int) (f : Fm) : Nat := (2 * (f.2.1 / 2) * (f.2.1 / 2) + (2 * (mS f.1 - (w + 2 - f.2.1) / 2) + if f.1 < 0 then 1 else 0)).toNat
theorem fcode_lt {D w : Int} {f : Fm} (h : fF D w f) (hD : 0 < D) (hr : fR D w f) : fcode w f < 526338 := by
  obtain ⟨h1, h2, h3, h4, -⟩ := redP h hD hr
  have hw := (mF_w h).2
  unfold fcode
  have k0 : 0 ≤ f.2.1 / 2 := by omega
  have k1 : f.2.1 / 2 ≤ 512 := by omega
  have k2 := im_mono k0 k1
  have e : 2 * (f.2.1 / 2) * (f.2.1 / 2) = 2 * ((f.2.1 / 2) * (f.2.1 / 2)) := by grind
  rw [e]
  split <;> omega
theorem fcode_inj {D w : Int} {f g : Fm} (hf : fF D w f) (hg : fF D w g) (hD : 0 < D) (rf : fR D w f) (rg : fR D w g) (he : fcode w f = fcode w g) : f = g := by
  obtain ⟨a, b, c⟩ := f
  obtain ⟨a', b', c'⟩ := g
  obtain ⟨h1, h2, h3, h4, -, -, -, h8, -⟩ := redP hf hD rf
  obtain ⟨g1, g2, g3, g4, -, -, -, g8, -⟩ := redP hg hD rg
  have d1 := hf.1
  have d2 := hg.1
  dsimp only at h1 h2 h3 h4 h8 g1 g2 g3 g4 g8 d1 d2
  unfold fcode at he
  dsimp only at he
  have e1 : 2 * (b / 2) * (b / 2) = 2 * ((b / 2) * (b / 2)) := by grind
  have e2 : 2 * (b' / 2) * (b' / 2) = 2 * ((b' / 2) * (b' / 2)) := by grind
  rw [e1, e2] at he
  have q1 := im_sq0 (b / 2)
  have q2 := im_sq0 (b' / 2)
  have hu : b / 2 = b' / 2 := by
    rcases Int.lt_trichotomy (b / 2) (b' / 2) with z | z | z
    · have m := im_mono (show 0 ≤ b / 2 + 1 by omega) (show b / 2 + 1 ≤ b' / 2 by omega)
      have e3 : (b / 2 + 1) * (b / 2 + 1) = (b / 2) * (b / 2) + 2 * (b / 2) + 1 := by grind
      split at he <;> split at he <;> omega
    · exact z
    · have m := im_mono (show 0 ≤ b' / 2 + 1 by omega) (show b' / 2 + 1 ≤ b / 2 by omega)
      have e3 : (b' / 2 + 1) * (b' / 2 + 1) = (b' / 2) * (b' / 2) + 2 * (b' / 2) + 1 := by grind
      split at he <;> split at he <;> omega
  have hb : b = b' := by
    have x1 : b = 2 * (b / 2) + b % 2 := by omega
    have x2 : b' = 2 * (b' / 2) + b' % 2 := by omega
    have y1 : b * b = 4 * ((b / 2) * (b / 2)) + 4 * ((b / 2) * (b % 2)) + (b % 2) * (b % 2) := by
      conv => lhs; rw [x1]
      grind
    have y2 : b' * b' = 4 * ((b' / 2) * (b' / 2)) + 4 * ((b' / 2) * (b' % 2)) + (b' % 2) * (b' % 2) := by
      conv => lhs; rw [x2]
      grind
    have w1 : 4 * a * c = 4 * (a * c) := by grind
    have w2 : 4 * a' * c' = 4 * (a' * c') := by grind
    rcases (show b % 2 = 0 ∨ b % 2 = 1 by omega) with z1 | z1 <;> rcases (show b' % 2 = 0 ∨ b' % 2 = 1 by omega) with z2 | z2 <;> rw [z1] at y1 <;> rw [z2] at y2 <;> omega
  subst hb
  have ha : a = a' := by
    rcases im_S a with ⟨p1, p2⟩ | ⟨p1, p2⟩ <;> rcases im_S a' with ⟨s1, s2⟩ | ⟨s1, s2⟩ <;> (split at he <;> first | omega | (split at he <;> omega))
  subst ha
  have hc : c = c' := by
    have h0 : a ≠ 0 := by
      intro z
      subst z
      omega
    have : a * c = a * c' := by grind
    exact Int.eq_of_mul_eq_mul_left h0 this
  rw [hc]
theorem fR_itn {D w : Int} (hD : 0 < D) : ∀ (k : Nat) (f : Fm), fF D w f → fR D w f → fR D w (itn D w k f)
  | 0, _, _, r => r
  | k + 1, f, h, r => fR_itn hD k (nx D w f) (mF_next h) (red_next h hD r)
theorem nx_inj {D w : Int} {f g : Fm} (hf : fF D w f) (hg : fF D w g) (hD : 0 < D) (rf : fR D w f) (rg : fR D w g) (he : nx D w f = nx D w g) : f = g := by
  obtain ⟨a, b, c⟩ := f
  obtain ⟨a', b', c'⟩ := g
  have hc : c = c' := congrArg Prod.fst he
  have hE : mE D w b c = mE D w b' c' := congrArg (fun q => q.2.1) he
  obtain ⟨q1, q2⟩ := red_inj hf hg hD rf rg hc hE
  subst q1 q2 hc
  rfl
theorem itn_back {D w : Int} (hD : 0 < D) (d : Nat) : ∀ (i : Nat) (f : Fm), fF D w f → fR D w f → itn D w i f = itn D w (i + d) f → f = itn D w d f := by
  intro i
  induction i with
  | zero => intro f _ _ h; rw [Nat.zero_add] at h; exact h
  | succ i ih =>
    intro f h r e
    rw [show i + 1 + d = (i + d) + 1 by omega, itn_s, itn_s] at e
    exact ih f h r (nx_inj (fF_itn i f h) (fF_itn (i + d) f h) hD (fR_itn hD i f h r) (fR_itn hD (i + d) f h r) e)
/-- THE RING CLOSES -/
theorem ring_closes {D w : Int} {f : Fm} (h : fF D w f) (hD : 0 < D) (r : fR D w f) : ∃ p, 1 ≤ p ∧ p ≤ 526338 ∧ itn D w p f = f ∧ ∀ i, 1 ≤ i → i < p → itn D w i f ≠ f := by
  obtain ⟨i, j, h1, h2, h3⟩ := php 526338 (fun i => fcode w (itn D w i f)) (fun i _ => fcode_lt (fF_itn i f h) hD (fR_itn hD i f h r))
  have he := fcode_inj (fF_itn i f h) (fF_itn j f h) hD (fR_itn hD i f h r) (fR_itn hD j f h r) h3
  have hb := itn_back hD (j - i) i f h r (by rw [show i + (j - i) = j by omega]; exact he)
  obtain ⟨p, p1, p2⟩ := pk_least (fun k => 1 ≤ k ∧ itn D w k f = f) ⟨j - i, by omega, hb.symm⟩
  refine ⟨p, p1.1, ?_, p1.2, fun i i1 i2 i3 => p2 i i2 ⟨i1, i3⟩⟩
  rcases (show p ≤ j - i ∨ j - i < p by omega) with z | z
  · omega
  · exact absurd ⟨by omega, hb.symm⟩ (p2 (j - i) z)
