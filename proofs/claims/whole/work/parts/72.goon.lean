theorem im_xor {x y : Int64} (hy : ¬ y < 0) : (x ^^^ y) < 0 ↔ x < 0 := by
  have h0 : ∀ z : Int64, z < 0 ↔ z.toBitVec.msb = true := fun z => by
    show z.toBitVec.slt 0#64 = true ↔ _
    rw [BitVec.slt_zero_eq_msb]
  rw [h0, h0, Int64.toBitVec_xor, BitVec.msb_xor]
  have hm : y.toBitVec.msb = false := by
    cases h : y.toBitVec.msb
    · rfl
    · exact absurd ((h0 y).mpr h) hy
  rw [hm, Bool.xor_false]
theorem im_tmod_nonpos {x y : Int} (hx : x ≤ 0) : x.tmod y ≤ 0 := by
  have h1 : 0 ≤ (-x).tmod y := Int.tmod_nonneg y (by omega)
  rw [Int.neg_tmod] at h1
  omega
theorem p_floorMod {n : Nat} {x y : Int} (hx : jR x) (hy : jR y) (h0 : 0 < y) (hs : jR (x.tmod y + y)) : f_J9_floorMod_f86c9 n (jL x) (jL y) = some (jL (x % y)) := by
  have n0 : ¬ jL y = jL 0 := fun q => by have := (jL_eq hy jR_0).mp q; omega
  have ny : ¬ jL y < 0 := fun q => by rw [jL_0] at q; have := (jL_lt hy jR_0).mp q; omega
  have h1 := Int.tmod_lt_of_pos x h0
  have h2 := Int.lt_tmod_of_pos x h0
  have r1 : jR (x.tmod y) := by
    obtain ⟨a1, a2⟩ := hy
    exact ⟨by omega, by omega⟩
  have hem := im_emod (x := x) h0
  unfold f_J9_floorMod_f86c9
  rw [jL_rem hx hy, jL_add, jL_0, if_neg n0, ← jL_0]
  by_cases h : x < 0
  · rw [if_pos ((im_xor ny).mpr (by rw [jL_0]; exact (jL_lt hx jR_0).mpr h))]
    have h3 := im_tmod_nonpos (y := y) (show x ≤ 0 by omega)
    by_cases h4 : x.tmod y = 0
    · rw [jL_0, if_pos (by rw [h4]), hem, if_neg (by omega)]
    · rw [jL_0, if_neg (fun q => h4 ((jL_eq r1 jR_0).mp q)), hem, if_pos (by omega)]
  · rw [if_neg (fun q => h (by have := (im_xor ny).mp q; rw [jL_0] at this; exact (jL_lt hx jR_0).mp this))]
    have h3 : 0 ≤ x.tmod y := Int.tmod_nonneg y (by omega)
    rw [hem, if_neg (by omega)]
/-- the class's way to e where e lies about 0 -/
theorem im_mid {s b : Int} (hs : 0 < s) : (if s < (-b) % (2 * s) then (-b) % (2 * s) - 2 * s else (-b) % (2 * s)) = s - (s + b) % (2 * s) := by
  have h1 := Int.emod_nonneg (-b) (show 2 * s ≠ 0 by omega)
  have h2 := Int.emod_lt_of_pos (-b) (show 0 < 2 * s by omega)
  have h3 : -b = (-b) % (2 * s) + 2 * s * ((-b) / (2 * s)) := (Int.emod_add_mul_ediv (-b) (2 * s)).symm
  generalize (-b) % (2 * s) = q at *
  generalize (-b) / (2 * s) = k at *
  have h4 : s + b = (s - q) + 2 * s * (-k) := by
    have : 2 * s * (-k) = -(2 * s * k) := by grind
    omega
  by_cases h : s < q
  · rw [if_pos h, h4, Int.add_mul_emod_self_left, ← Int.add_emod_right, Int.emod_eq_of_lt (by omega) (by omega)]
    omega
  · rw [if_neg h, h4, Int.add_mul_emod_self_left, Int.emod_eq_of_lt (by omega) (by omega)]
    omega
theorem p_mid {n : Nat} {D w b c : Int} (hc0 : c ≠ 0) (hb : mB b) (hc : mB c) (hw1 : -1 ≤ w) (hw2 : w ≤ 1024) (hD1 : -1048576 ≤ D) (hD2 : D ≤ 1048576) : f_X0_nextMiddle n (jL b) (jL D) (jL w) (jL (mS c)) = some (jL (mE D w b c)) := by
  have hS := mB_S hc
  have hs := mS_pos hc0
  obtain ⟨b1, b2⟩ := hb
  have rD : jR D := ⟨by omega, by omega⟩
  have rw_ : jR w := ⟨by omega, by omega⟩
  have rs : jR (mS c) := ⟨by omega, by omega⟩
  have r2 : jR (2 * mS c) := ⟨by omega, by omega⟩
  have t1 := Int.tmod_lt_of_pos (-b) (show 0 < 2 * mS c by omega)
  have t2 := Int.lt_tmod_of_pos (-b) (show 0 < 2 * mS c by omega)
  have t3 := Int.tmod_lt_of_pos (w + b) (show 0 < 2 * mS c by omega)
  have t4 := Int.lt_tmod_of_pos (w + b) (show 0 < 2 * mS c by omega)
  have m1 := Int.emod_nonneg (-b) (show 2 * mS c ≠ 0 by omega)
  have m2 := Int.emod_lt_of_pos (-b) (show 0 < 2 * mS c by omega)
  have rq : jR ((-b) % (2 * mS c)) := ⟨by omega, by omega⟩
  have k1 : f_J9_floorMod_f86c9 n (jL (-b)) (jL (2 * mS c)) = some (jL ((-b) % (2 * mS c))) := p_floorMod ⟨by omega, by omega⟩ r2 (by omega) ⟨by omega, by omega⟩
  have k2 : f_J9_floorMod_f86c9 n (jL (w + b)) (jL (2 * mS c)) = some (jL ((w + b) % (2 * mS c))) := p_floorMod ⟨by omega, by omega⟩ r2 (by omega) ⟨by omega, by omega⟩
  have hmid := im_mid (b := b) hs
  unfold f_X0_nextMiddle
  simp only [jL_0, jL_1, jL_2, jL_mul, jL_add, jL_neg, k1, k2, Option.bind_some, jL_sub]
  rw [if_neg (fun q => by have := (jL_lt r2 ⟨by omega, by omega⟩).mp q; omega)]
  have fin : ∀ M, M = mS c → (if jL (mS c) < jL ((-b) % (2 * mS c)) then some (jL ((-b) % (2 * mS c) - 2 * mS c)) else some (jL ((-b) % (2 * mS c)))) = some (jL (M - (M + b) % (2 * mS c))) := by
    intro M hM
    subst hM
    rw [← hmid]
    by_cases h : mS c < (-b) % (2 * mS c)
    · rw [if_pos ((jL_lt rs rq).mpr h), if_pos h]
    · rw [if_neg (fun q => h ((jL_lt rs rq).mp q)), if_neg h]
  by_cases d0 : D < 0
  · rw [if_pos ((jL_lt rD jR_0).mpr d0)]
    exact fin (mM D w c) (by unfold mM; rw [if_pos (Or.inl d0)])
  · rw [if_neg (fun q => d0 ((jL_lt rD jR_0).mp q))]
    by_cases w0 : w < mS c
    · rw [if_pos ((jL_lt rw_ rs).mpr w0)]
      exact fin (mM D w c) (by unfold mM; rw [if_pos (Or.inr w0)])
    · rw [if_neg (fun q => w0 ((jL_lt rw_ rs).mp q))]
      have hm : mM D w c = w := by unfold mM; rw [if_neg (by omega)]
      unfold mE
      rw [hm]
set_option maxRecDepth 20000 in
/-- THE CLASS'S STEP is the reference's -/
theorem p_goOn {n : Nat} {D w a b c : Int} (h : mG D w a b c) : f_X0_goOn n (jL a) (jL b) (jL c) (jL D) (jL w) = some (jL (mT D w b c), jL c, jL (mE D w b c), jL (mC D w b c)) := by
  obtain ⟨hD, hc0, hb, hc, hw1, hw2, hD1, hD2⟩ := h
  have he := mE_B (D := D) (b := b) hc0 hc hw1 hw2
  have h2 := mE_dvd D w b c
  have h4 : 4 * c ∣ mE D w b c * mE D w b c - D := ⟨_, mC_dvd (w := w) hD hc0⟩
  have k1 := im_sq he.1 he.2
  have k0 := im_sq0 (mE D w b c)
  unfold f_X0_goOn
  rw [p_abs (mB_R hc), p_mid hc0 hb hc hw1 hw2 hD1 hD2, jL_0, if_neg (fun q => hc0 ((jL_eq (mB_R hc) jR_0).mp q)), Option.bind_some]
  obtain ⟨b1, b2⟩ := hb
  obtain ⟨c1, c2⟩ := hc
  obtain ⟨e1, e2⟩ := he
  have r3 : jR (2 * c) := ⟨by omega, by omega⟩
  have r4 : jR (4 * c) := ⟨by omega, by omega⟩
  have n3 : ¬ jL (2 * c) = jL 0 := fun q => by have := (jL_eq r3 jR_0).mp q; omega
  have n4 : ¬ jL (4 * c) = jL 0 := fun q => by have := (jL_eq r4 jR_0).mp q; omega
  unfold mC mT
  generalize mE D w b c = e at *
  simp only [jL_2, jL_4, jL_mul, jL_add, jL_sub]
  rw [if_neg n3, if_neg n4, jL_div ⟨by omega, by omega⟩ r3, jL_div ⟨by omega, by omega⟩ r4, Int.tdiv_eq_ediv_of_dvd h4, Int.tdiv_eq_ediv_of_dvd h2]
