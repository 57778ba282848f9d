/-! THE REFERENCE's rows -/
theorem nI_pl (a b : Nat) : nI a + nI b = nI (a + b) := (Int32.ofNat_add a b).symm
theorem nI_tm (a b : Nat) : nI a * nI b = nI (a * b) := (Int32.ofNat_mul a b).symm
theorem nI_mi {a b : Nat} (h : b ≤ a) : nI a - nI b = nI (a - b) := (Int32.ofNat_sub a b h).symm
theorem nI_not_neg {a : Nat} (h : a < 2147483648) : ¬ nI a < 0 := by
  intro q
  rw [Int32.lt_iff_toInt_lt, nI_toInt h] at q
  have : (0 : Int32).toInt = 0 := rfl
  omega
theorem g_get {n : Nat} {w : Nat → Int32} {i j : Nat} (hi : i < 6) (hj : j < 1100) : f_X3_get n w (nI i) (nI j) = some (w (1100 * i + j)) := by
  unfold f_X3_get
  have e : (1100 : Int32) * nI i + nI j = nI (1100 * i + j) := by rw [show (1100 : Int32) = nI 1100 from rfl, nI_tm, nI_pl]
  rw [e, nI_clamp (by omega), if_neg]
  rintro (h | h)
  · exact nI_not_neg (by omega) h
  · omega
theorem g_put {n : Nat} {w : Nat → Int32} {i j : Nat} {x : Int32} (hi : i < 6) (hj : j < 1100) : f_X3_put n w (nI i) (nI j) x = some (upd w (1100 * i + j) x) := by
  unfold f_X3_put
  have e : (1100 : Int32) * nI i + nI j = nI (1100 * i + j) := by rw [show (1100 : Int32) = nI 1100 from rfl, nI_tm, nI_pl]
  rw [e, nI_clamp (by omega), if_neg]
  rintro (h | h)
  · exact nI_not_neg (by omega) h
  · omega
/-- the digits of row i -/
abbrev dg (w : Nat → Int32) (i : Nat) (j : Nat) : Int := (w (1100 * i + j)).toInt
theorem i32_lt_lit {x : Int32} {c : Int32} : (c < x ↔ c.toInt < x.toInt) := Int32.lt_iff_toInt_lt
theorem i32_eq_iff {x y : Int32} : x = y ↔ x.toInt = y.toInt := Int32.toInt_inj.symm
theorem g_below {n : Nat} {w : Nat → Int32} {i g : Nat} {z : Int} (hi : i < 6) (hg : 1 ≤ g) (hg2 : g ≤ 1100) (h : rp 65536 (dg w i) g z) : f_X3_isBelow n (nI g) w (nI i) = some (if z < 0 then 1 else 0) := by
  unfold f_X3_isBelow
  rw [show (1 : Int32) = nI 1 from rfl, nI_mi hg, g_get hi (by omega), Option.bind_some]
  obtain ⟨g', rfl⟩ : ∃ g', g = g' + 1 := ⟨g - 1, by omega⟩
  have hs := rp_sign (B := 65536) (H := 32768) (by decide) (by decide) h
  rw [show g' + 1 - 1 = g' from rfl]
  have e : ((32767 : Int32) < w (1100 * i + g')) ↔ z < 0 := by
    rw [← hs, i32_lt_lit]
    have : (32767 : Int32).toInt = 32767 := rfl
    show _ ↔ 32768 ≤ (w (1100 * i + g')).toInt
    omega
  by_cases hz : z < 0
  · rw [if_pos (e.mpr hz), if_pos hz]
  · rw [if_neg (fun q => hz (e.mp q)), if_neg hz]
theorem g_room {n : Nat} {w : Nat → Int32} {i m : Nat} {z : Int} (hi : i < 6) (hg2 : m + 3 ≤ 1100) (h : rp 65536 (dg w i) (m + 3) z) : f_X3_hasRoom n (nI (m + 3)) w (nI i) = some (if -(65536 ^ m) ≤ z ∧ z < 65536 ^ m then 1 else 0) := by
  unfold f_X3_hasRoom
  have ht := rp_top h
  rw [g_below hi (by omega) hg2 h, Option.bind_some, show (1 : Int32) = nI 1 from rfl, show (2 : Int32) = nI 2 from rfl, show (3 : Int32) = nI 3 from rfl, nI_mi (by omega), nI_mi (by omega), nI_mi (by omega), g_get hi (by omega), g_get hi (by omega), g_get hi (by omega)]
  simp only [Option.bind_some]
  rw [show m + 3 - 1 = m + 2 from rfl, show m + 3 - 2 = m + 1 from rfl, show m + 3 - 3 = m from rfl]
  have c0 : ∀ x : Int32, x = 0 ↔ x.toInt = 0 := fun x => by rw [i32_eq_iff]; rfl
  have c1 : ∀ x : Int32, x = 65535 ↔ x.toInt = 65535 := fun x => by rw [i32_eq_iff]; rfl
  by_cases hz : z < 0
  · rw [if_pos hz, if_neg (show ¬ nI 1 = 0 by decide)]
    rw [if_pos hz] at ht
    by_cases a2 : w (1100 * i + (m + 2)) = 65535
    · rw [if_pos a2]
      by_cases a1 : w (1100 * i + (m + 1)) = 65535
      · rw [if_pos a1]
        by_cases a0 : w (1100 * i + m) = 65535
        · rw [if_pos a0, if_pos (ht.mp ⟨(c1 _).mp a2, (c1 _).mp a1, (c1 _).mp a0⟩)]
        · rw [if_neg a0, if_neg (fun q => a0 ((c1 _).mpr (ht.mpr q).2.2))]
      · rw [if_neg a1, if_neg (fun q => a1 ((c1 _).mpr (ht.mpr q).2.1))]
    · rw [if_neg a2, if_neg (fun q => a2 ((c1 _).mpr (ht.mpr q).1))]
  · rw [if_neg hz, if_pos rfl]
    rw [if_neg hz] at ht
    by_cases a2 : w (1100 * i + (m + 2)) = 0
    · rw [if_pos a2]
      by_cases a1 : w (1100 * i + (m + 1)) = 0
      · rw [if_pos a1]
        by_cases a0 : w (1100 * i + m) = 0
        · rw [if_pos a0, if_pos (ht.mp ⟨(c0 _).mp a2, (c0 _).mp a1, (c0 _).mp a0⟩)]
        · rw [if_neg a0, if_neg (fun q => a0 ((c0 _).mpr (ht.mpr q).2.2))]
      · rw [if_neg a1, if_neg (fun q => a1 ((c0 _).mpr (ht.mpr q).2.1))]
    · rw [if_neg a2, if_neg (fun q => a2 ((c0 _).mpr (ht.mpr q).1))]
theorem upd_at (w : Nat → Int32) (p : Nat) (x : Int32) : upd w p x p = x := if_pos rfl
theorem upd_ne (w : Nat → Int32) {p q : Nat} (x : Int32) (h : q ≠ p) : upd w p x q = w q := if_neg h
/-- combine: row a1 becomes t times row a2 and row a4 -/
theorem g_comb {n : Nat} {a1 a2 a4 g : Nat} {t : Int} (h1 : a1 < 6) (h2 : a2 < 6) (h4 : a4 < 6) (h12 : a2 ≠ a1) (h14 : a4 ≠ a1) (hg : g ≤ 1100) (ht1 : -4294967296 ≤ t) (ht2 : t ≤ 4294967296) :
    ∀ (d j K : Nat) (c : Int) (w : Nat → Int32), j + d = g → d < K → -8589934592 ≤ c → c ≤ 8589934592 → (∀ x, x < g → 0 ≤ dg w a2 x ∧ dg w a2 x < 65536) → (∀ x, x < g → 0 ≤ dg w a4 x ∧ dg w a4 x < 65536) →
      ∃ w', f_X3_combine_6 n K (nI g) (nI a1) (nI a2) (jL t) (nI a4) (jL c) (nI j) w = some w' ∧ (∀ p, (p < 1100 * a1 + j ∨ 1100 * a1 + g ≤ p) → w' p = w p) ∧ (∀ x, j ≤ x → x < g → 0 ≤ dg w' a1 x ∧ dg w' a1 x < 65536) ∧
        ∃ c', t * pl 65536 (fun x => dg w a2 (j + x)) d + pl 65536 (fun x => dg w a4 (j + x)) d + c = pl 65536 (fun x => dg w' a1 (j + x)) d + c' * 65536 ^ d
  | 0, j, K + 1, c, w, hj, hK, hc1, hc2, hr2, hr4 => by
    have : j = g := by omega
    subst this
    refine ⟨w, ?_, fun p _ => rfl, fun x q1 q2 => by omega, c, ?_⟩
    · rw [f_X3_combine_6, if_neg (fun q => by have := (nI_ltI (by omega) (by omega)).mp q; omega)]
    · rw [pl, pl, pl]; omega
  | d + 1, j, K + 1, c, w, hj, hK, hc1, hc2, hr2, hr4 => by
    obtain ⟨x1, x2⟩ := hr2 j (by omega)
    obtain ⟨y1, y2⟩ := hr4 j (by omega)
    obtain ⟨v, hv⟩ : ∃ v, v = t * dg w a2 j + dg w a4 j + c := ⟨_, rfl⟩
    have hb1 : t * dg w a2 j ≤ 4294967296 * dg w a2 j := Int.mul_le_mul_of_nonneg_right ht2 x1
    have hb2 : -4294967296 * dg w a2 j ≤ t * dg w a2 j := Int.mul_le_mul_of_nonneg_right ht1 x1
    have hvR : jR v := ⟨by omega, by omega⟩
    have ev : jL t * (w (1100 * a2 + j)).toInt64 + (w (1100 * a4 + j)).toInt64 + jL c = jL v := by
      rw [i32_jL, i32_jL, jL_mul, jL_add, jL_add, hv]
    have hm : (Int32.ofInt (v % 65536)).toInt = v % 65536 := Int32.toInt_ofInt_of_le (by omega) (by omega)
    have hn : ∀ a k, a ≠ a1 → k < 1100 → dg (upd w (1100 * a1 + j) (Int32.ofInt (v % 65536))) a k = dg w a k := fun a k q1 q2 => by
      show (upd w (1100 * a1 + j) (Int32.ofInt (v % 65536)) (1100 * a + k)).toInt = _
      rw [upd_ne _ _ (by omega)]
    obtain ⟨w', i1, i2, i3, c', i4⟩ := g_comb (n := n) h1 h2 h4 h12 h14 hg ht1 ht2 d (j + 1) K (v / 65536) (upd w (1100 * a1 + j) (Int32.ofInt (v % 65536))) (by omega) (by omega) (by omega) (by omega)
      (fun x hx => by rw [hn a2 x h12 (by omega)]; exact hr2 x hx) (fun x hx => by rw [hn a4 x h14 (by omega)]; exact hr4 x hx)
    have hat : dg w' a1 j = v % 65536 := by
      show (w' (1100 * a1 + j)).toInt = _
      rw [i2 _ (Or.inl (by omega)), upd_at, hm]
    refine ⟨w', ?_, ?_, ?_, c', ?_⟩
    · rw [f_X3_combine_6, if_pos (nI_lt (by omega) (by omega)), g_get h2 (by omega), Option.bind_some, g_get h4 (by omega), Option.bind_some, ev, l_and16, jL_i, l_shr16 hvR, g_put h1 (by omega), Option.bind_some, ← nI_succ]
      exact i1
    · intro p hp
      rw [i2 p (by omega), upd_ne _ _ (by omega)]
    · intro x q1 q2
      rcases (show x = j ∨ j + 1 ≤ x by omega) with rfl | z
      · rw [hat]; omega
      · exact i3 x z q2
    · rw [pl_head, pl_head, pl_head]
      have e2 : pl 65536 (fun x => dg w a2 (j + (x + 1))) d = pl 65536 (fun x => dg (upd w (1100 * a1 + j) (Int32.ofInt (v % 65536))) a2 (j + 1 + x)) d := pl_congr d (fun x hx => by rw [hn a2 _ h12 (by omega), show j + (x + 1) = j + 1 + x by omega])
      have e4 : pl 65536 (fun x => dg w a4 (j + (x + 1))) d = pl 65536 (fun x => dg (upd w (1100 * a1 + j) (Int32.ofInt (v % 65536))) a4 (j + 1 + x)) d := pl_congr d (fun x hx => by rw [hn a4 _ h14 (by omega), show j + (x + 1) = j + 1 + x by omega])
      have e1 : pl 65536 (fun x => dg w' a1 (j + (x + 1))) d = pl 65536 (fun x => dg w' a1 (j + 1 + x)) d := pl_congr d (fun x hx => by rw [show j + (x + 1) = j + 1 + x by omega])
      rw [e2, e4, e1, Int.pow_succ]
      show t * (dg w a2 j + _) + (dg w a4 j + _) + c = dg w' a1 j + _ + _
      rw [hat]
      have hdm : v = 65536 * (v / 65536) + v % 65536 := (Int.mul_ediv_add_emod v 65536).symm
      generalize pl 65536 (fun x => dg (upd w (1100 * a1 + j) (Int32.ofInt (v % 65536))) a2 (j + 1 + x)) d = A at *
      generalize pl 65536 (fun x => dg (upd w (1100 * a1 + j) (Int32.ofInt (v % 65536))) a4 (j + 1 + x)) d = Bq at *
      generalize pl 65536 (fun x => dg w' a1 (j + 1 + x)) d = Cq at *
      generalize (65536 : Int) ^ d = P at *
      generalize dg w a2 j = xx at *
      generalize dg w a4 j = yy at *
      generalize v / 65536 = vd at *
      generalize v % 65536 = vm at *
      clear i1 i2 i3 hn hr2 hr4
      grind
/-- negative: row a1 becomes minus row a2 (a1 = a2 is no case here) -/
theorem g_neg {n : Nat} {a1 a2 g : Nat} (h1 : a1 < 6) (h2 : a2 < 6) (h12 : a2 ≠ a1) (hg : g ≤ 1100) :
    ∀ (d j K : Nat) (c : Int) (w : Nat → Int32), j + d = g → d < K → 0 ≤ c → c ≤ 1 → (∀ x, x < g → 0 ≤ dg w a2 x ∧ dg w a2 x < 65536) →
      ∃ w', f_X3_negative_5 n K (nI g) (nI a1) (nI a2) (Int32.ofInt c) (nI j) w = some w' ∧ (∀ p, (p < 1100 * a1 + j ∨ 1100 * a1 + g ≤ p) → w' p = w p) ∧ (∀ x, j ≤ x → x < g → 0 ≤ dg w' a1 x ∧ dg w' a1 x < 65536) ∧
        ∃ c', (65536 ^ d - 1) - pl 65536 (fun x => dg w a2 (j + x)) d + c = pl 65536 (fun x => dg w' a1 (j + x)) d + c' * 65536 ^ d
  | 0, j, K + 1, c, w, hj, hK, hc1, hc2, hr2 => by
    have : j = g := by omega
    subst this
    refine ⟨w, ?_, fun p _ => rfl, fun x q1 q2 => by omega, c, ?_⟩
    · rw [f_X3_negative_5, if_neg (fun q => by have := (nI_ltI (by omega) (by omega)).mp q; omega)]
    · rw [pl, pl, Int.pow_zero]; omega
  | d + 1, j, K + 1, c, w, hj, hK, hc1, hc2, hr2 => by
    obtain ⟨x1, x2⟩ := hr2 j (by omega)
    obtain ⟨v, hv⟩ : ∃ v, v = 65535 - dg w a2 j + c := ⟨_, rfl⟩
    have ev : (65535 : Int32) - w (1100 * a2 + j) + Int32.ofInt c = Int32.ofInt v := by
      have q1 : w (1100 * a2 + j) = Int32.ofInt (dg w a2 j) := (Int32.ofInt_toInt _).symm
      rw [q1, hv, Int32.ofInt_add, Int32.ofInt_sub]
      rfl
    have hsh : Int32.ofInt v >>> ((16 : Int32) &&& 31) = Int32.ofInt (v / 65536) := by
      apply Int32.toInt_inj.mp
      have e : (Int32.ofInt v >>> ((16 : Int32) &&& 31)).toInt = (Int32.ofInt v).toInt >>> 16 := BitVec.toInt_sshiftRight
      rw [e, Int.shiftRight_eq_div_pow, Int32.toInt_ofInt_of_le (by omega) (by omega), Int32.toInt_ofInt_of_le (by omega) (by omega)]
      rfl
    have hm : (Int32.ofInt (v % 65536)).toInt = v % 65536 := Int32.toInt_ofInt_of_le (by omega) (by omega)
    have hn : ∀ a k, a ≠ a1 → k < 1100 → dg (upd w (1100 * a1 + j) (Int32.ofInt (v % 65536))) a k = dg w a k := fun a k q1 q2 => by
      show (upd w (1100 * a1 + j) (Int32.ofInt (v % 65536)) (1100 * a + k)).toInt = _
      rw [upd_ne _ _ (by omega)]
    obtain ⟨w', i1, i2, i3, c', i4⟩ := g_neg (n := n) h1 h2 h12 hg d (j + 1) K (v / 65536) (upd w (1100 * a1 + j) (Int32.ofInt (v % 65536))) (by omega) (by omega) (by omega) (by omega)
      (fun x hx => by rw [hn a2 x h12 (by omega)]; exact hr2 x hx)
    have hat : dg w' a1 j = v % 65536 := by
      show (w' (1100 * a1 + j)).toInt = _
      rw [i2 _ (Or.inl (by omega)), upd_at, hm]
    refine ⟨w', ?_, ?_, ?_, c', ?_⟩
    · rw [f_X3_negative_5, if_pos (nI_lt (by omega) (by omega)), g_get h2 (by omega), Option.bind_some, ev, i_and16, hsh, g_put h1 (by omega), Option.bind_some, ← nI_succ]
      exact i1
    · intro p hp
      rw [i2 p (by omega), upd_ne _ _ (by omega)]
    · intro x q1 q2
      rcases (show x = j ∨ j + 1 ≤ x by omega) with rfl | z
      · rw [hat]; omega
      · exact i3 x z q2
    · rw [pl_head, pl_head]
      have e2 : pl 65536 (fun x => dg w a2 (j + (x + 1))) d = pl 65536 (fun x => dg (upd w (1100 * a1 + j) (Int32.ofInt (v % 65536))) a2 (j + 1 + x)) d := pl_congr d (fun x hx => by rw [hn a2 _ h12 (by omega), show j + (x + 1) = j + 1 + x by omega])
      have e1 : pl 65536 (fun x => dg w' a1 (j + (x + 1))) d = pl 65536 (fun x => dg w' a1 (j + 1 + x)) d := pl_congr d (fun x hx => by rw [show j + (x + 1) = j + 1 + x by omega])
      rw [e2, e1, Int.pow_succ]
      show _ - (dg w a2 j + _) + c = dg w' a1 j + _ + _
      rw [hat]
      have hdm : v = 65536 * (v / 65536) + v % 65536 := (Int.mul_ediv_add_emod v 65536).symm
      generalize pl 65536 (fun x => dg (upd w (1100 * a1 + j) (Int32.ofInt (v % 65536))) a2 (j + 1 + x)) d = A at *
      generalize pl 65536 (fun x => dg w' a1 (j + 1 + x)) d = Cq at *
      generalize (65536 : Int) ^ d = P at *
      generalize dg w a2 j = xx at *
      generalize v / 65536 = vd at *
      generalize v % 65536 = vm at *
      clear i1 i2 i3 hn hr2
      grind
