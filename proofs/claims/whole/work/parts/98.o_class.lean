/-- a residue as both sides give it -/
def rsd (z : Int) (q : Int32) : Int32 := if z < 0 ∧ mS z % q.toInt ≠ 0 then Int32.ofInt (q.toInt - mS z % q.toInt) else Int32.ofInt (mS z % q.toInt)
theorem rem_pos {a b : Int} (ha : jR a) (hb : jR b) (h0 : 0 ≤ a) : jL a - jL a / jL b * jL b = jL (a % b) := by
  rw [jL_rem ha hb, Int.tmod_eq_emod_of_nonneg h0]
theorem rem_full {a b : Int} (h0 : 0 ≤ a) (h1 : a ≤ 9223372036854775807) (hb : jR b) : jL a - jL a / jL b * jL b = jL (a % b) := by
  have e1 : Int64.minValue.toInt = -9223372036854775808 := rfl
  have e2 : Int64.maxValue.toInt = 9223372036854775807 := rfl
  have hd : jL a / jL b = jL (a.tdiv b) := (Int64.ofInt_tdiv (by rw [e1]; omega) (by rw [e2]; omega) (by rw [e1]; have := hb.1; omega) (by rw [e2]; have := hb.2; omega)).symm
  rw [hd, jL_mul, jL_sub, ← Int.tmod_eq_emod_of_nonneg h0, Int.tmod_def, Int.mul_comm]
theorem res_step {B d P m : Int} : ((P % m) * B + d) % m = (d + B * P) % m := by
  rw [Int.add_comm d, Int.mul_comm B P, Int.add_emod, Int.add_emod (P * B), Int.mul_emod, Int.mul_emod P, Int.emod_emod_of_dvd _ (Int.dvd_refl m)]
theorem g_res32 {n m0 : Nat} {v : Nat → Int32} {M : M4} {i s : Nat} {q : Int32} {c : Int32} (hm : m0 ≤ 514) (h : rows v (m0 + 3) M) (hi : i < 4) (hs : s ≤ m0 + 3) (hd : ∀ j, j < m0 + 3 → 0 ≤ dg v 4 j ∧ dg v 4 j < 65536) (hq : 1 ≤ q.toInt) :
    ∀ (j K : Nat), j ≤ s → j < K → ∃ x, x = (pl 65536 (dg v 4) s) % q.toInt ∧ f_X3_residue_32 n K (nI (m0 + 3)) (nI i) q (jL ((pl 65536 (fun x => dg v 4 (j + x)) (s - j)) % q.toInt)) (nI j - 1) v c
      = some (if m4 M i < 0 ∧ x ≠ 0 then (q.toInt64 - jL x).toInt32 else (jL x).toInt32, v, c)
  | j, 0, hj, hK => by omega
  | 0, K + 1, hj, hK => by
    have hq2 := Int32.toInt_lt q
    refine ⟨_, rfl, ?_⟩
    have e0 : pl 65536 (fun x => dg v 4 (0 + x)) (s - 0) = pl 65536 (dg v 4) s := by
      simp only [Nat.zero_add, Nat.sub_zero]
    rw [e0]
    have r0 := Int.emod_nonneg (pl 65536 (dg v 4) s) (show q.toInt ≠ 0 by omega)
    have r1 := Int.emod_lt_of_pos (pl 65536 (dg v 4) s) (show 0 < q.toInt by omega)
    rw [f_X3_residue_32, if_pos (show nI 0 - 1 < 0 by decide), g_below (by omega) (by omega) (by omega) (h i hi), Option.bind_some]
    generalize (pl 65536 (dg v 4) s) % q.toInt = x at *
    by_cases c1 : m4 M i < 0
    · rw [if_pos c1, if_neg o10]
      by_cases c2 : x = 0
      · rw [if_neg (fun y : (0 : Int64) < jL x => by
          have := (jL_lt jR_0 ⟨by omega, by omega⟩).mp y
          omega), if_neg (fun y => y.2 c2)]
      · rw [if_pos (show (0 : Int64) < jL x from (jL_lt jR_0 ⟨by omega, by omega⟩).mpr (by omega)), if_pos ⟨c1, c2⟩]
    · rw [if_neg c1, if_pos rfl, if_neg (fun y => c1 y.1)]
  | j + 1, K + 1, hj, hK => by
    have hq2 := Int32.toInt_lt q
    obtain ⟨x, hx, ih⟩ := g_res32 (n := n) (q := q) (c := c) hm h hi hs hd hq j K (by omega) (by omega)
    refine ⟨x, hx, ?_⟩
    have e1 : nI (j + 1) - 1 = nI j := by rw [show (1 : Int32) = nI 1 from rfl, nI_mi (by omega)]; rfl
    have e2 : nI j + (-1) = nI j - 1 := (Int32.sub_eq_add_neg _ _).symm
    have r0 := Int.emod_nonneg (pl 65536 (fun x => dg v 4 (j + 1 + x)) (s - (j + 1))) (show q.toInt ≠ 0 by omega)
    have r1 := Int.emod_lt_of_pos (pl 65536 (fun x => dg v 4 (j + 1 + x)) (s - (j + 1))) (show 0 < q.toInt by omega)
    obtain ⟨d0, d1⟩ : 0 ≤ (v (1100 * 4 + j)).toInt ∧ (v (1100 * 4 + j)).toInt < 65536 := hd j (by omega)
    have hpl : pl 65536 (fun x => dg v 4 (j + x)) (s - j) = dg v 4 j + 65536 * pl 65536 (fun x => dg v 4 (j + 1 + x)) (s - (j + 1)) := by
      rw [show s - j = s - (j + 1) + 1 by omega, pl_head]
      show dg v 4 j + _ = _
      congr 2
      exact pl_congr _ (fun x _ => by rw [show j + (x + 1) = j + 1 + x by omega])
    rw [f_X3_residue_32, e1, if_neg (nI_not_neg (by omega)), show (4 : Int32) = nI 4 from rfl, g_get (by decide) (by omega), Option.bind_some, i32_jL q, i32_jL]
    have hq0 : ¬ jL q.toInt = 0 := fun y => by
      have := (jL_eq (a := q.toInt) ⟨by omega, by omega⟩ jR_0).mp y
      omega
    rw [if_neg hq0, show (65536 : Int64) = jL 65536 from rfl, jL_mul, jL_add, rem_pos ⟨by omega, by omega⟩ ⟨by omega, by omega⟩ (by omega), e2]
    rw [hpl] at ih
    rw [i32_jL q] at ih
    rw [← res_step] at ih
    exact ih
theorem jL_i32 (z : Int) (q : Int32) (x : Int) (hx : x = mS z % q.toInt) : (if z < 0 ∧ x ≠ 0 then (q.toInt64 - jL x).toInt32 else (jL x).toInt32) = rsd z q := by
  subst hx
  unfold rsd
  rw [i32_jL, jL_sub, jL_i, jL_i]
theorem g_res {n m : Nat} (hn : 1200 ≤ n) {v : Nat → Int32} {M : M4} (hm : m ≤ 514) (h : rows v (m + 3) M) {i : Nat} (hi : i < 4) {q : Int32} (hq : 1 ≤ q.toInt) :
    ∃ v', f_X3_residue n (nI (m + 3)) v (nI i) q = some (rsd (m4 M i) q, v', 0) ∧ rows v' (m + 3) M := by
  obtain ⟨v', s, a1, a2, a3, a4, a5, a6, a7⟩ := g_sized hn hm h hi
  refine ⟨v', ?_, a2⟩
  unfold f_X3_residue
  rw [g_num hi, Option.bind_some]
  dsimp only
  rw [if_neg o10, if_neg (fun y : q < 1 => by rw [Int32.lt_iff_toInt_lt] at y; have : (1 : Int32).toInt = 1 := rfl; omega), a1, Option.bind_some]
  dsimp only
  obtain ⟨x, hx, hr⟩ := g_res32 (n := n) (c := 0) (q := q) hm a2 hi a3 a4 hq s n (by omega) (by omega)
  have e0 : (pl 65536 (fun x => dg v' 4 (s + x)) (s - s)) % q.toInt = 0 := by
    rw [Nat.sub_self, pl]; exact Int.zero_emod _
  rw [e0] at hr
  have hr' : f_X3_residue_32 n n (nI (m + 3)) (nI i) q 0 (nI s - 1) v' 0 = _ := hr
  rw [hr', jL_i32 (m4 M i) q x (by rw [hx, ← a5, pl_top (by decide) a3 a4 a6])]
/-! the answers of the matrix: THE CLASS -/
theorem ix4 {i : Nat} (h : i < 4) : ¬ (nI i < 0 ∨ 4 ≤ (nI i).toNatClampNeg) := by
  rw [nI_clamp (by omega)]
  rintro (q | q)
  · exact nI_not_neg (by omega) q
  · omega
theorem u_shr {x : Int32} {u : Nat} (hu : u < 32) : ((x.toUInt32 >>> ((nI u).toUInt32 &&& Int32.toUInt32 31)).toInt32 = 0) ↔ wd x < 2 ^ u := by
  have hw : wd x = (x.toBitVec.toNat : Int) := by
    unfold wd
    have : x.toInt = x.toBitVec.toInt := rfl
    rw [this, BitVec.toInt_eq_toNat_bmod]
    have k : ((x.toBitVec.toNat : Int).bmod (2 ^ 32)) % ((2 ^ 32 : Nat) : Int) = (x.toBitVec.toNat : Int) % ((2 ^ 32 : Nat) : Int) := Int.bmod_emod
    have c : ((2 ^ 32 : Nat) : Int) = 4294967296 := rfl
    rw [c] at k
    rw [k]
    have := x.toBitVec.isLt
    omega
  have hsh : ∀ u, u < 32 → (x.toUInt32 >>> ((nI u).toUInt32 &&& Int32.toUInt32 31)).toInt32.toBitVec = x.toBitVec >>> u := by
    intro u hu
    have : ∀ u : Fin 32, ∀ y : Int32, (y.toUInt32 >>> ((nI u.val).toUInt32 &&& Int32.toUInt32 31)).toInt32.toBitVec = y.toBitVec >>> u.val := by
      intro u y
      have e : ((nI u.val).toUInt32 &&& Int32.toUInt32 31).toBitVec % 32 = BitVec.ofNat 32 u.val := by
        revert u; decide
      show y.toBitVec >>> (((nI u.val).toUInt32 &&& Int32.toUInt32 31).toBitVec % 32) = _
      rw [e]
      show y.toBitVec >>> (BitVec.ofNat 32 u.val).toNat = _
      congr 1
      revert u; decide
    exact this ⟨u, hu⟩ x
  have e0 : ((x.toUInt32 >>> ((nI u).toUInt32 &&& Int32.toUInt32 31)).toInt32 = 0) ↔ x.toBitVec >>> u = 0#32 := by
    rw [← hsh u hu]
    constructor
    · intro y; rw [y]; rfl
    · intro y; exact i_eq y
  rw [e0, hw]
  have e1 : x.toBitVec >>> u = 0#32 ↔ x.toBitVec.toNat / 2 ^ u = 0 := by
    rw [← BitVec.toNat_inj, BitVec.toNat_ushiftRight, Nat.shiftRight_eq_div_pow]
    rfl
  rw [e1, Nat.div_eq_zero_iff]
  have hp : 0 < 2 ^ u := Nat.pow_pos (by decide)
  have e2 : (2 : Int) ^ u = ((2 ^ u : Nat) : Int) := by rw [Int.natCast_pow]; rfl
  rw [e2]
  omega
theorem k_bw {n : Nat} {x : Int32} : ∀ (u K : Nat), u < 32 → u < K → 1 ≤ wd x → wd x < 2 ^ (u + 1) → ∃ L, L ≤ 32 ∧ f_X1_bitsOfWord_3 n K x (nI u) = some (nI L) ∧ BL (wd x) L
  | u, 0, hu, hK, h1, h2 => by omega
  | 0, K + 1, hu, hK, h1, h2 => by
    have : wd x = 1 := by
      have : (2 : Int) ^ (0 + 1) = 2 := by decide
      omega
    refine ⟨1, by decide, ?_, Or.inr ⟨by decide, by rw [this]; decide, by rw [this]; decide⟩⟩
    rw [f_X1_bitsOfWord_3, if_neg (show ¬ (0 : Int32) < nI 0 by decide)]
    congr 1
    exact wd_inj (by rw [this]; decide)
  | u + 1, K + 1, hu, hK, h1, h2 => by
    rw [f_X1_bitsOfWord_3, if_pos (show (0 : Int32) < nI (u + 1) from nI_lt (a := 0) (by omega) (by omega))]
    have e2 : nI (u + 1) + (-1) = nI u := by
      rw [← Int32.sub_eq_add_neg, show (1 : Int32) = nI 1 from rfl, nI_mi (by omega)]; rfl
    by_cases c : wd x < 2 ^ (u + 1)
    · rw [if_pos ((u_shr hu).mpr c), e2]
      exact k_bw u K (by omega) (by omega) h1 c
    · rw [if_neg (fun y => c ((u_shr hu).mp y)), ← nI_succ]
      exact ⟨u + 1 + 1, by omega, rfl, Or.inr ⟨by omega, by
        show 2 ^ (u + 1) ≤ wd x
        omega, h2⟩⟩
theorem k_b7 {n len : Nat} {z : Nat → Int32} {i : Nat} (hn : 300 ≤ n) (hi : i < 4) (hlen : len ≤ 256) : ∀ (u K : Nat), u ≤ len → u < K → (∀ j, u ≤ j → j < len → z j = 0) → ∃ L, f_X1_bitsOf_7 n K z (nI i) (nI u - 1) = some (nI L) ∧ BL (pl 4294967296 (wz z) len) L
  | u, 0, hu, hK, hz => by omega
  | 0, K + 1, hu, hK, hz => by
    refine ⟨0, by rw [f_X1_bitsOf_7, if_pos (show nI 0 - 1 < 0 by decide)]; rfl, Or.inl ⟨?_, rfl⟩⟩
    exact (pl_zero (by decide) len (fun j _ => (wd_range _).1)).mpr (fun j hj => (wd_0 _).mp (hz j (by omega) hj))
  | u + 1, K + 1, hu, hK, hz => by
    have e1 : nI (u + 1) - 1 = nI u := by rw [show (1 : Int32) = nI 1 from rfl, nI_mi (by omega)]; rfl
    have e2 : nI u + (-1) = nI u - 1 := (Int32.sub_eq_add_neg _ _).symm
    have e3 : (32 : Int32) * nI u = nI (32 * u) := by rw [show (32 : Int32) = nI 32 from rfl, nI_tm]
    rw [f_X1_bitsOf_7, e1, if_neg (nI_not_neg (by omega)), if_neg (ix4 hi), if_neg (ix256 (by omega)), nI_clamp (by omega)]
    by_cases c : z u = 0
    · rw [if_pos c, e2]
      exact k_b7 hn hi hlen u K (by omega) (by omega) (fun j q1 q2 => by
        rcases (show j = u ∨ u + 1 ≤ j by omega) with rfl | y
        · exact c
        · exact hz j y q2)
    · have hw := wd_range (z u)
      have hw0 : wd (z u) ≠ 0 := fun y => c ((wd_0 _).mpr y)
      obtain ⟨L, b0, b1, b2⟩ := k_bw (n := n) (x := z u) 31 n (by decide) (by omega) (by omega) (by
        have : (2 : Int) ^ (31 + 1) = 4294967296 := by decide
        omega)
      have b1' : f_X1_bitsOfWord n (z u) = some (nI L) := b1
      rw [if_neg c, if_neg (ix4 hi), if_neg (show ¬ (nI u < 0 ∨ 256 ≤ u) by
        rintro (y | y)
        · exact nI_not_neg (by omega) y
        · omega), b1', Option.bind_some, e3, nI_pl]
      refine ⟨32 * u + L, rfl, ?_⟩
      exact BL_top (B := 4294967296) (b := 32) (s := u + 1) (by decide) (by decide) (by omega) hu (fun j _ => wd_range _) (fun j q1 q2 => (wd_0 _).mp (hz j q1 q2)) b2 hw0
theorem k_bits {n len : Nat} {z : Nat → Int32} {i : Nat} {v : Int} (hn : 300 ≤ n) (hi : i < 4) (hlen : len ≤ 256) (h : szr z len v) : ∃ L, f_X1_bitsOf n (nI len) z (nI i) = some (nI L) ∧ BL (mS v) L := by
  obtain ⟨L, a, b⟩ := k_b7 (n := n) (z := z) (i := i) hn hi hlen len n (by omega) (by omega) (fun j q1 q2 => by omega)
  refine ⟨L, a, ?_⟩
  rw [← show pl 4294967296 (wz z) len = mS v from h]
  exact b
theorem p32 (x : Nat) : (4294967296 : Int) ^ x = 2 ^ (32 * x) := by rw [Int.pow_mul]; rfl
theorem k_word {n len : Nat} {z : Nat → Int32} {i k : Nat} {v : Int} (hi : i < 4) (hk : k < 512) (hlen : len ≤ 256) (h : szr z len v) : ∃ x, f_X1_wordOf n (nI len) z (nI i) (nI k) = some x ∧ wd x = (mS v / 4294967296 ^ k) % 4294967296 := by
  have h' : pl 4294967296 (wz z) len = mS v := h
  unfold f_X1_wordOf
  rcases (show k < len ∨ len ≤ k by omega) with q | q
  · rw [if_pos (nI_lt q (by omega)), if_neg (ix4 hi), if_neg (ix256 (by omega)), nI_clamp (by omega)]
    refine ⟨_, rfl, ?_⟩
    rw [← h', pl_digit (by decide) (fun j _ => wd_range _) q]
  · rw [if_neg (fun y => by have := (nI_ltI (by omega) (by omega)).mp y; omega)]
    refine ⟨0, rfl, ?_⟩
    obtain ⟨q1, q2⟩ := pl_range (B := 4294967296) (r := wz z) (by decide) len (fun j _ => wd_range _)
    have : (4294967296 : Int) ^ len ≤ 4294967296 ^ k := by
      rw [p32, p32]
      exact pow2_le (by omega)
    rw [← h', Int.ediv_eq_zero_of_lt q1 (by omega)]
    rfl
theorem l_shl32 {v : Int} : jL v <<< ((32 : Int32).toInt64 &&& 63) = jL (v * 4294967296) := by
  have e : jL v <<< ((32 : Int32).toInt64 &&& 63) = jL v * jL 4294967296 := by
    apply l_eq
    show (jL v).toBitVec <<< 32 = (jL v).toBitVec * (jL 4294967296).toBitVec
    apply BitVec.eq_of_toNat_eq
    rw [BitVec.toNat_shiftLeft, BitVec.toNat_mul, Nat.shiftLeft_eq]
    rfl
  rw [e, jL_mul]
theorem k_r17 {n len : Nat} {z sg : Nat → Int32} {i : Nat} {q : Int32} {v : Int} (hi : i < 4) (hlen : len ≤ 256) (hq : 1 ≤ q.toInt) (hsg : sg i = sg32 v) :
    ∀ (j K : Nat), j ≤ len → j < K → ∃ x, x = (pl 4294967296 (wz z) len) % q.toInt ∧ f_X1_residueOf_17 n K z sg (nI i) q (jL ((pl 4294967296 (fun x => wz z (j + x)) (len - j)) % q.toInt)) (nI j - 1)
      = some (if v < 0 ∧ x ≠ 0 then (q.toInt64 - jL x).toInt32 else (jL x).toInt32)
  | j, 0, hj, hK => by omega
  | 0, K + 1, hj, hK => by
    have hq2 := Int32.toInt_lt q
    refine ⟨_, rfl, ?_⟩
    have e0 : pl 4294967296 (fun x => wz z (0 + x)) (len - 0) = pl 4294967296 (wz z) len := by
      simp only [Nat.zero_add, Nat.sub_zero]
    rw [e0]
    have r0 := Int.emod_nonneg (pl 4294967296 (wz z) len) (show q.toInt ≠ 0 by omega)
    have r1 := Int.emod_lt_of_pos (pl 4294967296 (wz z) len) (show 0 < q.toInt by omega)
    rw [f_X1_residueOf_17, if_pos (show nI 0 - 1 < 0 by decide), if_neg (ix4 hi), nI_clamp (by omega), hsg]
    generalize (pl 4294967296 (wz z) len) % q.toInt = x at *
    by_cases c1 : v < 0
    · rw [if_pos (sg_neg c1)]
      by_cases c2 : x = 0
      · subst c2
        rw [if_pos (show jL 0 = 0 from rfl), if_neg (fun y => y.2 rfl)]
      · rw [if_neg (fun y : jL x = 0 => c2 ((jL_eq ⟨by omega, by omega⟩ jR_0).mp y)), if_pos ⟨c1, c2⟩]
    · rw [if_neg (sg_not c1), if_neg (fun y => c1 y.1)]
  | j + 1, K + 1, hj, hK => by
    have hq2 := Int32.toInt_lt q
    obtain ⟨x, hx, ih⟩ := k_r17 (n := n) (z := z) (sg := sg) (q := q) hi hlen hq hsg j K (by omega) (by omega)
    refine ⟨x, hx, ?_⟩
    have e1 : nI (j + 1) - 1 = nI j := by rw [show (1 : Int32) = nI 1 from rfl, nI_mi (by omega)]; rfl
    have e2 : nI j + (-1) = nI j - 1 := (Int32.sub_eq_add_neg _ _).symm
    have r0 := Int.emod_nonneg (pl 4294967296 (fun x => wz z (j + 1 + x)) (len - (j + 1))) (show q.toInt ≠ 0 by omega)
    have r1 := Int.emod_lt_of_pos (pl 4294967296 (fun x => wz z (j + 1 + x)) (len - (j + 1))) (show 0 < q.toInt by omega)
    obtain ⟨d0, d1⟩ : 0 ≤ wd (z j) ∧ wd (z j) < 4294967296 := wd_range (z j)
    have hpl : pl 4294967296 (fun x => wz z (j + x)) (len - j) = wz z j + 4294967296 * pl 4294967296 (fun x => wz z (j + 1 + x)) (len - (j + 1)) := by
      rw [show len - j = len - (j + 1) + 1 by omega, pl_head]
      show wz z j + _ = _
      congr 2
      exact pl_congr _ (fun x _ => by rw [show j + (x + 1) = j + 1 + x by omega])
    rw [f_X1_residueOf_17, e1, if_neg (nI_not_neg (by omega)), if_neg (ix4 hi), if_neg (ix256 (by omega)), nI_clamp (by omega), i32_jL q]
    have hq0 : ¬ jL q.toInt = 0 := fun y => by
      have := (jL_eq (a := q.toInt) ⟨by omega, by omega⟩ jR_0).mp y
      omega
    rw [if_neg hq0, wd_mask, l_shl32, jL_add, rem_full (by omega) (by omega) ⟨by omega, by omega⟩, e2]
    rw [hpl] at ih
    rw [i32_jL q] at ih
    rw [← res_step] at ih
    exact ih
theorem k_res {n len : Nat} {z sg : Nat → Int32} {i : Nat} {q : Int32} {v : Int} (hn : 300 ≤ n) (hi : i < 4) (hlen : len ≤ 256) (hq : 1 ≤ q.toInt) (hsg : sg i = sg32 v) (h : szr z len v) : f_X1_residueOf n (nI len) z sg (nI i) q = some (rsd v q) := by
  unfold f_X1_residueOf
  rw [if_neg (fun y : q < 1 => by rw [Int32.lt_iff_toInt_lt] at y; have : (1 : Int32).toInt = 1 := rfl; omega)]
  obtain ⟨x, hx, hr⟩ := k_r17 (n := n) (z := z) (sg := sg) (v := v) hi hlen hq hsg len n (by omega) (by omega)
  have e0 : (pl 4294967296 (fun x => wz z (len + x)) (len - len)) % q.toInt = 0 := by
    rw [Nat.sub_self, pl]; exact Int.zero_emod _
  rw [e0] at hr
  have hr' : f_X1_residueOf_17 n n z sg (nI i) q 0 (nI len - 1) = _ := hr
  rw [hr', jL_i32 v q x (by rw [hx]; rw [← show pl 4294967296 (wz z) len = mS v from h])]
